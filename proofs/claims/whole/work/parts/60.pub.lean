set_option maxRecDepth 100000 in
set_option maxHeartbeats 400000 in
theorem c_X4_sets_ok (w : GW) (tu : Int64) (sg : Sg) (j : Nat) (n : Nat) (hj : j < 6) (hn : n ≤ 9) (hok : ROk (rowC sg 1)) (nx sz : Nat) (hn5 : nx < 5) (hnx : sg 11 1 = nI nx) (hsz : sg 11 2 = nI sz) (hs5 : sz ≤ 5) : Kt w yX4_sets cX4_sets 3 (some .int) 4 [.ref (ad w 0), .int (nI j), .int (nI n)] sg tu (some (.int ((wrR sg 6 (rowC sg 1)) 2 j))) (us (wrR (wrR (wrR sg 6 (rowC sg 1)) 1 (upd (rowC (wrR sg 6 (rowC sg 1)) 1) j (nI n))) (13 + 5 * nx) (rowC (wrR (wrR sg 6 (rowC sg 1)) 1 (upd (rowC (wrR sg 6 (rowC sg 1)) 1) j (nI n))) 6)) 11 (upd (upd ((wrR (wrR sg 6 (rowC sg 1)) 1 (upd (rowC (wrR sg 6 (rowC sg 1)) 1) j (nI n))) 11) 1 (nI ((nx + 1) % 5))) 2 (nI (if sz < 5 then sz + 1 else 5)))) tu := by
  refine Kt.of2 RX4 rfl [(0, .ref (ad w 0)), (1, .int (nI j)), (2, .int (nI n))] (by decide) rfl (Nat.le_of_ble_eq_true rfl) (fun z C E => ?_)
  refine g_aload_n C 0 rfl rfl dX4_sets_0 ?_
  refine g_callV0 [] C (c_X4_remember w tu sg  ) mt_X4_remember e_0 rfl ml_X4_40 im_X4_remember se_X4_remember (by decide) rfl (Nat.le_of_ble_eq_true rfl) dX4_sets_1 ?_
  refine g_eq (sg' := (wrR sg 6 (rowC sg 1))) (L' := [(0, .ref (ad w 0)), (1, .int (nI j)), (2, .int (nI n))]) (S' := []) rfl rfl rfl rfl ?_
  refine g_aload_n C 0 rfl rfl dX4_sets_4 ?_
  refine g_aload_n C 0 rfl rfl dX4_sets_5 ?_
  refine g_getR C (j := 0) cls4 e_0 rfl (by decide) fl_X4_10 dX4_sets_6 ?_
  refine g_iload_n C 1 rfl rfl dX4_sets_9 ?_
  refine g_iload_n C 2 rfl rfl dX4_sets_10 ?_
  refine g_callV1 [.ref (ad w 0)] C (c_X3_setDrum_ok w tu (wrR sg 6 (rowC sg 1)) j n hj hn) mt_X3_setDrum e_1 rfl ml_X4_43 im_X3_setDrum se_X3_setDrum (by decide) rfl (Nat.le_of_ble_eq_true rfl) dX4_sets_11 ?_
  refine g_eq (sg' := (wrR (wrR sg 6 (rowC sg 1)) 1 (upd (rowC (wrR sg 6 (rowC sg 1)) 1) j (nI n)))) (L' := [(0, .ref (ad w 0)), (1, .int (nI j)), (2, .int (nI n))]) (S' := [.int ((wrR sg 6 (rowC sg 1)) 2 j), .ref (ad w 0)]) rfl rfl rfl rfl ?_
  refine g_callV1 [] C (c_X4_settled_ok w tu (wrR (wrR sg 6 (rowC sg 1)) 1 (upd (rowC (wrR sg 6 (rowC sg 1)) 1) j (nI n))) ((wrR sg 6 (rowC sg 1)) 2 j) nx sz hn5 (by rw [S2_11]; exact hnx) (by rw [S2_11]; exact hsz) hs5 (nn_d hok hj)) mt_X4_settled e_0 rfl ml_X4_47 im_X4_settled se_X4_settled (by decide) rfl (Nat.le_of_ble_eq_true rfl) dX4_sets_14 ?_
  refine g_eq (sg' := (us (wrR (wrR (wrR sg 6 (rowC sg 1)) 1 (upd (rowC (wrR sg 6 (rowC sg 1)) 1) j (nI n))) (13 + 5 * nx) (rowC (wrR (wrR sg 6 (rowC sg 1)) 1 (upd (rowC (wrR sg 6 (rowC sg 1)) 1) j (nI n))) 6)) 11 (upd (upd ((wrR (wrR sg 6 (rowC sg 1)) 1 (upd (rowC (wrR sg 6 (rowC sg 1)) 1) j (nI n))) 11) 1 (nI ((nx + 1) % 5))) 2 (nI (if sz < 5 then sz + 1 else 5))))) (L' := [(0, .ref (ad w 0)), (1, .int (nI j)), (2, .int (nI n))]) (S' := [.int ((wrR sg 6 (rowC sg 1)) 2 j)]) rfl rfl rfl rfl ?_
  exact g_iret C E dX4_sets_17 rfl Sq.rf rfl
set_option maxRecDepth 100000 in
set_option maxHeartbeats 400000 in
theorem c_X4_sets_bad (w : GW) (tu : Int64) (sg : Sg) (x : Int32) (v : Int32) (h : ¬ ((0 ≤ Int32.toInt64 x ∧ Int32.toInt64 x ≤ 5) ∧ (0 ≤ Int32.toInt64 v ∧ Int32.toInt64 v ≤ 9))) : Kt w yX4_sets cX4_sets 3 (some .int) 3 [.ref (ad w 0), .int x, .int v] sg tu (some (.int (-2))) (us (wrR (wrR sg 6 (rowC sg 1)) 1 (rowC (wrR sg 6 (rowC sg 1)) 6)) 0 (upd ((wrR (wrR sg 6 (rowC sg 1)) 1 (rowC (wrR sg 6 (rowC sg 1)) 6)) 0) 5 (((wrR (wrR sg 6 (rowC sg 1)) 1 (rowC (wrR sg 6 (rowC sg 1)) 6)) 0) 5 + nI 1))) tu := by
  refine Kt.of2 RX4 rfl [(0, .ref (ad w 0)), (1, .int x), (2, .int v)] (by decide) rfl (Nat.le_of_ble_eq_true rfl) (fun z C E => ?_)
  refine g_aload_n C 0 rfl rfl dX4_sets_0 ?_
  refine g_callV0 [] C (c_X4_remember w tu sg  ) mt_X4_remember e_0 rfl ml_X4_40 im_X4_remember se_X4_remember (by decide) rfl (Nat.le_of_ble_eq_true rfl) dX4_sets_1 ?_
  refine g_eq (sg' := (wrR sg 6 (rowC sg 1))) (L' := [(0, .ref (ad w 0)), (1, .int x), (2, .int v)]) (S' := []) rfl rfl rfl rfl ?_
  refine g_aload_n C 0 rfl rfl dX4_sets_4 ?_
  refine g_aload_n C 0 rfl rfl dX4_sets_5 ?_
  refine g_getR C (j := 0) cls4 e_0 rfl (by decide) fl_X4_10 dX4_sets_6 ?_
  refine g_iload_n C 1 rfl rfl dX4_sets_9 ?_
  refine g_iload_n C 2 rfl rfl dX4_sets_10 ?_
  refine g_callV1 [.ref (ad w 0)] C (c_X3_setDrum_bad w tu (wrR sg 6 (rowC sg 1)) x v h) mt_X3_setDrum e_1 rfl ml_X4_43 im_X3_setDrum se_X3_setDrum (by decide) rfl (Nat.le_of_ble_eq_true rfl) dX4_sets_11 ?_
  refine g_eq (L' := [(0, .ref (ad w 0)), (1, .int x), (2, .int v)]) (S' := [.int (-2), .ref (ad w 0)]) rfl rfl rfl rfl ?_
  refine g_callV1 [] C (c_X4_settled_bad w tu (wrR sg 6 (rowC sg 1))  ) mt_X4_settled e_0 rfl ml_X4_47 im_X4_settled se_X4_settled (by decide) rfl (Nat.le_of_ble_eq_true rfl) dX4_sets_14 ?_
  refine g_eq (sg' := (us (wrR (wrR sg 6 (rowC sg 1)) 1 (rowC (wrR sg 6 (rowC sg 1)) 6)) 0 (upd ((wrR (wrR sg 6 (rowC sg 1)) 1 (rowC (wrR sg 6 (rowC sg 1)) 6)) 0) 5 (((wrR (wrR sg 6 (rowC sg 1)) 1 (rowC (wrR sg 6 (rowC sg 1)) 6)) 0) 5 + nI 1)))) (L' := [(0, .ref (ad w 0)), (1, .int x), (2, .int v)]) (S' := [.int (-2)]) rfl rfl rfl rfl ?_
  exact g_iret C E dX4_sets_17 rfl Sq.rf rfl
set_option maxRecDepth 100000 in
set_option maxHeartbeats 400000 in
theorem c_X4_input_ok (w : GW) (tu : Int64) (sg : Sg) (n : Nat) (hn : n ≤ 999999) (hok : ROk (rowC sg 1)) (nx sz : Nat) (hn5 : nx < 5) (hnx : sg 11 1 = nI nx) (hsz : sg 11 2 = nI sz) (hs5 : sz ≤ 5) : Kt w yX4_input cX4_input 2 (some .int) 4 [.ref (ad w 0), .int (nI n)] sg tu (some (.int (Int64.toInt32 (vlY ((wrR sg 6 (rowC sg 1)) 2) 6 0)))) (us (wrR (wrR (wrR sg 6 (rowC sg 1)) 1 (inR n (rowC (wrR sg 6 (rowC sg 1)) 1))) (13 + 5 * nx) (rowC (wrR (wrR sg 6 (rowC sg 1)) 1 (inR n (rowC (wrR sg 6 (rowC sg 1)) 1))) 6)) 11 (upd (upd ((wrR (wrR sg 6 (rowC sg 1)) 1 (inR n (rowC (wrR sg 6 (rowC sg 1)) 1))) 11) 1 (nI ((nx + 1) % 5))) 2 (nI (if sz < 5 then sz + 1 else 5)))) tu := by
  refine Kt.of2 RX4 rfl [(0, .ref (ad w 0)), (1, .int (nI n))] (by decide) rfl (Nat.le_of_ble_eq_true rfl) (fun z C E => ?_)
  refine g_aload_n C 0 rfl rfl dX4_input_0 ?_
  refine g_callV0 [] C (c_X4_remember w tu sg  ) mt_X4_remember e_0 rfl ml_X4_40 im_X4_remember se_X4_remember (by decide) rfl (Nat.le_of_ble_eq_true rfl) dX4_input_1 ?_
  refine g_eq (sg' := (wrR sg 6 (rowC sg 1))) (L' := [(0, .ref (ad w 0)), (1, .int (nI n))]) (S' := []) rfl rfl rfl rfl ?_
  refine g_aload_n C 0 rfl rfl dX4_input_4 ?_
  refine g_aload_n C 0 rfl rfl dX4_input_5 ?_
  refine g_getR C (j := 0) cls4 e_0 rfl (by decide) fl_X4_10 dX4_input_6 ?_
  refine g_iload_n C 1 rfl rfl dX4_input_9 ?_
  refine g_callV1 [.ref (ad w 0)] C (c_X3_setDrums_ok w tu (wrR sg 6 (rowC sg 1)) n hn) mt_X3_setDrums e_1 rfl ml_X4_51 im_X3_setDrums se_X3_setDrums (by decide) rfl (Nat.le_of_ble_eq_true rfl) dX4_input_10 ?_
  refine g_eq (sg' := (wrR (wrR sg 6 (rowC sg 1)) 1 (inR n (rowC (wrR sg 6 (rowC sg 1)) 1)))) (L' := [(0, .ref (ad w 0)), (1, .int (nI n))]) (S' := [.int (Int64.toInt32 (vlY ((wrR sg 6 (rowC sg 1)) 2) 6 0)), .ref (ad w 0)]) rfl rfl rfl rfl ?_
  refine g_callV1 [] C (c_X4_settled_ok w tu (wrR (wrR sg 6 (rowC sg 1)) 1 (inR n (rowC (wrR sg 6 (rowC sg 1)) 1))) (Int64.toInt32 (vlY ((wrR sg 6 (rowC sg 1)) 2) 6 0)) nx sz hn5 (by rw [S2_11]; exact hnx) (by rw [S2_11]; exact hsz) hs5 (nn_i (show ROk (rowC (wrR sg 6 (rowC sg 1)) 1) from (by rw [S1_r]; exact hok)))) mt_X4_settled e_0 rfl ml_X4_47 im_X4_settled se_X4_settled (by decide) rfl (Nat.le_of_ble_eq_true rfl) dX4_input_13 ?_
  refine g_eq (sg' := (us (wrR (wrR (wrR sg 6 (rowC sg 1)) 1 (inR n (rowC (wrR sg 6 (rowC sg 1)) 1))) (13 + 5 * nx) (rowC (wrR (wrR sg 6 (rowC sg 1)) 1 (inR n (rowC (wrR sg 6 (rowC sg 1)) 1))) 6)) 11 (upd (upd ((wrR (wrR sg 6 (rowC sg 1)) 1 (inR n (rowC (wrR sg 6 (rowC sg 1)) 1))) 11) 1 (nI ((nx + 1) % 5))) 2 (nI (if sz < 5 then sz + 1 else 5))))) (L' := [(0, .ref (ad w 0)), (1, .int (nI n))]) (S' := [.int (Int64.toInt32 (vlY ((wrR sg 6 (rowC sg 1)) 2) 6 0))]) rfl rfl rfl rfl ?_
  exact g_iret C E dX4_input_16 rfl Sq.rf rfl
set_option maxRecDepth 100000 in
set_option maxHeartbeats 400000 in
theorem c_X4_input_bad (w : GW) (tu : Int64) (sg : Sg) (v : Int32) (h : ¬ (0 ≤ Int32.toInt64 v ∧ Int32.toInt64 v ≤ 999999)) : Kt w yX4_input cX4_input 2 (some .int) 3 [.ref (ad w 0), .int v] sg tu (some (.int (-2))) (us (wrR (wrR sg 6 (rowC sg 1)) 1 (rowC (wrR sg 6 (rowC sg 1)) 6)) 0 (upd ((wrR (wrR sg 6 (rowC sg 1)) 1 (rowC (wrR sg 6 (rowC sg 1)) 6)) 0) 5 (((wrR (wrR sg 6 (rowC sg 1)) 1 (rowC (wrR sg 6 (rowC sg 1)) 6)) 0) 5 + nI 1))) tu := by
  refine Kt.of2 RX4 rfl [(0, .ref (ad w 0)), (1, .int v)] (by decide) rfl (Nat.le_of_ble_eq_true rfl) (fun z C E => ?_)
  refine g_aload_n C 0 rfl rfl dX4_input_0 ?_
  refine g_callV0 [] C (c_X4_remember w tu sg  ) mt_X4_remember e_0 rfl ml_X4_40 im_X4_remember se_X4_remember (by decide) rfl (Nat.le_of_ble_eq_true rfl) dX4_input_1 ?_
  refine g_eq (sg' := (wrR sg 6 (rowC sg 1))) (L' := [(0, .ref (ad w 0)), (1, .int v)]) (S' := []) rfl rfl rfl rfl ?_
  refine g_aload_n C 0 rfl rfl dX4_input_4 ?_
  refine g_aload_n C 0 rfl rfl dX4_input_5 ?_
  refine g_getR C (j := 0) cls4 e_0 rfl (by decide) fl_X4_10 dX4_input_6 ?_
  refine g_iload_n C 1 rfl rfl dX4_input_9 ?_
  refine g_callV1 [.ref (ad w 0)] C (c_X3_setDrums_bad w tu (wrR sg 6 (rowC sg 1)) v h) mt_X3_setDrums e_1 rfl ml_X4_51 im_X3_setDrums se_X3_setDrums (by decide) rfl (Nat.le_of_ble_eq_true rfl) dX4_input_10 ?_
  refine g_eq (L' := [(0, .ref (ad w 0)), (1, .int v)]) (S' := [.int (-2), .ref (ad w 0)]) rfl rfl rfl rfl ?_
  refine g_callV1 [] C (c_X4_settled_bad w tu (wrR sg 6 (rowC sg 1))  ) mt_X4_settled e_0 rfl ml_X4_47 im_X4_settled se_X4_settled (by decide) rfl (Nat.le_of_ble_eq_true rfl) dX4_input_13 ?_
  refine g_eq (sg' := (us (wrR (wrR sg 6 (rowC sg 1)) 1 (rowC (wrR sg 6 (rowC sg 1)) 6)) 0 (upd ((wrR (wrR sg 6 (rowC sg 1)) 1 (rowC (wrR sg 6 (rowC sg 1)) 6)) 0) 5 (((wrR (wrR sg 6 (rowC sg 1)) 1 (rowC (wrR sg 6 (rowC sg 1)) 6)) 0) 5 + nI 1)))) (L' := [(0, .ref (ad w 0)), (1, .int v)]) (S' := [.int (-2)]) rfl rfl rfl rfl ?_
  exact g_iret C E dX4_input_16 rfl Sq.rf rfl
set_option maxRecDepth 100000 in
set_option maxHeartbeats 400000 in
theorem c_X4_shifts_ok (w : GW) (tu : Int64) (sg : Sg) (n : Nat) (hn : n ≤ 6) (hok : ROk (rowC sg 1)) (nx sz : Nat) (hn5 : nx < 5) (hnx : sg 11 1 = nI nx) (hsz : sg 11 2 = nI sz) (hs5 : sz ≤ 5) : Kt w yX4_shifts cX4_shifts 2 (some .int) 4 [.ref (ad w 0), .int (nI n)] sg tu (some (.int ((wrR sg 6 (rowC sg 1)) 1 4))) (us (wrR (wrR (wrR sg 6 (rowC sg 1)) 1 (upd (rowC (wrR sg 6 (rowC sg 1)) 1) 31 (nI n))) (13 + 5 * nx) (rowC (wrR (wrR sg 6 (rowC sg 1)) 1 (upd (rowC (wrR sg 6 (rowC sg 1)) 1) 31 (nI n))) 6)) 11 (upd (upd ((wrR (wrR sg 6 (rowC sg 1)) 1 (upd (rowC (wrR sg 6 (rowC sg 1)) 1) 31 (nI n))) 11) 1 (nI ((nx + 1) % 5))) 2 (nI (if sz < 5 then sz + 1 else 5)))) tu := by
  refine Kt.of2 RX4 rfl [(0, .ref (ad w 0)), (1, .int (nI n))] (by decide) rfl (Nat.le_of_ble_eq_true rfl) (fun z C E => ?_)
  refine g_aload_n C 0 rfl rfl dX4_shifts_0 ?_
  refine g_callV0 [] C (c_X4_remember w tu sg  ) mt_X4_remember e_0 rfl ml_X4_40 im_X4_remember se_X4_remember (by decide) rfl (Nat.le_of_ble_eq_true rfl) dX4_shifts_1 ?_
  refine g_eq (sg' := (wrR sg 6 (rowC sg 1))) (L' := [(0, .ref (ad w 0)), (1, .int (nI n))]) (S' := []) rfl rfl rfl rfl ?_
  refine g_aload_n C 0 rfl rfl dX4_shifts_4 ?_
  refine g_aload_n C 0 rfl rfl dX4_shifts_5 ?_
  refine g_getR C (j := 0) cls4 e_0 rfl (by decide) fl_X4_10 dX4_shifts_6 ?_
  refine g_iload_n C 1 rfl rfl dX4_shifts_9 ?_
  refine g_callV1 [.ref (ad w 0)] C (c_X3_setShift_ok w tu (wrR sg 6 (rowC sg 1)) n hn) mt_X3_setShift e_1 rfl ml_X4_54 im_X3_setShift se_X3_setShift (by decide) rfl (Nat.le_of_ble_eq_true rfl) dX4_shifts_10 ?_
  refine g_eq (sg' := (wrR (wrR sg 6 (rowC sg 1)) 1 (upd (rowC (wrR sg 6 (rowC sg 1)) 1) 31 (nI n)))) (L' := [(0, .ref (ad w 0)), (1, .int (nI n))]) (S' := [.int ((wrR sg 6 (rowC sg 1)) 1 4), .ref (ad w 0)]) rfl rfl rfl rfl ?_
  refine g_callV1 [] C (c_X4_settled_ok w tu (wrR (wrR sg 6 (rowC sg 1)) 1 (upd (rowC (wrR sg 6 (rowC sg 1)) 1) 31 (nI n))) ((wrR sg 6 (rowC sg 1)) 1 4) nx sz hn5 (by rw [S2_11]; exact hnx) (by rw [S2_11]; exact hsz) hs5 (nn_s hok)) mt_X4_settled e_0 rfl ml_X4_47 im_X4_settled se_X4_settled (by decide) rfl (Nat.le_of_ble_eq_true rfl) dX4_shifts_13 ?_
  refine g_eq (sg' := (us (wrR (wrR (wrR sg 6 (rowC sg 1)) 1 (upd (rowC (wrR sg 6 (rowC sg 1)) 1) 31 (nI n))) (13 + 5 * nx) (rowC (wrR (wrR sg 6 (rowC sg 1)) 1 (upd (rowC (wrR sg 6 (rowC sg 1)) 1) 31 (nI n))) 6)) 11 (upd (upd ((wrR (wrR sg 6 (rowC sg 1)) 1 (upd (rowC (wrR sg 6 (rowC sg 1)) 1) 31 (nI n))) 11) 1 (nI ((nx + 1) % 5))) 2 (nI (if sz < 5 then sz + 1 else 5))))) (L' := [(0, .ref (ad w 0)), (1, .int (nI n))]) (S' := [.int ((wrR sg 6 (rowC sg 1)) 1 4)]) rfl rfl rfl rfl ?_
  exact g_iret C E dX4_shifts_16 rfl Sq.rf rfl
set_option maxRecDepth 100000 in
set_option maxHeartbeats 400000 in
theorem c_X4_shifts_bad (w : GW) (tu : Int64) (sg : Sg) (v : Int32) (h : ¬ (0 ≤ Int32.toInt64 v ∧ Int32.toInt64 v ≤ 6)) : Kt w yX4_shifts cX4_shifts 2 (some .int) 3 [.ref (ad w 0), .int v] sg tu (some (.int (-2))) (us (wrR (wrR sg 6 (rowC sg 1)) 1 (rowC (wrR sg 6 (rowC sg 1)) 6)) 0 (upd ((wrR (wrR sg 6 (rowC sg 1)) 1 (rowC (wrR sg 6 (rowC sg 1)) 6)) 0) 5 (((wrR (wrR sg 6 (rowC sg 1)) 1 (rowC (wrR sg 6 (rowC sg 1)) 6)) 0) 5 + nI 1))) tu := by
  refine Kt.of2 RX4 rfl [(0, .ref (ad w 0)), (1, .int v)] (by decide) rfl (Nat.le_of_ble_eq_true rfl) (fun z C E => ?_)
  refine g_aload_n C 0 rfl rfl dX4_shifts_0 ?_
  refine g_callV0 [] C (c_X4_remember w tu sg  ) mt_X4_remember e_0 rfl ml_X4_40 im_X4_remember se_X4_remember (by decide) rfl (Nat.le_of_ble_eq_true rfl) dX4_shifts_1 ?_
  refine g_eq (sg' := (wrR sg 6 (rowC sg 1))) (L' := [(0, .ref (ad w 0)), (1, .int v)]) (S' := []) rfl rfl rfl rfl ?_
  refine g_aload_n C 0 rfl rfl dX4_shifts_4 ?_
  refine g_aload_n C 0 rfl rfl dX4_shifts_5 ?_
  refine g_getR C (j := 0) cls4 e_0 rfl (by decide) fl_X4_10 dX4_shifts_6 ?_
  refine g_iload_n C 1 rfl rfl dX4_shifts_9 ?_
  refine g_callV1 [.ref (ad w 0)] C (c_X3_setShift_bad w tu (wrR sg 6 (rowC sg 1)) v h) mt_X3_setShift e_1 rfl ml_X4_54 im_X3_setShift se_X3_setShift (by decide) rfl (Nat.le_of_ble_eq_true rfl) dX4_shifts_10 ?_
  refine g_eq (L' := [(0, .ref (ad w 0)), (1, .int v)]) (S' := [.int (-2), .ref (ad w 0)]) rfl rfl rfl rfl ?_
  refine g_callV1 [] C (c_X4_settled_bad w tu (wrR sg 6 (rowC sg 1))  ) mt_X4_settled e_0 rfl ml_X4_47 im_X4_settled se_X4_settled (by decide) rfl (Nat.le_of_ble_eq_true rfl) dX4_shifts_13 ?_
  refine g_eq (sg' := (us (wrR (wrR sg 6 (rowC sg 1)) 1 (rowC (wrR sg 6 (rowC sg 1)) 6)) 0 (upd ((wrR (wrR sg 6 (rowC sg 1)) 1 (rowC (wrR sg 6 (rowC sg 1)) 6)) 0) 5 (((wrR (wrR sg 6 (rowC sg 1)) 1 (rowC (wrR sg 6 (rowC sg 1)) 6)) 0) 5 + nI 1)))) (L' := [(0, .ref (ad w 0)), (1, .int v)]) (S' := [.int (-2)]) rfl rfl rfl rfl ?_
  exact g_iret C E dX4_shifts_16 rfl Sq.rf rfl
set_option maxRecDepth 100000 in
set_option maxHeartbeats 400000 in
theorem c_X4_reaches_ok (w : GW) (tu : Int64) (sg : Sg) (n : Nat) (hn : n ≤ 12) (hok : ROk (rowC sg 1)) (nx sz : Nat) (hn5 : nx < 5) (hnx : sg 11 1 = nI nx) (hsz : sg 11 2 = nI sz) (hs5 : sz ≤ 5) : Kt w yX4_reaches cX4_reaches 2 (some .int) 4 [.ref (ad w 0), .int (nI n)] sg tu (some (.int ((wrR sg 6 (rowC sg 1)) 1 5))) (us (wrR (wrR (wrR sg 6 (rowC sg 1)) 1 (upd (rowC (wrR sg 6 (rowC sg 1)) 1) 32 (nI n))) (13 + 5 * nx) (rowC (wrR (wrR sg 6 (rowC sg 1)) 1 (upd (rowC (wrR sg 6 (rowC sg 1)) 1) 32 (nI n))) 6)) 11 (upd (upd ((wrR (wrR sg 6 (rowC sg 1)) 1 (upd (rowC (wrR sg 6 (rowC sg 1)) 1) 32 (nI n))) 11) 1 (nI ((nx + 1) % 5))) 2 (nI (if sz < 5 then sz + 1 else 5)))) tu := by
  refine Kt.of2 RX4 rfl [(0, .ref (ad w 0)), (1, .int (nI n))] (by decide) rfl (Nat.le_of_ble_eq_true rfl) (fun z C E => ?_)
  refine g_aload_n C 0 rfl rfl dX4_reaches_0 ?_
  refine g_callV0 [] C (c_X4_remember w tu sg  ) mt_X4_remember e_0 rfl ml_X4_40 im_X4_remember se_X4_remember (by decide) rfl (Nat.le_of_ble_eq_true rfl) dX4_reaches_1 ?_
  refine g_eq (sg' := (wrR sg 6 (rowC sg 1))) (L' := [(0, .ref (ad w 0)), (1, .int (nI n))]) (S' := []) rfl rfl rfl rfl ?_
  refine g_aload_n C 0 rfl rfl dX4_reaches_4 ?_
  refine g_aload_n C 0 rfl rfl dX4_reaches_5 ?_
  refine g_getR C (j := 0) cls4 e_0 rfl (by decide) fl_X4_10 dX4_reaches_6 ?_
  refine g_iload_n C 1 rfl rfl dX4_reaches_9 ?_
  refine g_callV1 [.ref (ad w 0)] C (c_X3_setReach_ok w tu (wrR sg 6 (rowC sg 1)) n hn) mt_X3_setReach e_1 rfl ml_X4_57 im_X3_setReach se_X3_setReach (by decide) rfl (Nat.le_of_ble_eq_true rfl) dX4_reaches_10 ?_
  refine g_eq (sg' := (wrR (wrR sg 6 (rowC sg 1)) 1 (upd (rowC (wrR sg 6 (rowC sg 1)) 1) 32 (nI n)))) (L' := [(0, .ref (ad w 0)), (1, .int (nI n))]) (S' := [.int ((wrR sg 6 (rowC sg 1)) 1 5), .ref (ad w 0)]) rfl rfl rfl rfl ?_
  refine g_callV1 [] C (c_X4_settled_ok w tu (wrR (wrR sg 6 (rowC sg 1)) 1 (upd (rowC (wrR sg 6 (rowC sg 1)) 1) 32 (nI n))) ((wrR sg 6 (rowC sg 1)) 1 5) nx sz hn5 (by rw [S2_11]; exact hnx) (by rw [S2_11]; exact hsz) hs5 (nn_r hok)) mt_X4_settled e_0 rfl ml_X4_47 im_X4_settled se_X4_settled (by decide) rfl (Nat.le_of_ble_eq_true rfl) dX4_reaches_13 ?_
  refine g_eq (sg' := (us (wrR (wrR (wrR sg 6 (rowC sg 1)) 1 (upd (rowC (wrR sg 6 (rowC sg 1)) 1) 32 (nI n))) (13 + 5 * nx) (rowC (wrR (wrR sg 6 (rowC sg 1)) 1 (upd (rowC (wrR sg 6 (rowC sg 1)) 1) 32 (nI n))) 6)) 11 (upd (upd ((wrR (wrR sg 6 (rowC sg 1)) 1 (upd (rowC (wrR sg 6 (rowC sg 1)) 1) 32 (nI n))) 11) 1 (nI ((nx + 1) % 5))) 2 (nI (if sz < 5 then sz + 1 else 5))))) (L' := [(0, .ref (ad w 0)), (1, .int (nI n))]) (S' := [.int ((wrR sg 6 (rowC sg 1)) 1 5)]) rfl rfl rfl rfl ?_
  exact g_iret C E dX4_reaches_16 rfl Sq.rf rfl
set_option maxRecDepth 100000 in
set_option maxHeartbeats 400000 in
theorem c_X4_reaches_bad (w : GW) (tu : Int64) (sg : Sg) (v : Int32) (h : ¬ (0 ≤ Int32.toInt64 v ∧ Int32.toInt64 v ≤ 12)) : Kt w yX4_reaches cX4_reaches 2 (some .int) 3 [.ref (ad w 0), .int v] sg tu (some (.int (-2))) (us (wrR (wrR sg 6 (rowC sg 1)) 1 (rowC (wrR sg 6 (rowC sg 1)) 6)) 0 (upd ((wrR (wrR sg 6 (rowC sg 1)) 1 (rowC (wrR sg 6 (rowC sg 1)) 6)) 0) 5 (((wrR (wrR sg 6 (rowC sg 1)) 1 (rowC (wrR sg 6 (rowC sg 1)) 6)) 0) 5 + nI 1))) tu := by
  refine Kt.of2 RX4 rfl [(0, .ref (ad w 0)), (1, .int v)] (by decide) rfl (Nat.le_of_ble_eq_true rfl) (fun z C E => ?_)
  refine g_aload_n C 0 rfl rfl dX4_reaches_0 ?_
  refine g_callV0 [] C (c_X4_remember w tu sg  ) mt_X4_remember e_0 rfl ml_X4_40 im_X4_remember se_X4_remember (by decide) rfl (Nat.le_of_ble_eq_true rfl) dX4_reaches_1 ?_
  refine g_eq (sg' := (wrR sg 6 (rowC sg 1))) (L' := [(0, .ref (ad w 0)), (1, .int v)]) (S' := []) rfl rfl rfl rfl ?_
  refine g_aload_n C 0 rfl rfl dX4_reaches_4 ?_
  refine g_aload_n C 0 rfl rfl dX4_reaches_5 ?_
  refine g_getR C (j := 0) cls4 e_0 rfl (by decide) fl_X4_10 dX4_reaches_6 ?_
  refine g_iload_n C 1 rfl rfl dX4_reaches_9 ?_
  refine g_callV1 [.ref (ad w 0)] C (c_X3_setReach_bad w tu (wrR sg 6 (rowC sg 1)) v h) mt_X3_setReach e_1 rfl ml_X4_57 im_X3_setReach se_X3_setReach (by decide) rfl (Nat.le_of_ble_eq_true rfl) dX4_reaches_10 ?_
  refine g_eq (L' := [(0, .ref (ad w 0)), (1, .int v)]) (S' := [.int (-2), .ref (ad w 0)]) rfl rfl rfl rfl ?_
  refine g_callV1 [] C (c_X4_settled_bad w tu (wrR sg 6 (rowC sg 1))  ) mt_X4_settled e_0 rfl ml_X4_47 im_X4_settled se_X4_settled (by decide) rfl (Nat.le_of_ble_eq_true rfl) dX4_reaches_13 ?_
  refine g_eq (sg' := (us (wrR (wrR sg 6 (rowC sg 1)) 1 (rowC (wrR sg 6 (rowC sg 1)) 6)) 0 (upd ((wrR (wrR sg 6 (rowC sg 1)) 1 (rowC (wrR sg 6 (rowC sg 1)) 6)) 0) 5 (((wrR (wrR sg 6 (rowC sg 1)) 1 (rowC (wrR sg 6 (rowC sg 1)) 6)) 0) 5 + nI 1)))) (L' := [(0, .ref (ad w 0)), (1, .int v)]) (S' := [.int (-2)]) rfl rfl rfl rfl ?_
  exact g_iret C E dX4_reaches_16 rfl Sq.rf rfl
set_option maxRecDepth 100000 in
set_option maxHeartbeats 400000 in
theorem c_X4_wears_ok (w : GW) (tu : Int64) (sg : Sg) (j : Nat) (t : Nat) (hj : j < 6) (ht1 : 1 ≤ t) (ht : t ≤ 9) (hok : ROk (rowC sg 1)) (nx sz : Nat) (hn5 : nx < 5) (hnx : sg 11 1 = nI nx) (hsz : sg 11 2 = nI sz) (hs5 : sz ≤ 5) : Kt w yX4_wears cX4_wears 3 (some .int) 4 [.ref (ad w 0), .int (nI j), .int (nI t)] sg tu (some (.int (bcX (((wrR sg 6 (rowC sg 1)) 3 j) ^^^ (nI 1 <<< ((nI t) &&& 31)))))) (us (wrR (wrR (wrR sg 6 (rowC sg 1)) 1 (upd (rowC (wrR sg 6 (rowC sg 1)) 1) (6 + j) (((wrR sg 6 (rowC sg 1)) 3 j) ^^^ (nI 1 <<< ((nI t) &&& 31))))) (13 + 5 * nx) (rowC (wrR (wrR sg 6 (rowC sg 1)) 1 (upd (rowC (wrR sg 6 (rowC sg 1)) 1) (6 + j) (((wrR sg 6 (rowC sg 1)) 3 j) ^^^ (nI 1 <<< ((nI t) &&& 31))))) 6)) 11 (upd (upd ((wrR (wrR sg 6 (rowC sg 1)) 1 (upd (rowC (wrR sg 6 (rowC sg 1)) 1) (6 + j) (((wrR sg 6 (rowC sg 1)) 3 j) ^^^ (nI 1 <<< ((nI t) &&& 31))))) 11) 1 (nI ((nx + 1) % 5))) 2 (nI (if sz < 5 then sz + 1 else 5)))) tu := by
  refine Kt.of2 RX4 rfl [(0, .ref (ad w 0)), (1, .int (nI j)), (2, .int (nI t))] (by decide) rfl (Nat.le_of_ble_eq_true rfl) (fun z C E => ?_)
  refine g_aload_n C 0 rfl rfl dX4_wears_0 ?_
  refine g_callV0 [] C (c_X4_remember w tu sg  ) mt_X4_remember e_0 rfl ml_X4_40 im_X4_remember se_X4_remember (by decide) rfl (Nat.le_of_ble_eq_true rfl) dX4_wears_1 ?_
  refine g_eq (sg' := (wrR sg 6 (rowC sg 1))) (L' := [(0, .ref (ad w 0)), (1, .int (nI j)), (2, .int (nI t))]) (S' := []) rfl rfl rfl rfl ?_
  refine g_aload_n C 0 rfl rfl dX4_wears_4 ?_
  refine g_aload_n C 0 rfl rfl dX4_wears_5 ?_
  refine g_getR C (j := 0) cls4 e_0 rfl (by decide) fl_X4_10 dX4_wears_6 ?_
  refine g_iload_n C 1 rfl rfl dX4_wears_9 ?_
  refine g_iload_n C 2 rfl rfl dX4_wears_10 ?_
  refine g_callV1 [.ref (ad w 0)] C (c_X3_wearTooth_ok w tu (wrR sg 6 (rowC sg 1)) j t hj ht1 ht) mt_X3_wearTooth e_1 rfl ml_X4_60 im_X3_wearTooth se_X3_wearTooth (by decide) rfl (Nat.le_of_ble_eq_true rfl) dX4_wears_11 ?_
  refine g_eq (sg' := (wrR (wrR sg 6 (rowC sg 1)) 1 (upd (rowC (wrR sg 6 (rowC sg 1)) 1) (6 + j) (((wrR sg 6 (rowC sg 1)) 3 j) ^^^ (nI 1 <<< ((nI t) &&& 31)))))) (L' := [(0, .ref (ad w 0)), (1, .int (nI j)), (2, .int (nI t))]) (S' := [.int (bcX (((wrR sg 6 (rowC sg 1)) 3 j) ^^^ (nI 1 <<< ((nI t) &&& 31)))), .ref (ad w 0)]) rfl rfl rfl rfl ?_
  refine g_callV1 [] C (c_X4_settled_ok w tu (wrR (wrR sg 6 (rowC sg 1)) 1 (upd (rowC (wrR sg 6 (rowC sg 1)) 1) (6 + j) (((wrR sg 6 (rowC sg 1)) 3 j) ^^^ (nI 1 <<< ((nI t) &&& 31))))) (bcX (((wrR sg 6 (rowC sg 1)) 3 j) ^^^ (nI 1 <<< ((nI t) &&& 31)))) nx sz hn5 (by rw [S2_11]; exact hnx) (by rw [S2_11]; exact hsz) hs5 (nn_w hok hj ht1 ht)) mt_X4_settled e_0 rfl ml_X4_47 im_X4_settled se_X4_settled (by decide) rfl (Nat.le_of_ble_eq_true rfl) dX4_wears_14 ?_
  refine g_eq (sg' := (us (wrR (wrR (wrR sg 6 (rowC sg 1)) 1 (upd (rowC (wrR sg 6 (rowC sg 1)) 1) (6 + j) (((wrR sg 6 (rowC sg 1)) 3 j) ^^^ (nI 1 <<< ((nI t) &&& 31))))) (13 + 5 * nx) (rowC (wrR (wrR sg 6 (rowC sg 1)) 1 (upd (rowC (wrR sg 6 (rowC sg 1)) 1) (6 + j) (((wrR sg 6 (rowC sg 1)) 3 j) ^^^ (nI 1 <<< ((nI t) &&& 31))))) 6)) 11 (upd (upd ((wrR (wrR sg 6 (rowC sg 1)) 1 (upd (rowC (wrR sg 6 (rowC sg 1)) 1) (6 + j) (((wrR sg 6 (rowC sg 1)) 3 j) ^^^ (nI 1 <<< ((nI t) &&& 31))))) 11) 1 (nI ((nx + 1) % 5))) 2 (nI (if sz < 5 then sz + 1 else 5))))) (L' := [(0, .ref (ad w 0)), (1, .int (nI j)), (2, .int (nI t))]) (S' := [.int (bcX (((wrR sg 6 (rowC sg 1)) 3 j) ^^^ (nI 1 <<< ((nI t) &&& 31))))]) rfl rfl rfl rfl ?_
  exact g_iret C E dX4_wears_17 rfl Sq.rf rfl
set_option maxRecDepth 100000 in
set_option maxHeartbeats 400000 in
theorem c_X4_wears_bad (w : GW) (tu : Int64) (sg : Sg) (x : Int32) (v : Int32) (h : ¬ ((0 ≤ Int32.toInt64 x ∧ Int32.toInt64 x ≤ 5) ∧ (1 ≤ Int32.toInt64 v ∧ Int32.toInt64 v ≤ 9))) : Kt w yX4_wears cX4_wears 3 (some .int) 3 [.ref (ad w 0), .int x, .int v] sg tu (some (.int (-2))) (us (wrR (wrR sg 6 (rowC sg 1)) 1 (rowC (wrR sg 6 (rowC sg 1)) 6)) 0 (upd ((wrR (wrR sg 6 (rowC sg 1)) 1 (rowC (wrR sg 6 (rowC sg 1)) 6)) 0) 5 (((wrR (wrR sg 6 (rowC sg 1)) 1 (rowC (wrR sg 6 (rowC sg 1)) 6)) 0) 5 + nI 1))) tu := by
  refine Kt.of2 RX4 rfl [(0, .ref (ad w 0)), (1, .int x), (2, .int v)] (by decide) rfl (Nat.le_of_ble_eq_true rfl) (fun z C E => ?_)
  refine g_aload_n C 0 rfl rfl dX4_wears_0 ?_
  refine g_callV0 [] C (c_X4_remember w tu sg  ) mt_X4_remember e_0 rfl ml_X4_40 im_X4_remember se_X4_remember (by decide) rfl (Nat.le_of_ble_eq_true rfl) dX4_wears_1 ?_
  refine g_eq (sg' := (wrR sg 6 (rowC sg 1))) (L' := [(0, .ref (ad w 0)), (1, .int x), (2, .int v)]) (S' := []) rfl rfl rfl rfl ?_
  refine g_aload_n C 0 rfl rfl dX4_wears_4 ?_
  refine g_aload_n C 0 rfl rfl dX4_wears_5 ?_
  refine g_getR C (j := 0) cls4 e_0 rfl (by decide) fl_X4_10 dX4_wears_6 ?_
  refine g_iload_n C 1 rfl rfl dX4_wears_9 ?_
  refine g_iload_n C 2 rfl rfl dX4_wears_10 ?_
  refine g_callV1 [.ref (ad w 0)] C (c_X3_wearTooth_bad w tu (wrR sg 6 (rowC sg 1)) x v h) mt_X3_wearTooth e_1 rfl ml_X4_60 im_X3_wearTooth se_X3_wearTooth (by decide) rfl (Nat.le_of_ble_eq_true rfl) dX4_wears_11 ?_
  refine g_eq (L' := [(0, .ref (ad w 0)), (1, .int x), (2, .int v)]) (S' := [.int (-2), .ref (ad w 0)]) rfl rfl rfl rfl ?_
  refine g_callV1 [] C (c_X4_settled_bad w tu (wrR sg 6 (rowC sg 1))  ) mt_X4_settled e_0 rfl ml_X4_47 im_X4_settled se_X4_settled (by decide) rfl (Nat.le_of_ble_eq_true rfl) dX4_wears_14 ?_
  refine g_eq (sg' := (us (wrR (wrR sg 6 (rowC sg 1)) 1 (rowC (wrR sg 6 (rowC sg 1)) 6)) 0 (upd ((wrR (wrR sg 6 (rowC sg 1)) 1 (rowC (wrR sg 6 (rowC sg 1)) 6)) 0) 5 (((wrR (wrR sg 6 (rowC sg 1)) 1 (rowC (wrR sg 6 (rowC sg 1)) 6)) 0) 5 + nI 1)))) (L' := [(0, .ref (ad w 0)), (1, .int x), (2, .int v)]) (S' := [.int (-2)]) rfl rfl rfl rfl ?_
  exact g_iret C E dX4_wears_17 rfl Sq.rf rfl
set_option maxRecDepth 100000 in
set_option maxHeartbeats 400000 in
theorem c_X4_clears (w : GW) (tu : Int64) (sg : Sg)  (hok : ROk (rowC sg 1)) (nx sz : Nat) (hn5 : nx < 5) (hnx : sg 11 1 = nI nx) (hsz : sg 11 2 = nI sz) (hs5 : sz ≤ 5) : Kt w yX4_clears cX4_clears 1 (some .int) 4 [.ref (ad w 0)] sg tu (some (.int (czX ((wrR sg 6 (rowC sg 1)) 4) (fun k => nI (0 / 10 ^ k % 10)) 0 12))) (us (wrR (wrR (wrR sg 6 (rowC sg 1)) 1 (clR (rowC (wrR sg 6 (rowC sg 1)) 1))) (13 + 5 * nx) (rowC (wrR (wrR sg 6 (rowC sg 1)) 1 (clR (rowC (wrR sg 6 (rowC sg 1)) 1))) 6)) 11 (upd (upd ((wrR (wrR sg 6 (rowC sg 1)) 1 (clR (rowC (wrR sg 6 (rowC sg 1)) 1))) 11) 1 (nI ((nx + 1) % 5))) 2 (nI (if sz < 5 then sz + 1 else 5)))) tu := by
  refine Kt.of2 RX4 rfl [(0, .ref (ad w 0))] (by decide) rfl (Nat.le_of_ble_eq_true rfl) (fun z C E => ?_)
  refine g_aload_n C 0 rfl rfl dX4_clears_0 ?_
  refine g_callV0 [] C (c_X4_remember w tu sg  ) mt_X4_remember e_0 rfl ml_X4_40 im_X4_remember se_X4_remember (by decide) rfl (Nat.le_of_ble_eq_true rfl) dX4_clears_1 ?_
  refine g_eq (sg' := (wrR sg 6 (rowC sg 1))) (L' := [(0, .ref (ad w 0))]) (S' := []) rfl rfl rfl rfl ?_
  refine g_aload_n C 0 rfl rfl dX4_clears_4 ?_
  refine g_aload_n C 0 rfl rfl dX4_clears_5 ?_
  refine g_getR C (j := 0) cls4 e_0 rfl (by decide) fl_X4_10 dX4_clears_6 ?_
  refine g_callV1 [.ref (ad w 0)] C (c_X3_clearAll w tu (wrR sg 6 (rowC sg 1))  ) mt_X3_clearAll e_1 rfl ml_X4_63 im_X3_clearAll se_X3_clearAll (by decide) rfl (Nat.le_of_ble_eq_true rfl) dX4_clears_9 ?_
  refine g_eq (sg' := (wrR (wrR sg 6 (rowC sg 1)) 1 (clR (rowC (wrR sg 6 (rowC sg 1)) 1)))) (L' := [(0, .ref (ad w 0))]) (S' := [.int (czX ((wrR sg 6 (rowC sg 1)) 4) (fun k => nI (0 / 10 ^ k % 10)) 0 12), .ref (ad w 0)]) rfl rfl rfl rfl ?_
  refine g_callV1 [] C (c_X4_settled_ok w tu (wrR (wrR sg 6 (rowC sg 1)) 1 (clR (rowC (wrR sg 6 (rowC sg 1)) 1))) (czX ((wrR sg 6 (rowC sg 1)) 4) (fun k => nI (0 / 10 ^ k % 10)) 0 12) nx sz hn5 (by rw [S2_11]; exact hnx) (by rw [S2_11]; exact hsz) hs5 nn_cz) mt_X4_settled e_0 rfl ml_X4_47 im_X4_settled se_X4_settled (by decide) rfl (Nat.le_of_ble_eq_true rfl) dX4_clears_12 ?_
  refine g_eq (sg' := (us (wrR (wrR (wrR sg 6 (rowC sg 1)) 1 (clR (rowC (wrR sg 6 (rowC sg 1)) 1))) (13 + 5 * nx) (rowC (wrR (wrR sg 6 (rowC sg 1)) 1 (clR (rowC (wrR sg 6 (rowC sg 1)) 1))) 6)) 11 (upd (upd ((wrR (wrR sg 6 (rowC sg 1)) 1 (clR (rowC (wrR sg 6 (rowC sg 1)) 1))) 11) 1 (nI ((nx + 1) % 5))) 2 (nI (if sz < 5 then sz + 1 else 5))))) (L' := [(0, .ref (ad w 0))]) (S' := [.int (czX ((wrR sg 6 (rowC sg 1)) 4) (fun k => nI (0 / 10 ^ k % 10)) 0 12)]) rfl rfl rfl rfl ?_
  exact g_iret C E dX4_clears_15 rfl Sq.rf rfl
set_option maxRecDepth 100000 in
set_option maxHeartbeats 400000 in
theorem c_X4_lays_ok (w : GW) (tu : Int64) (sg : Sg) (m : Nat) (hm : m ≤ 999999999999) (hok : ROk (rowC sg 1)) (nx sz : Nat) (hn5 : nx < 5) (hnx : sg 11 1 = nI nx) (hsz : sg 11 2 = nI sz) (hs5 : sz ≤ 5) : Kt w yX4_lays cX4_lays 3 (some .int) 4 [.ref (ad w 0), .long (lN m)] sg tu (some (.int (czX ((wrR sg 6 (rowC sg 1)) 4) (fun k => nI (m / 10 ^ k % 10)) 0 12))) (us (wrR (wrR (wrR sg 6 (rowC sg 1)) 1 (laR m (rowC (wrR sg 6 (rowC sg 1)) 1))) (13 + 5 * nx) (rowC (wrR (wrR sg 6 (rowC sg 1)) 1 (laR m (rowC (wrR sg 6 (rowC sg 1)) 1))) 6)) 11 (upd (upd ((wrR (wrR sg 6 (rowC sg 1)) 1 (laR m (rowC (wrR sg 6 (rowC sg 1)) 1))) 11) 1 (nI ((nx + 1) % 5))) 2 (nI (if sz < 5 then sz + 1 else 5)))) tu := by
  refine Kt.of2 RX4 rfl [(0, .ref (ad w 0)), (1, .long (lN m))] (by decide) rfl (Nat.le_of_ble_eq_true rfl) (fun z C E => ?_)
  refine g_aload_n C 0 rfl rfl dX4_lays_0 ?_
  refine g_callV0 [] C (c_X4_remember w tu sg  ) mt_X4_remember e_0 rfl ml_X4_40 im_X4_remember se_X4_remember (by decide) rfl (Nat.le_of_ble_eq_true rfl) dX4_lays_1 ?_
  refine g_eq (sg' := (wrR sg 6 (rowC sg 1))) (L' := [(0, .ref (ad w 0)), (1, .long (lN m))]) (S' := []) rfl rfl rfl rfl ?_
  refine g_aload_n C 0 rfl rfl dX4_lays_4 ?_
  refine g_aload_n C 0 rfl rfl dX4_lays_5 ?_
  refine g_getR C (j := 0) cls4 e_0 rfl (by decide) fl_X4_10 dX4_lays_6 ?_
  refine g_lload_n C 1 rfl rfl dX4_lays_9 ?_
  refine g_callV1 [.ref (ad w 0)] C (c_X3_layWheels_ok w tu (wrR sg 6 (rowC sg 1)) m hm) mt_X3_layWheels e_1 rfl ml_X4_67 im_X3_layWheels se_X3_layWheels (by decide) rfl (Nat.le_of_ble_eq_true rfl) dX4_lays_10 ?_
  refine g_eq (sg' := (wrR (wrR sg 6 (rowC sg 1)) 1 (laR m (rowC (wrR sg 6 (rowC sg 1)) 1)))) (L' := [(0, .ref (ad w 0)), (1, .long (lN m))]) (S' := [.int (czX ((wrR sg 6 (rowC sg 1)) 4) (fun k => nI (m / 10 ^ k % 10)) 0 12), .ref (ad w 0)]) rfl rfl rfl rfl ?_
  refine g_callV1 [] C (c_X4_settled_ok w tu (wrR (wrR sg 6 (rowC sg 1)) 1 (laR m (rowC (wrR sg 6 (rowC sg 1)) 1))) (czX ((wrR sg 6 (rowC sg 1)) 4) (fun k => nI (m / 10 ^ k % 10)) 0 12) nx sz hn5 (by rw [S2_11]; exact hnx) (by rw [S2_11]; exact hsz) hs5 nn_cz) mt_X4_settled e_0 rfl ml_X4_47 im_X4_settled se_X4_settled (by decide) rfl (Nat.le_of_ble_eq_true rfl) dX4_lays_13 ?_
  refine g_eq (sg' := (us (wrR (wrR (wrR sg 6 (rowC sg 1)) 1 (laR m (rowC (wrR sg 6 (rowC sg 1)) 1))) (13 + 5 * nx) (rowC (wrR (wrR sg 6 (rowC sg 1)) 1 (laR m (rowC (wrR sg 6 (rowC sg 1)) 1))) 6)) 11 (upd (upd ((wrR (wrR sg 6 (rowC sg 1)) 1 (laR m (rowC (wrR sg 6 (rowC sg 1)) 1))) 11) 1 (nI ((nx + 1) % 5))) 2 (nI (if sz < 5 then sz + 1 else 5))))) (L' := [(0, .ref (ad w 0)), (1, .long (lN m))]) (S' := [.int (czX ((wrR sg 6 (rowC sg 1)) 4) (fun k => nI (m / 10 ^ k % 10)) 0 12)]) rfl rfl rfl rfl ?_
  exact g_iret C E dX4_lays_16 rfl Sq.rf rfl
set_option maxRecDepth 100000 in
set_option maxHeartbeats 400000 in
theorem c_X4_lays_bad (w : GW) (tu : Int64) (sg : Sg) (v : Int64) (h : ¬ (0 ≤ v ∧ v ≤ 999999999999)) : Kt w yX4_lays cX4_lays 3 (some .int) 3 [.ref (ad w 0), .long v] sg tu (some (.int (-2))) (us (wrR (wrR sg 6 (rowC sg 1)) 1 (rowC (wrR sg 6 (rowC sg 1)) 6)) 0 (upd ((wrR (wrR sg 6 (rowC sg 1)) 1 (rowC (wrR sg 6 (rowC sg 1)) 6)) 0) 5 (((wrR (wrR sg 6 (rowC sg 1)) 1 (rowC (wrR sg 6 (rowC sg 1)) 6)) 0) 5 + nI 1))) tu := by
  refine Kt.of2 RX4 rfl [(0, .ref (ad w 0)), (1, .long v)] (by decide) rfl (Nat.le_of_ble_eq_true rfl) (fun z C E => ?_)
  refine g_aload_n C 0 rfl rfl dX4_lays_0 ?_
  refine g_callV0 [] C (c_X4_remember w tu sg  ) mt_X4_remember e_0 rfl ml_X4_40 im_X4_remember se_X4_remember (by decide) rfl (Nat.le_of_ble_eq_true rfl) dX4_lays_1 ?_
  refine g_eq (sg' := (wrR sg 6 (rowC sg 1))) (L' := [(0, .ref (ad w 0)), (1, .long v)]) (S' := []) rfl rfl rfl rfl ?_
  refine g_aload_n C 0 rfl rfl dX4_lays_4 ?_
  refine g_aload_n C 0 rfl rfl dX4_lays_5 ?_
  refine g_getR C (j := 0) cls4 e_0 rfl (by decide) fl_X4_10 dX4_lays_6 ?_
  refine g_lload_n C 1 rfl rfl dX4_lays_9 ?_
  refine g_callV1 [.ref (ad w 0)] C (c_X3_layWheels_bad w tu (wrR sg 6 (rowC sg 1)) v h) mt_X3_layWheels e_1 rfl ml_X4_67 im_X3_layWheels se_X3_layWheels (by decide) rfl (Nat.le_of_ble_eq_true rfl) dX4_lays_10 ?_
  refine g_eq (L' := [(0, .ref (ad w 0)), (1, .long v)]) (S' := [.int (-2), .ref (ad w 0)]) rfl rfl rfl rfl ?_
  refine g_callV1 [] C (c_X4_settled_bad w tu (wrR sg 6 (rowC sg 1))  ) mt_X4_settled e_0 rfl ml_X4_47 im_X4_settled se_X4_settled (by decide) rfl (Nat.le_of_ble_eq_true rfl) dX4_lays_13 ?_
  refine g_eq (sg' := (us (wrR (wrR sg 6 (rowC sg 1)) 1 (rowC (wrR sg 6 (rowC sg 1)) 6)) 0 (upd ((wrR (wrR sg 6 (rowC sg 1)) 1 (rowC (wrR sg 6 (rowC sg 1)) 6)) 0) 5 (((wrR (wrR sg 6 (rowC sg 1)) 1 (rowC (wrR sg 6 (rowC sg 1)) 6)) 0) 5 + nI 1)))) (L' := [(0, .ref (ad w 0)), (1, .long v)]) (S' := [.int (-2)]) rfl rfl rfl rfl ?_
  exact g_iret C E dX4_lays_16 rfl Sq.rf rfl
set_option maxRecDepth 100000 in
set_option maxHeartbeats 400000 in
theorem c_X4_ups_ok (w : GW) (tu : Int64) (sg : Sg) (n : Nat) (hn1 : 1 ≤ n) (hn : n ≤ 99) (hok : ROk (rowC sg 1)) (nx sz : Nat) (hn5 : nx < 5) (hnx : sg 11 1 = nI nx) (hsz : sg 11 2 = nI sz) (hs5 : sz ≤ 5) : Kt w yX4_ups cX4_ups 2 (some .int) 4 [.ref (ad w 0), .int (nI n)] sg tu (some (.int (rgs true (nI 1) (gN (rowC (wrR sg 6 (rowC sg 1)) 1)) (rowC (wrR sg 6 (rowC sg 1)) 1) n))) (us (wrR (wrR (wrR sg 6 (rowC sg 1)) 1 (itR true (nI 1) (gN (rowC (wrR sg 6 (rowC sg 1)) 1)) n (rowC (wrR sg 6 (rowC sg 1)) 1))) (13 + 5 * nx) (rowC (wrR (wrR sg 6 (rowC sg 1)) 1 (itR true (nI 1) (gN (rowC (wrR sg 6 (rowC sg 1)) 1)) n (rowC (wrR sg 6 (rowC sg 1)) 1))) 6)) 11 (upd (upd ((wrR (wrR sg 6 (rowC sg 1)) 1 (itR true (nI 1) (gN (rowC (wrR sg 6 (rowC sg 1)) 1)) n (rowC (wrR sg 6 (rowC sg 1)) 1))) 11) 1 (nI ((nx + 1) % 5))) 2 (nI (if sz < 5 then sz + 1 else 5)))) tu := by
  refine Kt.of2 RX4 rfl [(0, .ref (ad w 0)), (1, .int (nI n))] (by decide) rfl (Nat.le_of_ble_eq_true rfl) (fun z C E => ?_)
  refine g_aload_n C 0 rfl rfl dX4_ups_0 ?_
  refine g_callV0 [] C (c_X4_remember w tu sg  ) mt_X4_remember e_0 rfl ml_X4_40 im_X4_remember se_X4_remember (by decide) rfl (Nat.le_of_ble_eq_true rfl) dX4_ups_1 ?_
  refine g_eq (sg' := (wrR sg 6 (rowC sg 1))) (L' := [(0, .ref (ad w 0)), (1, .int (nI n))]) (S' := []) rfl rfl rfl rfl ?_
  refine g_aload_n C 0 rfl rfl dX4_ups_4 ?_
  refine g_aload_n C 0 rfl rfl dX4_ups_5 ?_
  refine g_getR C (j := 0) cls4 e_0 rfl (by decide) fl_X4_10 dX4_ups_6 ?_
  refine g_iload_n C 1 rfl rfl dX4_ups_9 ?_
  refine g_iconst C (v := (nI 1)) (by decide) dX4_ups_10 ?_
  refine g_callV1 [.ref (ad w 0)] C (c_X3_turnOften_up w tu (wrR sg 6 (rowC sg 1)) n hn1 hn (by rw [S1_r]; exact hok)) mt_X3_turnOften e_1 rfl ml_X4_71 im_X3_turnOften se_X3_turnOften (by decide) rfl (Nat.le_of_ble_eq_true rfl) dX4_ups_11 ?_
  refine g_eq (sg' := (wrR (wrR sg 6 (rowC sg 1)) 1 (itR true (nI 1) (gN (rowC (wrR sg 6 (rowC sg 1)) 1)) n (rowC (wrR sg 6 (rowC sg 1)) 1)))) (L' := [(0, .ref (ad w 0)), (1, .int (nI n))]) (S' := [.int (rgs true (nI 1) (gN (rowC (wrR sg 6 (rowC sg 1)) 1)) (rowC (wrR sg 6 (rowC sg 1)) 1) n), .ref (ad w 0)]) rfl rfl rfl rfl ?_
  refine g_callV1 [] C (c_X4_settled_ok w tu (wrR (wrR sg 6 (rowC sg 1)) 1 (itR true (nI 1) (gN (rowC (wrR sg 6 (rowC sg 1)) 1)) n (rowC (wrR sg 6 (rowC sg 1)) 1))) (rgs true (nI 1) (gN (rowC (wrR sg 6 (rowC sg 1)) 1)) (rowC (wrR sg 6 (rowC sg 1)) 1) n) nx sz hn5 (by rw [S2_11]; exact hnx) (by rw [S2_11]; exact hsz) hs5 (nn_rg (by omega))) mt_X4_settled e_0 rfl ml_X4_47 im_X4_settled se_X4_settled (by decide) rfl (Nat.le_of_ble_eq_true rfl) dX4_ups_14 ?_
  refine g_eq (sg' := (us (wrR (wrR (wrR sg 6 (rowC sg 1)) 1 (itR true (nI 1) (gN (rowC (wrR sg 6 (rowC sg 1)) 1)) n (rowC (wrR sg 6 (rowC sg 1)) 1))) (13 + 5 * nx) (rowC (wrR (wrR sg 6 (rowC sg 1)) 1 (itR true (nI 1) (gN (rowC (wrR sg 6 (rowC sg 1)) 1)) n (rowC (wrR sg 6 (rowC sg 1)) 1))) 6)) 11 (upd (upd ((wrR (wrR sg 6 (rowC sg 1)) 1 (itR true (nI 1) (gN (rowC (wrR sg 6 (rowC sg 1)) 1)) n (rowC (wrR sg 6 (rowC sg 1)) 1))) 11) 1 (nI ((nx + 1) % 5))) 2 (nI (if sz < 5 then sz + 1 else 5))))) (L' := [(0, .ref (ad w 0)), (1, .int (nI n))]) (S' := [.int (rgs true (nI 1) (gN (rowC (wrR sg 6 (rowC sg 1)) 1)) (rowC (wrR sg 6 (rowC sg 1)) 1) n)]) rfl rfl rfl rfl ?_
  exact g_iret C E dX4_ups_17 rfl Sq.rf rfl
set_option maxRecDepth 100000 in
set_option maxHeartbeats 400000 in
theorem c_X4_ups_bad (w : GW) (tu : Int64) (sg : Sg) (v : Int32) (h : ¬ (1 ≤ Int32.toInt64 v ∧ Int32.toInt64 v ≤ 99)) : Kt w yX4_ups cX4_ups 2 (some .int) 3 [.ref (ad w 0), .int v] sg tu (some (.int (-2))) (us (wrR (wrR sg 6 (rowC sg 1)) 1 (rowC (wrR sg 6 (rowC sg 1)) 6)) 0 (upd ((wrR (wrR sg 6 (rowC sg 1)) 1 (rowC (wrR sg 6 (rowC sg 1)) 6)) 0) 5 (((wrR (wrR sg 6 (rowC sg 1)) 1 (rowC (wrR sg 6 (rowC sg 1)) 6)) 0) 5 + nI 1))) tu := by
  refine Kt.of2 RX4 rfl [(0, .ref (ad w 0)), (1, .int v)] (by decide) rfl (Nat.le_of_ble_eq_true rfl) (fun z C E => ?_)
  refine g_aload_n C 0 rfl rfl dX4_ups_0 ?_
  refine g_callV0 [] C (c_X4_remember w tu sg  ) mt_X4_remember e_0 rfl ml_X4_40 im_X4_remember se_X4_remember (by decide) rfl (Nat.le_of_ble_eq_true rfl) dX4_ups_1 ?_
  refine g_eq (sg' := (wrR sg 6 (rowC sg 1))) (L' := [(0, .ref (ad w 0)), (1, .int v)]) (S' := []) rfl rfl rfl rfl ?_
  refine g_aload_n C 0 rfl rfl dX4_ups_4 ?_
  refine g_aload_n C 0 rfl rfl dX4_ups_5 ?_
  refine g_getR C (j := 0) cls4 e_0 rfl (by decide) fl_X4_10 dX4_ups_6 ?_
  refine g_iload_n C 1 rfl rfl dX4_ups_9 ?_
  refine g_iconst C (v := (nI 1)) (by decide) dX4_ups_10 ?_
  refine g_callV1 [.ref (ad w 0)] C (c_X3_turnOften_up_bad w tu (wrR sg 6 (rowC sg 1)) v h) mt_X3_turnOften e_1 rfl ml_X4_71 im_X3_turnOften se_X3_turnOften (by decide) rfl (Nat.le_of_ble_eq_true rfl) dX4_ups_11 ?_
  refine g_eq (L' := [(0, .ref (ad w 0)), (1, .int v)]) (S' := [.int (-2), .ref (ad w 0)]) rfl rfl rfl rfl ?_
  refine g_callV1 [] C (c_X4_settled_bad w tu (wrR sg 6 (rowC sg 1))  ) mt_X4_settled e_0 rfl ml_X4_47 im_X4_settled se_X4_settled (by decide) rfl (Nat.le_of_ble_eq_true rfl) dX4_ups_14 ?_
  refine g_eq (sg' := (us (wrR (wrR sg 6 (rowC sg 1)) 1 (rowC (wrR sg 6 (rowC sg 1)) 6)) 0 (upd ((wrR (wrR sg 6 (rowC sg 1)) 1 (rowC (wrR sg 6 (rowC sg 1)) 6)) 0) 5 (((wrR (wrR sg 6 (rowC sg 1)) 1 (rowC (wrR sg 6 (rowC sg 1)) 6)) 0) 5 + nI 1)))) (L' := [(0, .ref (ad w 0)), (1, .int v)]) (S' := [.int (-2)]) rfl rfl rfl rfl ?_
  exact g_iret C E dX4_ups_17 rfl Sq.rf rfl
set_option maxRecDepth 100000 in
set_option maxHeartbeats 400000 in
theorem c_X4_downs_ok (w : GW) (tu : Int64) (sg : Sg) (n : Nat) (hn1 : 1 ≤ n) (hn : n ≤ 99) (hok : ROk (rowC sg 1)) (nx sz : Nat) (hn5 : nx < 5) (hnx : sg 11 1 = nI nx) (hsz : sg 11 2 = nI sz) (hs5 : sz ≤ 5) : Kt w yX4_downs cX4_downs 2 (some .int) 4 [.ref (ad w 0), .int (nI n)] sg tu (some (.int (rgs false (-1) (gN (rowC (wrR sg 6 (rowC sg 1)) 1)) (rowC (wrR sg 6 (rowC sg 1)) 1) n))) (us (wrR (wrR (wrR sg 6 (rowC sg 1)) 1 (itR false (-1) (gN (rowC (wrR sg 6 (rowC sg 1)) 1)) n (rowC (wrR sg 6 (rowC sg 1)) 1))) (13 + 5 * nx) (rowC (wrR (wrR sg 6 (rowC sg 1)) 1 (itR false (-1) (gN (rowC (wrR sg 6 (rowC sg 1)) 1)) n (rowC (wrR sg 6 (rowC sg 1)) 1))) 6)) 11 (upd (upd ((wrR (wrR sg 6 (rowC sg 1)) 1 (itR false (-1) (gN (rowC (wrR sg 6 (rowC sg 1)) 1)) n (rowC (wrR sg 6 (rowC sg 1)) 1))) 11) 1 (nI ((nx + 1) % 5))) 2 (nI (if sz < 5 then sz + 1 else 5)))) tu := by
  refine Kt.of2 RX4 rfl [(0, .ref (ad w 0)), (1, .int (nI n))] (by decide) rfl (Nat.le_of_ble_eq_true rfl) (fun z C E => ?_)
  refine g_aload_n C 0 rfl rfl dX4_downs_0 ?_
  refine g_callV0 [] C (c_X4_remember w tu sg  ) mt_X4_remember e_0 rfl ml_X4_40 im_X4_remember se_X4_remember (by decide) rfl (Nat.le_of_ble_eq_true rfl) dX4_downs_1 ?_
  refine g_eq (sg' := (wrR sg 6 (rowC sg 1))) (L' := [(0, .ref (ad w 0)), (1, .int (nI n))]) (S' := []) rfl rfl rfl rfl ?_
  refine g_aload_n C 0 rfl rfl dX4_downs_4 ?_
  refine g_aload_n C 0 rfl rfl dX4_downs_5 ?_
  refine g_getR C (j := 0) cls4 e_0 rfl (by decide) fl_X4_10 dX4_downs_6 ?_
  refine g_iload_n C 1 rfl rfl dX4_downs_9 ?_
  refine g_iconst C (v := (-1)) (by decide) dX4_downs_10 ?_
  refine g_callV1 [.ref (ad w 0)] C (c_X3_turnOften_dn w tu (wrR sg 6 (rowC sg 1)) n hn1 hn (by rw [S1_r]; exact hok)) mt_X3_turnOften e_1 rfl ml_X4_71 im_X3_turnOften se_X3_turnOften (by decide) rfl (Nat.le_of_ble_eq_true rfl) dX4_downs_11 ?_
  refine g_eq (sg' := (wrR (wrR sg 6 (rowC sg 1)) 1 (itR false (-1) (gN (rowC (wrR sg 6 (rowC sg 1)) 1)) n (rowC (wrR sg 6 (rowC sg 1)) 1)))) (L' := [(0, .ref (ad w 0)), (1, .int (nI n))]) (S' := [.int (rgs false (-1) (gN (rowC (wrR sg 6 (rowC sg 1)) 1)) (rowC (wrR sg 6 (rowC sg 1)) 1) n), .ref (ad w 0)]) rfl rfl rfl rfl ?_
  refine g_callV1 [] C (c_X4_settled_ok w tu (wrR (wrR sg 6 (rowC sg 1)) 1 (itR false (-1) (gN (rowC (wrR sg 6 (rowC sg 1)) 1)) n (rowC (wrR sg 6 (rowC sg 1)) 1))) (rgs false (-1) (gN (rowC (wrR sg 6 (rowC sg 1)) 1)) (rowC (wrR sg 6 (rowC sg 1)) 1) n) nx sz hn5 (by rw [S2_11]; exact hnx) (by rw [S2_11]; exact hsz) hs5 (nn_rg (by omega))) mt_X4_settled e_0 rfl ml_X4_47 im_X4_settled se_X4_settled (by decide) rfl (Nat.le_of_ble_eq_true rfl) dX4_downs_14 ?_
  refine g_eq (sg' := (us (wrR (wrR (wrR sg 6 (rowC sg 1)) 1 (itR false (-1) (gN (rowC (wrR sg 6 (rowC sg 1)) 1)) n (rowC (wrR sg 6 (rowC sg 1)) 1))) (13 + 5 * nx) (rowC (wrR (wrR sg 6 (rowC sg 1)) 1 (itR false (-1) (gN (rowC (wrR sg 6 (rowC sg 1)) 1)) n (rowC (wrR sg 6 (rowC sg 1)) 1))) 6)) 11 (upd (upd ((wrR (wrR sg 6 (rowC sg 1)) 1 (itR false (-1) (gN (rowC (wrR sg 6 (rowC sg 1)) 1)) n (rowC (wrR sg 6 (rowC sg 1)) 1))) 11) 1 (nI ((nx + 1) % 5))) 2 (nI (if sz < 5 then sz + 1 else 5))))) (L' := [(0, .ref (ad w 0)), (1, .int (nI n))]) (S' := [.int (rgs false (-1) (gN (rowC (wrR sg 6 (rowC sg 1)) 1)) (rowC (wrR sg 6 (rowC sg 1)) 1) n)]) rfl rfl rfl rfl ?_
  exact g_iret C E dX4_downs_17 rfl Sq.rf rfl
set_option maxRecDepth 100000 in
set_option maxHeartbeats 400000 in
theorem c_X4_downs_bad (w : GW) (tu : Int64) (sg : Sg) (v : Int32) (h : ¬ (1 ≤ Int32.toInt64 v ∧ Int32.toInt64 v ≤ 99)) : Kt w yX4_downs cX4_downs 2 (some .int) 3 [.ref (ad w 0), .int v] sg tu (some (.int (-2))) (us (wrR (wrR sg 6 (rowC sg 1)) 1 (rowC (wrR sg 6 (rowC sg 1)) 6)) 0 (upd ((wrR (wrR sg 6 (rowC sg 1)) 1 (rowC (wrR sg 6 (rowC sg 1)) 6)) 0) 5 (((wrR (wrR sg 6 (rowC sg 1)) 1 (rowC (wrR sg 6 (rowC sg 1)) 6)) 0) 5 + nI 1))) tu := by
  refine Kt.of2 RX4 rfl [(0, .ref (ad w 0)), (1, .int v)] (by decide) rfl (Nat.le_of_ble_eq_true rfl) (fun z C E => ?_)
  refine g_aload_n C 0 rfl rfl dX4_downs_0 ?_
  refine g_callV0 [] C (c_X4_remember w tu sg  ) mt_X4_remember e_0 rfl ml_X4_40 im_X4_remember se_X4_remember (by decide) rfl (Nat.le_of_ble_eq_true rfl) dX4_downs_1 ?_
  refine g_eq (sg' := (wrR sg 6 (rowC sg 1))) (L' := [(0, .ref (ad w 0)), (1, .int v)]) (S' := []) rfl rfl rfl rfl ?_
  refine g_aload_n C 0 rfl rfl dX4_downs_4 ?_
  refine g_aload_n C 0 rfl rfl dX4_downs_5 ?_
  refine g_getR C (j := 0) cls4 e_0 rfl (by decide) fl_X4_10 dX4_downs_6 ?_
  refine g_iload_n C 1 rfl rfl dX4_downs_9 ?_
  refine g_iconst C (v := (-1)) (by decide) dX4_downs_10 ?_
  refine g_callV1 [.ref (ad w 0)] C (c_X3_turnOften_dn_bad w tu (wrR sg 6 (rowC sg 1)) v h) mt_X3_turnOften e_1 rfl ml_X4_71 im_X3_turnOften se_X3_turnOften (by decide) rfl (Nat.le_of_ble_eq_true rfl) dX4_downs_11 ?_
  refine g_eq (L' := [(0, .ref (ad w 0)), (1, .int v)]) (S' := [.int (-2), .ref (ad w 0)]) rfl rfl rfl rfl ?_
  refine g_callV1 [] C (c_X4_settled_bad w tu (wrR sg 6 (rowC sg 1))  ) mt_X4_settled e_0 rfl ml_X4_47 im_X4_settled se_X4_settled (by decide) rfl (Nat.le_of_ble_eq_true rfl) dX4_downs_14 ?_
  refine g_eq (sg' := (us (wrR (wrR sg 6 (rowC sg 1)) 1 (rowC (wrR sg 6 (rowC sg 1)) 6)) 0 (upd ((wrR (wrR sg 6 (rowC sg 1)) 1 (rowC (wrR sg 6 (rowC sg 1)) 6)) 0) 5 (((wrR (wrR sg 6 (rowC sg 1)) 1 (rowC (wrR sg 6 (rowC sg 1)) 6)) 0) 5 + nI 1)))) (L' := [(0, .ref (ad w 0)), (1, .int v)]) (S' := [.int (-2)]) rfl rfl rfl rfl ?_
  exact g_iret C E dX4_downs_17 rfl Sq.rf rfl
set_option maxRecDepth 100000 in
set_option maxHeartbeats 400000 in
theorem c_X4_times_0 (w : GW) (tu : Int64) (sg : Sg) (n : Nat) (hn : n ≤ 999999) (hok : ROk (rowC sg 1)) (nx sz : Nat) (hn5 : nx < 5) (hnx : sg 11 1 = nI nx) (hsz : sg 11 2 = nI sz) (hs5 : sz ≤ 5) : Kt w yX4_times cX4_times 3 (some .int) 4 [.ref (ad w 0), .int (nI n), .int (nI 0)] sg tu (some (.int (nI (smP 0 n 6)))) (us (wrR (wrR (wrR sg 6 (rowC sg 1)) 1 (muR 0 n (gN (rowC (wrR sg 6 (rowC sg 1)) 1)) 6 (clR (rowC (wrR sg 6 (rowC sg 1)) 1)))) (13 + 5 * nx) (rowC (wrR (wrR sg 6 (rowC sg 1)) 1 (muR 0 n (gN (rowC (wrR sg 6 (rowC sg 1)) 1)) 6 (clR (rowC (wrR sg 6 (rowC sg 1)) 1)))) 6)) 11 (upd (upd ((wrR (wrR sg 6 (rowC sg 1)) 1 (muR 0 n (gN (rowC (wrR sg 6 (rowC sg 1)) 1)) 6 (clR (rowC (wrR sg 6 (rowC sg 1)) 1)))) 11) 1 (nI ((nx + 1) % 5))) 2 (nI (if sz < 5 then sz + 1 else 5)))) tu := by
  refine Kt.of2 RX4 rfl [(0, .ref (ad w 0)), (1, .int (nI n)), (2, .int (nI 0))] (by decide) rfl (Nat.le_of_ble_eq_true rfl) (fun z C E => ?_)
  refine g_aload_n C 0 rfl rfl dX4_times_0 ?_
  refine g_callV0 [] C (c_X4_remember w tu sg  ) mt_X4_remember e_0 rfl ml_X4_40 im_X4_remember se_X4_remember (by decide) rfl (Nat.le_of_ble_eq_true rfl) dX4_times_1 ?_
  refine g_eq (sg' := (wrR sg 6 (rowC sg 1))) (L' := [(0, .ref (ad w 0)), (1, .int (nI n)), (2, .int (nI 0))]) (S' := []) rfl rfl rfl rfl ?_
  refine g_aload_n C 0 rfl rfl dX4_times_4 ?_
  refine g_aload_n C 0 rfl rfl dX4_times_5 ?_
  refine g_getR C (j := 0) cls4 e_0 rfl (by decide) fl_X4_10 dX4_times_6 ?_
  refine g_iload_n C 1 rfl rfl dX4_times_9 ?_
  refine g_iload_n C 2 rfl rfl dX4_times_10 ?_
  refine g_callV1 [.ref (ad w 0)] C (c_X3_multiply_0 w tu (wrR sg 6 (rowC sg 1)) n hn (by rw [S1_r]; exact hok)) mt_X3_multiply e_1 rfl ml_X4_74 im_X3_multiply se_X3_multiply (by decide) rfl (Nat.le_of_ble_eq_true rfl) dX4_times_11 ?_
  refine g_eq (sg' := (wrR (wrR sg 6 (rowC sg 1)) 1 (muR 0 n (gN (rowC (wrR sg 6 (rowC sg 1)) 1)) 6 (clR (rowC (wrR sg 6 (rowC sg 1)) 1))))) (L' := [(0, .ref (ad w 0)), (1, .int (nI n)), (2, .int (nI 0))]) (S' := [.int (nI (smP 0 n 6)), .ref (ad w 0)]) rfl rfl rfl rfl ?_
  refine g_callV1 [] C (c_X4_settled_ok w tu (wrR (wrR sg 6 (rowC sg 1)) 1 (muR 0 n (gN (rowC (wrR sg 6 (rowC sg 1)) 1)) 6 (clR (rowC (wrR sg 6 (rowC sg 1)) 1)))) (nI (smP 0 n 6)) nx sz hn5 (by rw [S2_11]; exact hnx) (by rw [S2_11]; exact hsz) hs5 (nI_pos' (by have := smP_le (how := 0) (n := n) 6; omega))) mt_X4_settled e_0 rfl ml_X4_47 im_X4_settled se_X4_settled (by decide) rfl (Nat.le_of_ble_eq_true rfl) dX4_times_14 ?_
  refine g_eq (sg' := (us (wrR (wrR (wrR sg 6 (rowC sg 1)) 1 (muR 0 n (gN (rowC (wrR sg 6 (rowC sg 1)) 1)) 6 (clR (rowC (wrR sg 6 (rowC sg 1)) 1)))) (13 + 5 * nx) (rowC (wrR (wrR sg 6 (rowC sg 1)) 1 (muR 0 n (gN (rowC (wrR sg 6 (rowC sg 1)) 1)) 6 (clR (rowC (wrR sg 6 (rowC sg 1)) 1)))) 6)) 11 (upd (upd ((wrR (wrR sg 6 (rowC sg 1)) 1 (muR 0 n (gN (rowC (wrR sg 6 (rowC sg 1)) 1)) 6 (clR (rowC (wrR sg 6 (rowC sg 1)) 1)))) 11) 1 (nI ((nx + 1) % 5))) 2 (nI (if sz < 5 then sz + 1 else 5))))) (L' := [(0, .ref (ad w 0)), (1, .int (nI n)), (2, .int (nI 0))]) (S' := [.int (nI (smP 0 n 6))]) rfl rfl rfl rfl ?_
  exact g_iret C E dX4_times_17 rfl Sq.rf rfl
set_option maxRecDepth 100000 in
set_option maxHeartbeats 400000 in
theorem c_X4_times_1 (w : GW) (tu : Int64) (sg : Sg) (n : Nat) (hn : n ≤ 999999) (hok : ROk (rowC sg 1)) (nx sz : Nat) (hn5 : nx < 5) (hnx : sg 11 1 = nI nx) (hsz : sg 11 2 = nI sz) (hs5 : sz ≤ 5) : Kt w yX4_times cX4_times 3 (some .int) 4 [.ref (ad w 0), .int (nI n), .int (nI 1)] sg tu (some (.int (nI (smP 1 n 7)))) (us (wrR (wrR (wrR sg 6 (rowC sg 1)) 1 (muR 1 n (gN (rowC (wrR sg 6 (rowC sg 1)) 1)) 7 (clR (rowC (wrR sg 6 (rowC sg 1)) 1)))) (13 + 5 * nx) (rowC (wrR (wrR sg 6 (rowC sg 1)) 1 (muR 1 n (gN (rowC (wrR sg 6 (rowC sg 1)) 1)) 7 (clR (rowC (wrR sg 6 (rowC sg 1)) 1)))) 6)) 11 (upd (upd ((wrR (wrR sg 6 (rowC sg 1)) 1 (muR 1 n (gN (rowC (wrR sg 6 (rowC sg 1)) 1)) 7 (clR (rowC (wrR sg 6 (rowC sg 1)) 1)))) 11) 1 (nI ((nx + 1) % 5))) 2 (nI (if sz < 5 then sz + 1 else 5)))) tu := by
  refine Kt.of2 RX4 rfl [(0, .ref (ad w 0)), (1, .int (nI n)), (2, .int (nI 1))] (by decide) rfl (Nat.le_of_ble_eq_true rfl) (fun z C E => ?_)
  refine g_aload_n C 0 rfl rfl dX4_times_0 ?_
  refine g_callV0 [] C (c_X4_remember w tu sg  ) mt_X4_remember e_0 rfl ml_X4_40 im_X4_remember se_X4_remember (by decide) rfl (Nat.le_of_ble_eq_true rfl) dX4_times_1 ?_
  refine g_eq (sg' := (wrR sg 6 (rowC sg 1))) (L' := [(0, .ref (ad w 0)), (1, .int (nI n)), (2, .int (nI 1))]) (S' := []) rfl rfl rfl rfl ?_
  refine g_aload_n C 0 rfl rfl dX4_times_4 ?_
  refine g_aload_n C 0 rfl rfl dX4_times_5 ?_
  refine g_getR C (j := 0) cls4 e_0 rfl (by decide) fl_X4_10 dX4_times_6 ?_
  refine g_iload_n C 1 rfl rfl dX4_times_9 ?_
  refine g_iload_n C 2 rfl rfl dX4_times_10 ?_
  refine g_callV1 [.ref (ad w 0)] C (c_X3_multiply_1 w tu (wrR sg 6 (rowC sg 1)) n hn (by rw [S1_r]; exact hok)) mt_X3_multiply e_1 rfl ml_X4_74 im_X3_multiply se_X3_multiply (by decide) rfl (Nat.le_of_ble_eq_true rfl) dX4_times_11 ?_
  refine g_eq (sg' := (wrR (wrR sg 6 (rowC sg 1)) 1 (muR 1 n (gN (rowC (wrR sg 6 (rowC sg 1)) 1)) 7 (clR (rowC (wrR sg 6 (rowC sg 1)) 1))))) (L' := [(0, .ref (ad w 0)), (1, .int (nI n)), (2, .int (nI 1))]) (S' := [.int (nI (smP 1 n 7)), .ref (ad w 0)]) rfl rfl rfl rfl ?_
  refine g_callV1 [] C (c_X4_settled_ok w tu (wrR (wrR sg 6 (rowC sg 1)) 1 (muR 1 n (gN (rowC (wrR sg 6 (rowC sg 1)) 1)) 7 (clR (rowC (wrR sg 6 (rowC sg 1)) 1)))) (nI (smP 1 n 7)) nx sz hn5 (by rw [S2_11]; exact hnx) (by rw [S2_11]; exact hsz) hs5 (nI_pos' (by have := smP_le (how := 1) (n := n) 7; omega))) mt_X4_settled e_0 rfl ml_X4_47 im_X4_settled se_X4_settled (by decide) rfl (Nat.le_of_ble_eq_true rfl) dX4_times_14 ?_
  refine g_eq (sg' := (us (wrR (wrR (wrR sg 6 (rowC sg 1)) 1 (muR 1 n (gN (rowC (wrR sg 6 (rowC sg 1)) 1)) 7 (clR (rowC (wrR sg 6 (rowC sg 1)) 1)))) (13 + 5 * nx) (rowC (wrR (wrR sg 6 (rowC sg 1)) 1 (muR 1 n (gN (rowC (wrR sg 6 (rowC sg 1)) 1)) 7 (clR (rowC (wrR sg 6 (rowC sg 1)) 1)))) 6)) 11 (upd (upd ((wrR (wrR sg 6 (rowC sg 1)) 1 (muR 1 n (gN (rowC (wrR sg 6 (rowC sg 1)) 1)) 7 (clR (rowC (wrR sg 6 (rowC sg 1)) 1)))) 11) 1 (nI ((nx + 1) % 5))) 2 (nI (if sz < 5 then sz + 1 else 5))))) (L' := [(0, .ref (ad w 0)), (1, .int (nI n)), (2, .int (nI 1))]) (S' := [.int (nI (smP 1 n 7))]) rfl rfl rfl rfl ?_
  exact g_iret C E dX4_times_17 rfl Sq.rf rfl
set_option maxRecDepth 100000 in
set_option maxHeartbeats 400000 in
theorem c_X4_times_bad (w : GW) (tu : Int64) (sg : Sg) (x : Int32) (v : Int32) (h : ¬ ((0 ≤ Int32.toInt64 x ∧ Int32.toInt64 x ≤ 999999) ∧ (0 ≤ Int32.toInt64 v ∧ Int32.toInt64 v ≤ 1))) : Kt w yX4_times cX4_times 3 (some .int) 3 [.ref (ad w 0), .int x, .int v] sg tu (some (.int (-2))) (us (wrR (wrR sg 6 (rowC sg 1)) 1 (rowC (wrR sg 6 (rowC sg 1)) 6)) 0 (upd ((wrR (wrR sg 6 (rowC sg 1)) 1 (rowC (wrR sg 6 (rowC sg 1)) 6)) 0) 5 (((wrR (wrR sg 6 (rowC sg 1)) 1 (rowC (wrR sg 6 (rowC sg 1)) 6)) 0) 5 + nI 1))) tu := by
  refine Kt.of2 RX4 rfl [(0, .ref (ad w 0)), (1, .int x), (2, .int v)] (by decide) rfl (Nat.le_of_ble_eq_true rfl) (fun z C E => ?_)
  refine g_aload_n C 0 rfl rfl dX4_times_0 ?_
  refine g_callV0 [] C (c_X4_remember w tu sg  ) mt_X4_remember e_0 rfl ml_X4_40 im_X4_remember se_X4_remember (by decide) rfl (Nat.le_of_ble_eq_true rfl) dX4_times_1 ?_
  refine g_eq (sg' := (wrR sg 6 (rowC sg 1))) (L' := [(0, .ref (ad w 0)), (1, .int x), (2, .int v)]) (S' := []) rfl rfl rfl rfl ?_
  refine g_aload_n C 0 rfl rfl dX4_times_4 ?_
  refine g_aload_n C 0 rfl rfl dX4_times_5 ?_
  refine g_getR C (j := 0) cls4 e_0 rfl (by decide) fl_X4_10 dX4_times_6 ?_
  refine g_iload_n C 1 rfl rfl dX4_times_9 ?_
  refine g_iload_n C 2 rfl rfl dX4_times_10 ?_
  refine g_callV1 [.ref (ad w 0)] C (c_X3_multiply_bad w tu (wrR sg 6 (rowC sg 1)) x v h) mt_X3_multiply e_1 rfl ml_X4_74 im_X3_multiply se_X3_multiply (by decide) rfl (Nat.le_of_ble_eq_true rfl) dX4_times_11 ?_
  refine g_eq (L' := [(0, .ref (ad w 0)), (1, .int x), (2, .int v)]) (S' := [.int (-2), .ref (ad w 0)]) rfl rfl rfl rfl ?_
  refine g_callV1 [] C (c_X4_settled_bad w tu (wrR sg 6 (rowC sg 1))  ) mt_X4_settled e_0 rfl ml_X4_47 im_X4_settled se_X4_settled (by decide) rfl (Nat.le_of_ble_eq_true rfl) dX4_times_14 ?_
  refine g_eq (sg' := (us (wrR (wrR sg 6 (rowC sg 1)) 1 (rowC (wrR sg 6 (rowC sg 1)) 6)) 0 (upd ((wrR (wrR sg 6 (rowC sg 1)) 1 (rowC (wrR sg 6 (rowC sg 1)) 6)) 0) 5 (((wrR (wrR sg 6 (rowC sg 1)) 1 (rowC (wrR sg 6 (rowC sg 1)) 6)) 0) 5 + nI 1)))) (L' := [(0, .ref (ad w 0)), (1, .int x), (2, .int v)]) (S' := [.int (-2)]) rfl rfl rfl rfl ?_
  exact g_iret C E dX4_times_17 rfl Sq.rf rfl
set_option maxRecDepth 100000 in
set_option maxHeartbeats 400000 in
theorem c_X4_divides_ok (w : GW) (tu : Int64) (sg : Sg) (hz : ¬ ngX (gN (rowC sg 1)) 6 0 = 0) (hb : dvB (gN (rowC sg 1)) 7 (ccR (rowC sg 1)) = true) (hok : ROk (rowC sg 1)) (nx sz : Nat) (hn5 : nx < 5) (hnx : sg 11 1 = nI nx) (hsz : sg 11 2 = nI sz) (hs5 : sz ≤ 5) : Kt w yX4_divides cX4_divides 1 (some .int) 5 [.ref (ad w 0)] sg tu (some (.int (nI (dvC (gN (rowC (wrR sg 6 (rowC sg 1)) 1)) 7 (ccR (rowC (wrR sg 6 (rowC sg 1)) 1)))))) (us (wrR (wrR (wrR sg 6 (rowC sg 1)) 1 (dvF (gN (rowC (wrR sg 6 (rowC sg 1)) 1)) 7 (ccR (rowC (wrR sg 6 (rowC sg 1)) 1)))) (13 + 5 * nx) (rowC (wrR (wrR sg 6 (rowC sg 1)) 1 (dvF (gN (rowC (wrR sg 6 (rowC sg 1)) 1)) 7 (ccR (rowC (wrR sg 6 (rowC sg 1)) 1)))) 6)) 11 (upd (upd ((wrR (wrR sg 6 (rowC sg 1)) 1 (dvF (gN (rowC (wrR sg 6 (rowC sg 1)) 1)) 7 (ccR (rowC (wrR sg 6 (rowC sg 1)) 1)))) 11) 1 (nI ((nx + 1) % 5))) 2 (nI (if sz < 5 then sz + 1 else 5)))) tu := by
  refine Kt.of2 RX4 rfl [(0, .ref (ad w 0))] (by decide) rfl (Nat.le_of_ble_eq_true rfl) (fun z C E => ?_)
  refine g_aload_n C 0 rfl rfl dX4_divides_0 ?_
  refine g_callV0 [] C (c_X4_remember w tu sg  ) mt_X4_remember e_0 rfl ml_X4_40 im_X4_remember se_X4_remember (by decide) rfl (Nat.le_of_ble_eq_true rfl) dX4_divides_1 ?_
  refine g_eq (sg' := (wrR sg 6 (rowC sg 1))) (L' := [(0, .ref (ad w 0))]) (S' := []) rfl rfl rfl rfl ?_
  refine g_aload_n C 0 rfl rfl dX4_divides_4 ?_
  refine g_aload_n C 0 rfl rfl dX4_divides_5 ?_
  refine g_getR C (j := 0) cls4 e_0 rfl (by decide) fl_X4_10 dX4_divides_6 ?_
  refine g_callV1 [.ref (ad w 0)] C (c_X3_divide_ok w tu (wrR sg 6 (rowC sg 1))  (by rw [S1_r]; exact hok) (by rw [S1_r]; exact hz) (by rw [S1_r]; exact hb)) mt_X3_divide e_1 rfl ml_X4_77 im_X3_divide se_X3_divide (by decide) rfl (Nat.le_of_ble_eq_true rfl) dX4_divides_9 ?_
  refine g_eq (sg' := (wrR (wrR sg 6 (rowC sg 1)) 1 (dvF (gN (rowC (wrR sg 6 (rowC sg 1)) 1)) 7 (ccR (rowC (wrR sg 6 (rowC sg 1)) 1))))) (L' := [(0, .ref (ad w 0))]) (S' := [.int (nI (dvC (gN (rowC (wrR sg 6 (rowC sg 1)) 1)) 7 (ccR (rowC (wrR sg 6 (rowC sg 1)) 1)))), .ref (ad w 0)]) rfl rfl rfl rfl ?_
  refine g_callV1 [] C (c_X4_settled_ok w tu (wrR (wrR sg 6 (rowC sg 1)) 1 (dvF (gN (rowC (wrR sg 6 (rowC sg 1)) 1)) 7 (ccR (rowC (wrR sg 6 (rowC sg 1)) 1)))) (nI (dvC (gN (rowC (wrR sg 6 (rowC sg 1)) 1)) 7 (ccR (rowC (wrR sg 6 (rowC sg 1)) 1)))) nx sz hn5 (by rw [S2_11]; exact hnx) (by rw [S2_11]; exact hsz) hs5 (nI_pos' (by have := dvC_le (g := (gN (rowC (wrR sg 6 (rowC sg 1)) 1))) 7 (ccR (rowC (wrR sg 6 (rowC sg 1)) 1)); omega))) mt_X4_settled e_0 rfl ml_X4_47 im_X4_settled se_X4_settled (by decide) rfl (Nat.le_of_ble_eq_true rfl) dX4_divides_12 ?_
  refine g_eq (sg' := (us (wrR (wrR (wrR sg 6 (rowC sg 1)) 1 (dvF (gN (rowC (wrR sg 6 (rowC sg 1)) 1)) 7 (ccR (rowC (wrR sg 6 (rowC sg 1)) 1)))) (13 + 5 * nx) (rowC (wrR (wrR sg 6 (rowC sg 1)) 1 (dvF (gN (rowC (wrR sg 6 (rowC sg 1)) 1)) 7 (ccR (rowC (wrR sg 6 (rowC sg 1)) 1)))) 6)) 11 (upd (upd ((wrR (wrR sg 6 (rowC sg 1)) 1 (dvF (gN (rowC (wrR sg 6 (rowC sg 1)) 1)) 7 (ccR (rowC (wrR sg 6 (rowC sg 1)) 1)))) 11) 1 (nI ((nx + 1) % 5))) 2 (nI (if sz < 5 then sz + 1 else 5))))) (L' := [(0, .ref (ad w 0))]) (S' := [.int (nI (dvC (gN (rowC (wrR sg 6 (rowC sg 1)) 1)) 7 (ccR (rowC (wrR sg 6 (rowC sg 1)) 1))))]) rfl rfl rfl rfl ?_
  exact g_iret C E dX4_divides_15 rfl Sq.rf rfl
set_option maxRecDepth 100000 in
set_option maxHeartbeats 400000 in
theorem c_X4_divides_z (w : GW) (tu : Int64) (sg : Sg) (hz : ngX (gN (rowC sg 1)) 6 0 = 0) (hok : ROk (rowC sg 1)) : Kt w yX4_divides cX4_divides 1 (some .int) 4 [.ref (ad w 0)] sg tu (some (.int (-3))) (us (wrR (wrR sg 6 (rowC sg 1)) 1 (rowC (wrR sg 6 (rowC sg 1)) 6)) 0 (upd ((wrR (wrR sg 6 (rowC sg 1)) 1 (rowC (wrR sg 6 (rowC sg 1)) 6)) 0) 6 (((wrR (wrR sg 6 (rowC sg 1)) 1 (rowC (wrR sg 6 (rowC sg 1)) 6)) 0) 6 + nI 1))) tu := by
  refine Kt.of2 RX4 rfl [(0, .ref (ad w 0))] (by decide) rfl (Nat.le_of_ble_eq_true rfl) (fun z C E => ?_)
  refine g_aload_n C 0 rfl rfl dX4_divides_0 ?_
  refine g_callV0 [] C (c_X4_remember w tu sg  ) mt_X4_remember e_0 rfl ml_X4_40 im_X4_remember se_X4_remember (by decide) rfl (Nat.le_of_ble_eq_true rfl) dX4_divides_1 ?_
  refine g_eq (sg' := (wrR sg 6 (rowC sg 1))) (L' := [(0, .ref (ad w 0))]) (S' := []) rfl rfl rfl rfl ?_
  refine g_aload_n C 0 rfl rfl dX4_divides_4 ?_
  refine g_aload_n C 0 rfl rfl dX4_divides_5 ?_
  refine g_getR C (j := 0) cls4 e_0 rfl (by decide) fl_X4_10 dX4_divides_6 ?_
  refine g_callV1 [.ref (ad w 0)] C (c_X3_divide_z w tu (wrR sg 6 (rowC sg 1))  (by rw [S1_r]; exact hok) (by rw [S1_r]; exact hz)) mt_X3_divide e_1 rfl ml_X4_77 im_X3_divide se_X3_divide (by decide) rfl (Nat.le_of_ble_eq_true rfl) dX4_divides_9 ?_
  refine g_eq (L' := [(0, .ref (ad w 0))]) (S' := [.int (-3), .ref (ad w 0)]) rfl rfl rfl rfl ?_
  refine g_callV1 [] C (c_X4_settled_no w tu (wrR sg 6 (rowC sg 1))  ) mt_X4_settled e_0 rfl ml_X4_47 im_X4_settled se_X4_settled (by decide) rfl (Nat.le_of_ble_eq_true rfl) dX4_divides_12 ?_
  refine g_eq (sg' := (us (wrR (wrR sg 6 (rowC sg 1)) 1 (rowC (wrR sg 6 (rowC sg 1)) 6)) 0 (upd ((wrR (wrR sg 6 (rowC sg 1)) 1 (rowC (wrR sg 6 (rowC sg 1)) 6)) 0) 6 (((wrR (wrR sg 6 (rowC sg 1)) 1 (rowC (wrR sg 6 (rowC sg 1)) 6)) 0) 6 + nI 1)))) (L' := [(0, .ref (ad w 0))]) (S' := [.int (-3)]) rfl rfl rfl rfl ?_
  exact g_iret C E dX4_divides_15 rfl Sq.rf rfl
set_option maxRecDepth 100000 in
set_option maxHeartbeats 400000 in
theorem c_X4_divides_no (w : GW) (tu : Int64) (sg : Sg) (hz : ¬ ngX (gN (rowC sg 1)) 6 0 = 0) (hb : dvB (gN (rowC sg 1)) 7 (ccR (rowC sg 1)) = false) (hok : ROk (rowC sg 1)) : Kt w yX4_divides cX4_divides 1 (some .int) 5 [.ref (ad w 0)] sg tu (some (.int (-3))) (us (wrR (wrR (wrR sg 6 (rowC sg 1)) 1 (dvF (gN (rowC (wrR sg 6 (rowC sg 1)) 1)) 7 (ccR (rowC (wrR sg 6 (rowC sg 1)) 1)))) 1 (rowC (wrR (wrR sg 6 (rowC sg 1)) 1 (dvF (gN (rowC (wrR sg 6 (rowC sg 1)) 1)) 7 (ccR (rowC (wrR sg 6 (rowC sg 1)) 1)))) 6)) 0 (upd ((wrR (wrR (wrR sg 6 (rowC sg 1)) 1 (dvF (gN (rowC (wrR sg 6 (rowC sg 1)) 1)) 7 (ccR (rowC (wrR sg 6 (rowC sg 1)) 1)))) 1 (rowC (wrR (wrR sg 6 (rowC sg 1)) 1 (dvF (gN (rowC (wrR sg 6 (rowC sg 1)) 1)) 7 (ccR (rowC (wrR sg 6 (rowC sg 1)) 1)))) 6)) 0) 6 (((wrR (wrR (wrR sg 6 (rowC sg 1)) 1 (dvF (gN (rowC (wrR sg 6 (rowC sg 1)) 1)) 7 (ccR (rowC (wrR sg 6 (rowC sg 1)) 1)))) 1 (rowC (wrR (wrR sg 6 (rowC sg 1)) 1 (dvF (gN (rowC (wrR sg 6 (rowC sg 1)) 1)) 7 (ccR (rowC (wrR sg 6 (rowC sg 1)) 1)))) 6)) 0) 6 + nI 1))) tu := by
  refine Kt.of2 RX4 rfl [(0, .ref (ad w 0))] (by decide) rfl (Nat.le_of_ble_eq_true rfl) (fun z C E => ?_)
  refine g_aload_n C 0 rfl rfl dX4_divides_0 ?_
  refine g_callV0 [] C (c_X4_remember w tu sg  ) mt_X4_remember e_0 rfl ml_X4_40 im_X4_remember se_X4_remember (by decide) rfl (Nat.le_of_ble_eq_true rfl) dX4_divides_1 ?_
  refine g_eq (sg' := (wrR sg 6 (rowC sg 1))) (L' := [(0, .ref (ad w 0))]) (S' := []) rfl rfl rfl rfl ?_
  refine g_aload_n C 0 rfl rfl dX4_divides_4 ?_
  refine g_aload_n C 0 rfl rfl dX4_divides_5 ?_
  refine g_getR C (j := 0) cls4 e_0 rfl (by decide) fl_X4_10 dX4_divides_6 ?_
  refine g_callV1 [.ref (ad w 0)] C (c_X3_divide_no w tu (wrR sg 6 (rowC sg 1))  (by rw [S1_r]; exact hok) (by rw [S1_r]; exact hz) (by rw [S1_r]; exact hb)) mt_X3_divide e_1 rfl ml_X4_77 im_X3_divide se_X3_divide (by decide) rfl (Nat.le_of_ble_eq_true rfl) dX4_divides_9 ?_
  refine g_eq (sg' := (wrR (wrR sg 6 (rowC sg 1)) 1 (dvF (gN (rowC (wrR sg 6 (rowC sg 1)) 1)) 7 (ccR (rowC (wrR sg 6 (rowC sg 1)) 1))))) (L' := [(0, .ref (ad w 0))]) (S' := [.int (-3), .ref (ad w 0)]) rfl rfl rfl rfl ?_
  refine g_callV1 [] C (c_X4_settled_no w tu (wrR (wrR sg 6 (rowC sg 1)) 1 (dvF (gN (rowC (wrR sg 6 (rowC sg 1)) 1)) 7 (ccR (rowC (wrR sg 6 (rowC sg 1)) 1))))  ) mt_X4_settled e_0 rfl ml_X4_47 im_X4_settled se_X4_settled (by decide) rfl (Nat.le_of_ble_eq_true rfl) dX4_divides_12 ?_
  refine g_eq (sg' := (us (wrR (wrR (wrR sg 6 (rowC sg 1)) 1 (dvF (gN (rowC (wrR sg 6 (rowC sg 1)) 1)) 7 (ccR (rowC (wrR sg 6 (rowC sg 1)) 1)))) 1 (rowC (wrR (wrR sg 6 (rowC sg 1)) 1 (dvF (gN (rowC (wrR sg 6 (rowC sg 1)) 1)) 7 (ccR (rowC (wrR sg 6 (rowC sg 1)) 1)))) 6)) 0 (upd ((wrR (wrR (wrR sg 6 (rowC sg 1)) 1 (dvF (gN (rowC (wrR sg 6 (rowC sg 1)) 1)) 7 (ccR (rowC (wrR sg 6 (rowC sg 1)) 1)))) 1 (rowC (wrR (wrR sg 6 (rowC sg 1)) 1 (dvF (gN (rowC (wrR sg 6 (rowC sg 1)) 1)) 7 (ccR (rowC (wrR sg 6 (rowC sg 1)) 1)))) 6)) 0) 6 (((wrR (wrR (wrR sg 6 (rowC sg 1)) 1 (dvF (gN (rowC (wrR sg 6 (rowC sg 1)) 1)) 7 (ccR (rowC (wrR sg 6 (rowC sg 1)) 1)))) 1 (rowC (wrR (wrR sg 6 (rowC sg 1)) 1 (dvF (gN (rowC (wrR sg 6 (rowC sg 1)) 1)) 7 (ccR (rowC (wrR sg 6 (rowC sg 1)) 1)))) 6)) 0) 6 + nI 1)))) (L' := [(0, .ref (ad w 0))]) (S' := [.int (-3)]) rfl rfl rfl rfl ?_
  exact g_iret C E dX4_divides_15 rfl Sq.rf rfl
