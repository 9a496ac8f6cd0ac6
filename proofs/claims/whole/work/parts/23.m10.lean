set_option maxRecDepth 100000 in
set_option maxHeartbeats 400000 in
theorem c_X5_sets_ok (w : GW) (tu : Int64) (sg : Sg) (j : Nat) (n : Nat) (st : Nat) (hj : j < 6) (hn : n ≤ 9) (hok : ROk (sg 45)) (hst : sg 44 3 = nI st) (hs5 : st ≤ 5) : Kt w yX5_sets cX5_sets 3 (some .int) 3 [.ref (ad w 44), .int (nI j), .int (nI n)] sg tu (some (.int (sg 45 j))) (us (us (us (us sg 46 (sg 45)) 45 (upd (sg 45) j (nI n))) 47 (pastP (sg 47) (sg 45) st)) 44 (upd (sg 44) 3 (nI (stP st)))) tu := by
  refine Kt.of2 RX5 rfl [(0, .ref (ad w 44)), (1, .int (nI j)), (2, .int (nI n))] (by decide) rfl (Nat.le_of_ble_eq_true rfl) (fun z C E => ?_)
  refine g_aload_n C 0 rfl rfl dX5_sets_0 ?_
  refine g_callV0 [] C (c_X5_laysAside w tu sg  ) mt_X5_laysAside e_44 rfl ml_X5_114 im_X5_laysAside se_X5_laysAside (by decide) rfl (Nat.le_of_ble_eq_true rfl) dX5_sets_1 ?_
  refine g_eq (sg' := (us sg 46 (sg 45))) (L' := [(0, .ref (ad w 44)), (1, .int (nI j)), (2, .int (nI n))]) (S' := []) rfl rfl rfl rfl ?_
  refine g_aload_n C 0 rfl rfl dX5_sets_4 ?_
  refine g_aload_n C 0 rfl rfl dX5_sets_5 ?_
  refine g_iload_n C 1 rfl rfl dX5_sets_6 ?_
  refine g_iload_n C 2 rfl rfl dX5_sets_7 ?_
  refine g_callV1 [.ref (ad w 44)] C (c_X5_putDigit_ok w tu (us sg 46 (sg 45)) j n hj hn) mt_X5_putDigit e_44 rfl ml_X5_117 im_X5_putDigit se_X5_putDigit (by decide) rfl (Nat.le_of_ble_eq_true rfl) dX5_sets_8 ?_
  refine g_eq (sg' := (us (us sg 46 (sg 45)) 45 (upd (sg 45) j (nI n)))) (L' := [(0, .ref (ad w 44)), (1, .int (nI j)), (2, .int (nI n))]) (S' := [.int (sg 45 j), .ref (ad w 44)]) rfl rfl rfl rfl ?_
  refine g_callV1 [] C (c_X5_finished_ok w tu (us (us sg 46 (sg 45)) 45 (upd (sg 45) j (nI n))) (sg 45 j) st (m2_of ⟨_, by have := (hok.1 j hj).2; omega, (hok.1 j hj).1⟩) hst hs5) mt_X5_finished e_44 rfl ml_X5_120 im_X5_finished se_X5_finished (by decide) rfl (Nat.le_of_ble_eq_true rfl) dX5_sets_11 ?_
  refine g_eq (sg' := (us (us (us (us sg 46 (sg 45)) 45 (upd (sg 45) j (nI n))) 47 (pastP (sg 47) (sg 45) st)) 44 (upd (sg 44) 3 (nI (stP st))))) (L' := [(0, .ref (ad w 44)), (1, .int (nI j)), (2, .int (nI n))]) (S' := [.int (sg 45 j)]) rfl rfl rfl rfl ?_
  exact g_iret C E dX5_sets_14 rfl Sq.rf rfl
set_option maxRecDepth 100000 in
set_option maxHeartbeats 400000 in
theorem c_X5_sets_bad (w : GW) (tu : Int64) (sg : Sg) (x : Int32) (v : Int32) (h : ¬ ((0 ≤ Int32.toInt64 x ∧ Int32.toInt64 x ≤ 5) ∧ (0 ≤ Int32.toInt64 v ∧ Int32.toInt64 v ≤ 9))) : Kt w yX5_sets cX5_sets 3 (some .int) 3 [.ref (ad w 44), .int x, .int v] sg tu (some (.int (-2))) (us (us sg 46 (sg 45)) 48 (upd (sg 48) 0 ((sg 48 0) + nI 1))) tu := by
  refine Kt.of2 RX5 rfl [(0, .ref (ad w 44)), (1, .int x), (2, .int v)] (by decide) rfl (Nat.le_of_ble_eq_true rfl) (fun z C E => ?_)
  refine g_aload_n C 0 rfl rfl dX5_sets_0 ?_
  refine g_callV0 [] C (c_X5_laysAside w tu sg  ) mt_X5_laysAside e_44 rfl ml_X5_114 im_X5_laysAside se_X5_laysAside (by decide) rfl (Nat.le_of_ble_eq_true rfl) dX5_sets_1 ?_
  refine g_eq (sg' := (us sg 46 (sg 45))) (L' := [(0, .ref (ad w 44)), (1, .int x), (2, .int v)]) (S' := []) rfl rfl rfl rfl ?_
  refine g_aload_n C 0 rfl rfl dX5_sets_4 ?_
  refine g_aload_n C 0 rfl rfl dX5_sets_5 ?_
  refine g_iload_n C 1 rfl rfl dX5_sets_6 ?_
  refine g_iload_n C 2 rfl rfl dX5_sets_7 ?_
  refine g_callV1 [.ref (ad w 44)] C (c_X5_putDigit_bad w tu (us sg 46 (sg 45)) x v h) mt_X5_putDigit e_44 rfl ml_X5_117 im_X5_putDigit se_X5_putDigit (by decide) rfl (Nat.le_of_ble_eq_true rfl) dX5_sets_8 ?_
  refine g_eq (L' := [(0, .ref (ad w 44)), (1, .int x), (2, .int v)]) (S' := [.int (-2), .ref (ad w 44)]) rfl rfl rfl rfl ?_
  refine g_callV1 [] C (c_X5_finished_bad w tu (us sg 46 (sg 45))  ) mt_X5_finished e_44 rfl ml_X5_120 im_X5_finished se_X5_finished (by decide) rfl (Nat.le_of_ble_eq_true rfl) dX5_sets_11 ?_
  refine g_eq (sg' := (us (us sg 46 (sg 45)) 48 (upd (sg 48) 0 ((sg 48 0) + nI 1)))) (L' := [(0, .ref (ad w 44)), (1, .int x), (2, .int v)]) (S' := [.int (-2)]) rfl rfl rfl rfl ?_
  exact g_iret C E dX5_sets_14 rfl Sq.rf rfl
set_option maxRecDepth 100000 in
set_option maxHeartbeats 400000 in
theorem c_X5_input_ok (w : GW) (tu : Int64) (sg : Sg) (n : Nat) (st : Nat) (hn : n ≤ 999999) (hok : ROk (sg 45)) (hst : sg 44 3 = nI st) (hs5 : st ≤ 5) : Kt w yX5_input cX5_input 2 (some .int) 2 [.ref (ad w 44), .int (nI n)] sg tu (some (.int (nbX (sg 45) 0 6 (nI 0)))) (us (us (us (us sg 46 (sg 45)) 45 (inR n (sg 45))) 47 (pastP (sg 47) (sg 45) st)) 44 (upd (sg 44) 3 (nI (stP st)))) tu := by
  refine Kt.of2 RX5 rfl [(0, .ref (ad w 44)), (1, .int (nI n))] (by decide) rfl (Nat.le_of_ble_eq_true rfl) (fun z C E => ?_)
  refine g_aload_n C 0 rfl rfl dX5_input_0 ?_
  refine g_callV0 [] C (c_X5_laysAside w tu sg  ) mt_X5_laysAside e_44 rfl ml_X5_114 im_X5_laysAside se_X5_laysAside (by decide) rfl (Nat.le_of_ble_eq_true rfl) dX5_input_1 ?_
  refine g_eq (sg' := (us sg 46 (sg 45))) (L' := [(0, .ref (ad w 44)), (1, .int (nI n))]) (S' := []) rfl rfl rfl rfl ?_
  refine g_aload_n C 0 rfl rfl dX5_input_4 ?_
  refine g_aload_n C 0 rfl rfl dX5_input_5 ?_
  refine g_iload_n C 1 rfl rfl dX5_input_6 ?_
  refine g_callV1 [.ref (ad w 44)] C (c_X5_putInput_ok w tu (us sg 46 (sg 45)) n hn) mt_X5_putInput e_44 rfl ml_X5_123 im_X5_putInput se_X5_putInput (by decide) rfl (Nat.le_of_ble_eq_true rfl) dX5_input_7 ?_
  refine g_eq (sg' := (us (us sg 46 (sg 45)) 45 (inR n (sg 45)))) (L' := [(0, .ref (ad w 44)), (1, .int (nI n))]) (S' := [.int (nbX (sg 45) 0 6 (nI 0)), .ref (ad w 44)]) rfl rfl rfl rfl ?_
  refine g_callV1 [] C (c_X5_finished_ok w tu (us (us sg 46 (sg 45)) 45 (inR n (sg 45))) (nbX (sg 45) 0 6 (nI 0)) st (dig_gt hok) hst hs5) mt_X5_finished e_44 rfl ml_X5_120 im_X5_finished se_X5_finished (by decide) rfl (Nat.le_of_ble_eq_true rfl) dX5_input_10 ?_
  refine g_eq (sg' := (us (us (us (us sg 46 (sg 45)) 45 (inR n (sg 45))) 47 (pastP (sg 47) (sg 45) st)) 44 (upd (sg 44) 3 (nI (stP st))))) (L' := [(0, .ref (ad w 44)), (1, .int (nI n))]) (S' := [.int (nbX (sg 45) 0 6 (nI 0))]) rfl rfl rfl rfl ?_
  exact g_iret C E dX5_input_13 rfl Sq.rf rfl
set_option maxRecDepth 100000 in
set_option maxHeartbeats 400000 in
theorem c_X5_input_bad (w : GW) (tu : Int64) (sg : Sg) (v : Int32) (h : ¬ (0 ≤ Int32.toInt64 v ∧ Int32.toInt64 v ≤ 999999)) : Kt w yX5_input cX5_input 2 (some .int) 2 [.ref (ad w 44), .int v] sg tu (some (.int (-2))) (us (us sg 46 (sg 45)) 48 (upd (sg 48) 0 ((sg 48 0) + nI 1))) tu := by
  refine Kt.of2 RX5 rfl [(0, .ref (ad w 44)), (1, .int v)] (by decide) rfl (Nat.le_of_ble_eq_true rfl) (fun z C E => ?_)
  refine g_aload_n C 0 rfl rfl dX5_input_0 ?_
  refine g_callV0 [] C (c_X5_laysAside w tu sg  ) mt_X5_laysAside e_44 rfl ml_X5_114 im_X5_laysAside se_X5_laysAside (by decide) rfl (Nat.le_of_ble_eq_true rfl) dX5_input_1 ?_
  refine g_eq (sg' := (us sg 46 (sg 45))) (L' := [(0, .ref (ad w 44)), (1, .int v)]) (S' := []) rfl rfl rfl rfl ?_
  refine g_aload_n C 0 rfl rfl dX5_input_4 ?_
  refine g_aload_n C 0 rfl rfl dX5_input_5 ?_
  refine g_iload_n C 1 rfl rfl dX5_input_6 ?_
  refine g_callV1 [.ref (ad w 44)] C (c_X5_putInput_bad w tu (us sg 46 (sg 45)) v h) mt_X5_putInput e_44 rfl ml_X5_123 im_X5_putInput se_X5_putInput (by decide) rfl (Nat.le_of_ble_eq_true rfl) dX5_input_7 ?_
  refine g_eq (L' := [(0, .ref (ad w 44)), (1, .int v)]) (S' := [.int (-2), .ref (ad w 44)]) rfl rfl rfl rfl ?_
  refine g_callV1 [] C (c_X5_finished_bad w tu (us sg 46 (sg 45))  ) mt_X5_finished e_44 rfl ml_X5_120 im_X5_finished se_X5_finished (by decide) rfl (Nat.le_of_ble_eq_true rfl) dX5_input_10 ?_
  refine g_eq (sg' := (us (us sg 46 (sg 45)) 48 (upd (sg 48) 0 ((sg 48 0) + nI 1)))) (L' := [(0, .ref (ad w 44)), (1, .int v)]) (S' := [.int (-2)]) rfl rfl rfl rfl ?_
  exact g_iret C E dX5_input_13 rfl Sq.rf rfl
set_option maxRecDepth 100000 in
set_option maxHeartbeats 400000 in
theorem c_X5_shifts_ok (w : GW) (tu : Int64) (sg : Sg) (n : Nat) (st : Nat) (hn : n ≤ 6) (hok : ROk (sg 45)) (hst : sg 44 3 = nI st) (hs5 : st ≤ 5) : Kt w yX5_shifts cX5_shifts 2 (some .int) 2 [.ref (ad w 44), .int (nI n)] sg tu (some (.int (sg 45 31))) (us (us (us (us sg 46 (sg 45)) 45 (upd (sg 45) 31 (nI n))) 47 (pastP (sg 47) (sg 45) st)) 44 (upd (sg 44) 3 (nI (stP st)))) tu := by
  refine Kt.of2 RX5 rfl [(0, .ref (ad w 44)), (1, .int (nI n))] (by decide) rfl (Nat.le_of_ble_eq_true rfl) (fun z C E => ?_)
  refine g_aload_n C 0 rfl rfl dX5_shifts_0 ?_
  refine g_callV0 [] C (c_X5_laysAside w tu sg  ) mt_X5_laysAside e_44 rfl ml_X5_114 im_X5_laysAside se_X5_laysAside (by decide) rfl (Nat.le_of_ble_eq_true rfl) dX5_shifts_1 ?_
  refine g_eq (sg' := (us sg 46 (sg 45))) (L' := [(0, .ref (ad w 44)), (1, .int (nI n))]) (S' := []) rfl rfl rfl rfl ?_
  refine g_aload_n C 0 rfl rfl dX5_shifts_4 ?_
  refine g_aload_n C 0 rfl rfl dX5_shifts_5 ?_
  refine g_iload_n C 1 rfl rfl dX5_shifts_6 ?_
  refine g_callV1 [.ref (ad w 44)] C (c_X5_putShift_ok w tu (us sg 46 (sg 45)) n hn) mt_X5_putShift e_44 rfl ml_X5_126 im_X5_putShift se_X5_putShift (by decide) rfl (Nat.le_of_ble_eq_true rfl) dX5_shifts_7 ?_
  refine g_eq (sg' := (us (us sg 46 (sg 45)) 45 (upd (sg 45) 31 (nI n)))) (L' := [(0, .ref (ad w 44)), (1, .int (nI n))]) (S' := [.int (sg 45 31), .ref (ad w 44)]) rfl rfl rfl rfl ?_
  refine g_callV1 [] C (c_X5_finished_ok w tu (us (us sg 46 (sg 45)) 45 (upd (sg 45) 31 (nI n))) (sg 45 31) st (m2_of ⟨_, by have := hok.2.2.2.1.2; omega, hok.2.2.2.1.1⟩) hst hs5) mt_X5_finished e_44 rfl ml_X5_120 im_X5_finished se_X5_finished (by decide) rfl (Nat.le_of_ble_eq_true rfl) dX5_shifts_10 ?_
  refine g_eq (sg' := (us (us (us (us sg 46 (sg 45)) 45 (upd (sg 45) 31 (nI n))) 47 (pastP (sg 47) (sg 45) st)) 44 (upd (sg 44) 3 (nI (stP st))))) (L' := [(0, .ref (ad w 44)), (1, .int (nI n))]) (S' := [.int (sg 45 31)]) rfl rfl rfl rfl ?_
  exact g_iret C E dX5_shifts_13 rfl Sq.rf rfl
set_option maxRecDepth 100000 in
set_option maxHeartbeats 400000 in
theorem c_X5_shifts_bad (w : GW) (tu : Int64) (sg : Sg) (v : Int32) (h : ¬ (0 ≤ Int32.toInt64 v ∧ Int32.toInt64 v ≤ 6)) : Kt w yX5_shifts cX5_shifts 2 (some .int) 2 [.ref (ad w 44), .int v] sg tu (some (.int (-2))) (us (us sg 46 (sg 45)) 48 (upd (sg 48) 0 ((sg 48 0) + nI 1))) tu := by
  refine Kt.of2 RX5 rfl [(0, .ref (ad w 44)), (1, .int v)] (by decide) rfl (Nat.le_of_ble_eq_true rfl) (fun z C E => ?_)
  refine g_aload_n C 0 rfl rfl dX5_shifts_0 ?_
  refine g_callV0 [] C (c_X5_laysAside w tu sg  ) mt_X5_laysAside e_44 rfl ml_X5_114 im_X5_laysAside se_X5_laysAside (by decide) rfl (Nat.le_of_ble_eq_true rfl) dX5_shifts_1 ?_
  refine g_eq (sg' := (us sg 46 (sg 45))) (L' := [(0, .ref (ad w 44)), (1, .int v)]) (S' := []) rfl rfl rfl rfl ?_
  refine g_aload_n C 0 rfl rfl dX5_shifts_4 ?_
  refine g_aload_n C 0 rfl rfl dX5_shifts_5 ?_
  refine g_iload_n C 1 rfl rfl dX5_shifts_6 ?_
  refine g_callV1 [.ref (ad w 44)] C (c_X5_putShift_bad w tu (us sg 46 (sg 45)) v h) mt_X5_putShift e_44 rfl ml_X5_126 im_X5_putShift se_X5_putShift (by decide) rfl (Nat.le_of_ble_eq_true rfl) dX5_shifts_7 ?_
  refine g_eq (L' := [(0, .ref (ad w 44)), (1, .int v)]) (S' := [.int (-2), .ref (ad w 44)]) rfl rfl rfl rfl ?_
  refine g_callV1 [] C (c_X5_finished_bad w tu (us sg 46 (sg 45))  ) mt_X5_finished e_44 rfl ml_X5_120 im_X5_finished se_X5_finished (by decide) rfl (Nat.le_of_ble_eq_true rfl) dX5_shifts_10 ?_
  refine g_eq (sg' := (us (us sg 46 (sg 45)) 48 (upd (sg 48) 0 ((sg 48 0) + nI 1)))) (L' := [(0, .ref (ad w 44)), (1, .int v)]) (S' := [.int (-2)]) rfl rfl rfl rfl ?_
  exact g_iret C E dX5_shifts_13 rfl Sq.rf rfl
set_option maxRecDepth 100000 in
set_option maxHeartbeats 400000 in
theorem c_X5_reaches_ok (w : GW) (tu : Int64) (sg : Sg) (n : Nat) (st : Nat) (hn : n ≤ 12) (hok : ROk (sg 45)) (hst : sg 44 3 = nI st) (hs5 : st ≤ 5) : Kt w yX5_reaches cX5_reaches 2 (some .int) 2 [.ref (ad w 44), .int (nI n)] sg tu (some (.int (sg 45 32))) (us (us (us (us sg 46 (sg 45)) 45 (upd (sg 45) 32 (nI n))) 47 (pastP (sg 47) (sg 45) st)) 44 (upd (sg 44) 3 (nI (stP st)))) tu := by
  refine Kt.of2 RX5 rfl [(0, .ref (ad w 44)), (1, .int (nI n))] (by decide) rfl (Nat.le_of_ble_eq_true rfl) (fun z C E => ?_)
  refine g_aload_n C 0 rfl rfl dX5_reaches_0 ?_
  refine g_callV0 [] C (c_X5_laysAside w tu sg  ) mt_X5_laysAside e_44 rfl ml_X5_114 im_X5_laysAside se_X5_laysAside (by decide) rfl (Nat.le_of_ble_eq_true rfl) dX5_reaches_1 ?_
  refine g_eq (sg' := (us sg 46 (sg 45))) (L' := [(0, .ref (ad w 44)), (1, .int (nI n))]) (S' := []) rfl rfl rfl rfl ?_
  refine g_aload_n C 0 rfl rfl dX5_reaches_4 ?_
  refine g_aload_n C 0 rfl rfl dX5_reaches_5 ?_
  refine g_iload_n C 1 rfl rfl dX5_reaches_6 ?_
  refine g_callV1 [.ref (ad w 44)] C (c_X5_putReach_ok w tu (us sg 46 (sg 45)) n hn) mt_X5_putReach e_44 rfl ml_X5_129 im_X5_putReach se_X5_putReach (by decide) rfl (Nat.le_of_ble_eq_true rfl) dX5_reaches_7 ?_
  refine g_eq (sg' := (us (us sg 46 (sg 45)) 45 (upd (sg 45) 32 (nI n)))) (L' := [(0, .ref (ad w 44)), (1, .int (nI n))]) (S' := [.int (sg 45 32), .ref (ad w 44)]) rfl rfl rfl rfl ?_
  refine g_callV1 [] C (c_X5_finished_ok w tu (us (us sg 46 (sg 45)) 45 (upd (sg 45) 32 (nI n))) (sg 45 32) st (m2_of ⟨_, by have := hok.2.2.2.2.2; omega, hok.2.2.2.2.1⟩) hst hs5) mt_X5_finished e_44 rfl ml_X5_120 im_X5_finished se_X5_finished (by decide) rfl (Nat.le_of_ble_eq_true rfl) dX5_reaches_10 ?_
  refine g_eq (sg' := (us (us (us (us sg 46 (sg 45)) 45 (upd (sg 45) 32 (nI n))) 47 (pastP (sg 47) (sg 45) st)) 44 (upd (sg 44) 3 (nI (stP st))))) (L' := [(0, .ref (ad w 44)), (1, .int (nI n))]) (S' := [.int (sg 45 32)]) rfl rfl rfl rfl ?_
  exact g_iret C E dX5_reaches_13 rfl Sq.rf rfl
set_option maxRecDepth 100000 in
set_option maxHeartbeats 400000 in
theorem c_X5_reaches_bad (w : GW) (tu : Int64) (sg : Sg) (v : Int32) (h : ¬ (0 ≤ Int32.toInt64 v ∧ Int32.toInt64 v ≤ 12)) : Kt w yX5_reaches cX5_reaches 2 (some .int) 2 [.ref (ad w 44), .int v] sg tu (some (.int (-2))) (us (us sg 46 (sg 45)) 48 (upd (sg 48) 0 ((sg 48 0) + nI 1))) tu := by
  refine Kt.of2 RX5 rfl [(0, .ref (ad w 44)), (1, .int v)] (by decide) rfl (Nat.le_of_ble_eq_true rfl) (fun z C E => ?_)
  refine g_aload_n C 0 rfl rfl dX5_reaches_0 ?_
  refine g_callV0 [] C (c_X5_laysAside w tu sg  ) mt_X5_laysAside e_44 rfl ml_X5_114 im_X5_laysAside se_X5_laysAside (by decide) rfl (Nat.le_of_ble_eq_true rfl) dX5_reaches_1 ?_
  refine g_eq (sg' := (us sg 46 (sg 45))) (L' := [(0, .ref (ad w 44)), (1, .int v)]) (S' := []) rfl rfl rfl rfl ?_
  refine g_aload_n C 0 rfl rfl dX5_reaches_4 ?_
  refine g_aload_n C 0 rfl rfl dX5_reaches_5 ?_
  refine g_iload_n C 1 rfl rfl dX5_reaches_6 ?_
  refine g_callV1 [.ref (ad w 44)] C (c_X5_putReach_bad w tu (us sg 46 (sg 45)) v h) mt_X5_putReach e_44 rfl ml_X5_129 im_X5_putReach se_X5_putReach (by decide) rfl (Nat.le_of_ble_eq_true rfl) dX5_reaches_7 ?_
  refine g_eq (L' := [(0, .ref (ad w 44)), (1, .int v)]) (S' := [.int (-2), .ref (ad w 44)]) rfl rfl rfl rfl ?_
  refine g_callV1 [] C (c_X5_finished_bad w tu (us sg 46 (sg 45))  ) mt_X5_finished e_44 rfl ml_X5_120 im_X5_finished se_X5_finished (by decide) rfl (Nat.le_of_ble_eq_true rfl) dX5_reaches_10 ?_
  refine g_eq (sg' := (us (us sg 46 (sg 45)) 48 (upd (sg 48) 0 ((sg 48 0) + nI 1)))) (L' := [(0, .ref (ad w 44)), (1, .int v)]) (S' := [.int (-2)]) rfl rfl rfl rfl ?_
  exact g_iret C E dX5_reaches_13 rfl Sq.rf rfl
set_option maxRecDepth 100000 in
set_option maxHeartbeats 400000 in
theorem c_X5_wears_ok (w : GW) (tu : Int64) (sg : Sg) (j : Nat) (t : Nat) (st : Nat) (hj : j < 6) (ht1 : 1 ≤ t) (ht : t ≤ 9) (hst : sg 44 3 = nI st) (hs5 : st ≤ 5) : Kt w yX5_wears cX5_wears 3 (some .int) 3 [.ref (ad w 44), .int (nI j), .int (nI t)] sg tu (some (.int (wmX ((sg 45 (6 + j)) ^^^ (nI 1 <<< ((nI t) &&& 31))) 10))) (us (us (us (us sg 46 (sg 45)) 45 (upd (sg 45) (6 + j) ((sg 45 (6 + j)) ^^^ (nI 1 <<< ((nI t) &&& 31))))) 47 (pastP (sg 47) (sg 45) st)) 44 (upd (sg 44) 3 (nI (stP st)))) tu := by
  refine Kt.of2 RX5 rfl [(0, .ref (ad w 44)), (1, .int (nI j)), (2, .int (nI t))] (by decide) rfl (Nat.le_of_ble_eq_true rfl) (fun z C E => ?_)
  refine g_aload_n C 0 rfl rfl dX5_wears_0 ?_
  refine g_callV0 [] C (c_X5_laysAside w tu sg  ) mt_X5_laysAside e_44 rfl ml_X5_114 im_X5_laysAside se_X5_laysAside (by decide) rfl (Nat.le_of_ble_eq_true rfl) dX5_wears_1 ?_
  refine g_eq (sg' := (us sg 46 (sg 45))) (L' := [(0, .ref (ad w 44)), (1, .int (nI j)), (2, .int (nI t))]) (S' := []) rfl rfl rfl rfl ?_
  refine g_aload_n C 0 rfl rfl dX5_wears_4 ?_
  refine g_aload_n C 0 rfl rfl dX5_wears_5 ?_
  refine g_iload_n C 1 rfl rfl dX5_wears_6 ?_
  refine g_iload_n C 2 rfl rfl dX5_wears_7 ?_
  refine g_callV1 [.ref (ad w 44)] C (c_X5_putWorn_ok w tu (us sg 46 (sg 45)) j t hj ht1 ht) mt_X5_putWorn e_44 rfl ml_X5_132 im_X5_putWorn se_X5_putWorn (by decide) rfl (Nat.le_of_ble_eq_true rfl) dX5_wears_8 ?_
  refine g_eq (sg' := (us (us sg 46 (sg 45)) 45 (upd (sg 45) (6 + j) ((sg 45 (6 + j)) ^^^ (nI 1 <<< ((nI t) &&& 31)))))) (L' := [(0, .ref (ad w 44)), (1, .int (nI j)), (2, .int (nI t))]) (S' := [.int (wmX ((sg 45 (6 + j)) ^^^ (nI 1 <<< ((nI t) &&& 31))) 10), .ref (ad w 44)]) rfl rfl rfl rfl ?_
  refine g_callV1 [] C (c_X5_finished_ok w tu (us (us sg 46 (sg 45)) 45 (upd (sg 45) (6 + j) ((sg 45 (6 + j)) ^^^ (nI 1 <<< ((nI t) &&& 31))))) (wmX ((sg 45 (6 + j)) ^^^ (nI 1 <<< ((nI t) &&& 31))) 10) st wmX_gt hst hs5) mt_X5_finished e_44 rfl ml_X5_120 im_X5_finished se_X5_finished (by decide) rfl (Nat.le_of_ble_eq_true rfl) dX5_wears_11 ?_
  refine g_eq (sg' := (us (us (us (us sg 46 (sg 45)) 45 (upd (sg 45) (6 + j) ((sg 45 (6 + j)) ^^^ (nI 1 <<< ((nI t) &&& 31))))) 47 (pastP (sg 47) (sg 45) st)) 44 (upd (sg 44) 3 (nI (stP st))))) (L' := [(0, .ref (ad w 44)), (1, .int (nI j)), (2, .int (nI t))]) (S' := [.int (wmX ((sg 45 (6 + j)) ^^^ (nI 1 <<< ((nI t) &&& 31))) 10)]) rfl rfl rfl rfl ?_
  exact g_iret C E dX5_wears_14 rfl Sq.rf rfl
set_option maxRecDepth 100000 in
set_option maxHeartbeats 400000 in
theorem c_X5_wears_bad (w : GW) (tu : Int64) (sg : Sg) (x : Int32) (v : Int32) (h : ¬ ((0 ≤ Int32.toInt64 x ∧ Int32.toInt64 x ≤ 5) ∧ (1 ≤ Int32.toInt64 v ∧ Int32.toInt64 v ≤ 9))) : Kt w yX5_wears cX5_wears 3 (some .int) 3 [.ref (ad w 44), .int x, .int v] sg tu (some (.int (-2))) (us (us sg 46 (sg 45)) 48 (upd (sg 48) 0 ((sg 48 0) + nI 1))) tu := by
  refine Kt.of2 RX5 rfl [(0, .ref (ad w 44)), (1, .int x), (2, .int v)] (by decide) rfl (Nat.le_of_ble_eq_true rfl) (fun z C E => ?_)
  refine g_aload_n C 0 rfl rfl dX5_wears_0 ?_
  refine g_callV0 [] C (c_X5_laysAside w tu sg  ) mt_X5_laysAside e_44 rfl ml_X5_114 im_X5_laysAside se_X5_laysAside (by decide) rfl (Nat.le_of_ble_eq_true rfl) dX5_wears_1 ?_
  refine g_eq (sg' := (us sg 46 (sg 45))) (L' := [(0, .ref (ad w 44)), (1, .int x), (2, .int v)]) (S' := []) rfl rfl rfl rfl ?_
  refine g_aload_n C 0 rfl rfl dX5_wears_4 ?_
  refine g_aload_n C 0 rfl rfl dX5_wears_5 ?_
  refine g_iload_n C 1 rfl rfl dX5_wears_6 ?_
  refine g_iload_n C 2 rfl rfl dX5_wears_7 ?_
  refine g_callV1 [.ref (ad w 44)] C (c_X5_putWorn_bad w tu (us sg 46 (sg 45)) x v h) mt_X5_putWorn e_44 rfl ml_X5_132 im_X5_putWorn se_X5_putWorn (by decide) rfl (Nat.le_of_ble_eq_true rfl) dX5_wears_8 ?_
  refine g_eq (L' := [(0, .ref (ad w 44)), (1, .int x), (2, .int v)]) (S' := [.int (-2), .ref (ad w 44)]) rfl rfl rfl rfl ?_
  refine g_callV1 [] C (c_X5_finished_bad w tu (us sg 46 (sg 45))  ) mt_X5_finished e_44 rfl ml_X5_120 im_X5_finished se_X5_finished (by decide) rfl (Nat.le_of_ble_eq_true rfl) dX5_wears_11 ?_
  refine g_eq (sg' := (us (us sg 46 (sg 45)) 48 (upd (sg 48) 0 ((sg 48 0) + nI 1)))) (L' := [(0, .ref (ad w 44)), (1, .int x), (2, .int v)]) (S' := [.int (-2)]) rfl rfl rfl rfl ?_
  exact g_iret C E dX5_wears_14 rfl Sq.rf rfl
set_option maxRecDepth 100000 in
set_option maxHeartbeats 400000 in
theorem c_X5_clears (w : GW) (tu : Int64) (sg : Sg) (st : Nat)  (hst : sg 44 3 = nI st) (hs5 : st ≤ 5) : Kt w yX5_clears cX5_clears 1 (some .int) 2 [.ref (ad w 44)] sg tu (some (.int (czX (sg 45) (fun _ => nI 0) 12 12))) (us (us (us (us sg 46 (sg 45)) 45 (fw 24 (fun _ => nI 0) (fw 12 (fun _ => nI 0) (sg 45) 12) 7)) 47 (pastP (sg 47) (sg 45) st)) 44 (upd (sg 44) 3 (nI (stP st)))) tu := by
  refine Kt.of2 RX5 rfl [(0, .ref (ad w 44))] (by decide) rfl (Nat.le_of_ble_eq_true rfl) (fun z C E => ?_)
  refine g_aload_n C 0 rfl rfl dX5_clears_0 ?_
  refine g_callV0 [] C (c_X5_laysAside w tu sg  ) mt_X5_laysAside e_44 rfl ml_X5_114 im_X5_laysAside se_X5_laysAside (by decide) rfl (Nat.le_of_ble_eq_true rfl) dX5_clears_1 ?_
  refine g_eq (sg' := (us sg 46 (sg 45))) (L' := [(0, .ref (ad w 44))]) (S' := []) rfl rfl rfl rfl ?_
  refine g_aload_n C 0 rfl rfl dX5_clears_4 ?_
  refine g_aload_n C 0 rfl rfl dX5_clears_5 ?_
  refine g_callV1 [.ref (ad w 44)] C (c_X5_clearsAll w tu (us sg 46 (sg 45))  ) mt_X5_clearsAll e_44 rfl ml_X5_79 im_X5_clearsAll se_X5_clearsAll (by decide) rfl (Nat.le_of_ble_eq_true rfl) dX5_clears_6 ?_
  refine g_eq (sg' := (us (us sg 46 (sg 45)) 45 (fw 24 (fun _ => nI 0) (fw 12 (fun _ => nI 0) (sg 45) 12) 7))) (L' := [(0, .ref (ad w 44))]) (S' := [.int (czX (sg 45) (fun _ => nI 0) 12 12), .ref (ad w 44)]) rfl rfl rfl rfl ?_
  refine g_callV1 [] C (c_X5_finished_ok w tu (us (us sg 46 (sg 45)) 45 (fw 24 (fun _ => nI 0) (fw 12 (fun _ => nI 0) (sg 45) 12) 7)) (czX (sg 45) (fun _ => nI 0) 12 12) st (czX_gt (by decide)) hst hs5) mt_X5_finished e_44 rfl ml_X5_120 im_X5_finished se_X5_finished (by decide) rfl (Nat.le_of_ble_eq_true rfl) dX5_clears_9 ?_
  refine g_eq (sg' := (us (us (us (us sg 46 (sg 45)) 45 (fw 24 (fun _ => nI 0) (fw 12 (fun _ => nI 0) (sg 45) 12) 7)) 47 (pastP (sg 47) (sg 45) st)) 44 (upd (sg 44) 3 (nI (stP st))))) (L' := [(0, .ref (ad w 44))]) (S' := [.int (czX (sg 45) (fun _ => nI 0) 12 12)]) rfl rfl rfl rfl ?_
  exact g_iret C E dX5_clears_12 rfl Sq.rf rfl
set_option maxRecDepth 100000 in
set_option maxHeartbeats 400000 in
theorem c_X5_lays_ok (w : GW) (tu : Int64) (sg : Sg) (m : Nat) (st : Nat) (hm : m ≤ 999999999999) (hst : sg 44 3 = nI st) (hs5 : st ≤ 5) : Kt w yX5_lays cX5_lays 3 (some .int) 2 [.ref (ad w 44), .long (lN m)] sg tu (some (.int (czX (sg 45) (fun k => nI (m / 10 ^ k % 10)) 12 12))) (us (us (us (us sg 46 (sg 45)) 45 (laR m (sg 45))) 47 (pastP (sg 47) (sg 45) st)) 44 (upd (sg 44) 3 (nI (stP st)))) tu := by
  refine Kt.of2 RX5 rfl [(0, .ref (ad w 44)), (1, .long (lN m))] (by decide) rfl (Nat.le_of_ble_eq_true rfl) (fun z C E => ?_)
  refine g_aload_n C 0 rfl rfl dX5_lays_0 ?_
  refine g_callV0 [] C (c_X5_laysAside w tu sg  ) mt_X5_laysAside e_44 rfl ml_X5_114 im_X5_laysAside se_X5_laysAside (by decide) rfl (Nat.le_of_ble_eq_true rfl) dX5_lays_1 ?_
  refine g_eq (sg' := (us sg 46 (sg 45))) (L' := [(0, .ref (ad w 44)), (1, .long (lN m))]) (S' := []) rfl rfl rfl rfl ?_
  refine g_aload_n C 0 rfl rfl dX5_lays_4 ?_
  refine g_aload_n C 0 rfl rfl dX5_lays_5 ?_
  refine g_lload_n C 1 rfl rfl dX5_lays_6 ?_
  refine g_callV1 [.ref (ad w 44)] C (c_X5_putWheels_ok w tu (us sg 46 (sg 45)) m hm) mt_X5_putWheels e_44 rfl ml_X5_135 im_X5_putWheels se_X5_putWheels (by decide) rfl (Nat.le_of_ble_eq_true rfl) dX5_lays_7 ?_
  refine g_eq (sg' := (us (us sg 46 (sg 45)) 45 (laR m (sg 45)))) (L' := [(0, .ref (ad w 44)), (1, .long (lN m))]) (S' := [.int (czX (sg 45) (fun k => nI (m / 10 ^ k % 10)) 12 12), .ref (ad w 44)]) rfl rfl rfl rfl ?_
  refine g_callV1 [] C (c_X5_finished_ok w tu (us (us sg 46 (sg 45)) 45 (laR m (sg 45))) (czX (sg 45) (fun k => nI (m / 10 ^ k % 10)) 12 12) st (czX_gt (by decide)) hst hs5) mt_X5_finished e_44 rfl ml_X5_120 im_X5_finished se_X5_finished (by decide) rfl (Nat.le_of_ble_eq_true rfl) dX5_lays_10 ?_
  refine g_eq (sg' := (us (us (us (us sg 46 (sg 45)) 45 (laR m (sg 45))) 47 (pastP (sg 47) (sg 45) st)) 44 (upd (sg 44) 3 (nI (stP st))))) (L' := [(0, .ref (ad w 44)), (1, .long (lN m))]) (S' := [.int (czX (sg 45) (fun k => nI (m / 10 ^ k % 10)) 12 12)]) rfl rfl rfl rfl ?_
  exact g_iret C E dX5_lays_13 rfl Sq.rf rfl
set_option maxRecDepth 100000 in
set_option maxHeartbeats 400000 in
theorem c_X5_lays_bad (w : GW) (tu : Int64) (sg : Sg) (v : Int64) (h : ¬ (0 ≤ v ∧ v ≤ 999999999999)) : Kt w yX5_lays cX5_lays 3 (some .int) 2 [.ref (ad w 44), .long v] sg tu (some (.int (-2))) (us (us sg 46 (sg 45)) 48 (upd (sg 48) 0 ((sg 48 0) + nI 1))) tu := by
  refine Kt.of2 RX5 rfl [(0, .ref (ad w 44)), (1, .long v)] (by decide) rfl (Nat.le_of_ble_eq_true rfl) (fun z C E => ?_)
  refine g_aload_n C 0 rfl rfl dX5_lays_0 ?_
  refine g_callV0 [] C (c_X5_laysAside w tu sg  ) mt_X5_laysAside e_44 rfl ml_X5_114 im_X5_laysAside se_X5_laysAside (by decide) rfl (Nat.le_of_ble_eq_true rfl) dX5_lays_1 ?_
  refine g_eq (sg' := (us sg 46 (sg 45))) (L' := [(0, .ref (ad w 44)), (1, .long v)]) (S' := []) rfl rfl rfl rfl ?_
  refine g_aload_n C 0 rfl rfl dX5_lays_4 ?_
  refine g_aload_n C 0 rfl rfl dX5_lays_5 ?_
  refine g_lload_n C 1 rfl rfl dX5_lays_6 ?_
  refine g_callV1 [.ref (ad w 44)] C (c_X5_putWheels_bad w tu (us sg 46 (sg 45)) v h) mt_X5_putWheels e_44 rfl ml_X5_135 im_X5_putWheels se_X5_putWheels (by decide) rfl (Nat.le_of_ble_eq_true rfl) dX5_lays_7 ?_
  refine g_eq (L' := [(0, .ref (ad w 44)), (1, .long v)]) (S' := [.int (-2), .ref (ad w 44)]) rfl rfl rfl rfl ?_
  refine g_callV1 [] C (c_X5_finished_bad w tu (us sg 46 (sg 45))  ) mt_X5_finished e_44 rfl ml_X5_120 im_X5_finished se_X5_finished (by decide) rfl (Nat.le_of_ble_eq_true rfl) dX5_lays_10 ?_
  refine g_eq (sg' := (us (us sg 46 (sg 45)) 48 (upd (sg 48) 0 ((sg 48 0) + nI 1)))) (L' := [(0, .ref (ad w 44)), (1, .long v)]) (S' := [.int (-2)]) rfl rfl rfl rfl ?_
  exact g_iret C E dX5_lays_13 rfl Sq.rf rfl
set_option maxRecDepth 100000 in
set_option maxHeartbeats 400000 in
theorem c_X5_ups_ok (w : GW) (tu : Int64) (sg : Sg) (n : Nat) (st : Nat) (hn1 : 1 ≤ n) (hn : n ≤ 99) (hok : ROk (sg 45)) (hst : sg 44 3 = nI st) (hs5 : st ≤ 5) : Kt w yX5_ups cX5_ups 2 (some .int) 3 [.ref (ad w 44), .int (nI n)] sg tu (some (.int (rgs true (nI 1) (gN (sg 45)) (sg 45) n))) (us (us (us (us (us sg 46 (sg 45)) 50 (fun d => whX ((sg 45) (6 + d)) (dN (sg 45) d + 1))) 45 (itR true (nI 1) (gN (sg 45)) n (sg 45))) 47 (pastP (sg 47) (sg 45) st)) 44 (upd (sg 44) 3 (nI (stP st)))) tu := by
  refine Kt.of2 RX5 rfl [(0, .ref (ad w 44)), (1, .int (nI n))] (by decide) rfl (Nat.le_of_ble_eq_true rfl) (fun z C E => ?_)
  refine g_aload_n C 0 rfl rfl dX5_ups_0 ?_
  refine g_callV0 [] C (c_X5_laysAside w tu sg  ) mt_X5_laysAside e_44 rfl ml_X5_114 im_X5_laysAside se_X5_laysAside (by decide) rfl (Nat.le_of_ble_eq_true rfl) dX5_ups_1 ?_
  refine g_eq (sg' := (us sg 46 (sg 45))) (L' := [(0, .ref (ad w 44)), (1, .int (nI n))]) (S' := []) rfl rfl rfl rfl ?_
  refine g_aload_n C 0 rfl rfl dX5_ups_4 ?_
  refine g_aload_n C 0 rfl rfl dX5_ups_5 ?_
  refine g_iload_n C 1 rfl rfl dX5_ups_6 ?_
  refine g_iconst C (v := (nI 1)) (by decide) dX5_ups_7 ?_
  refine g_callV1 [.ref (ad w 44)] C (c_X5_doesTurns_up w tu (us sg 46 (sg 45)) n hn1 hn hok) mt_X5_doesTurns e_44 rfl ml_X5_139 im_X5_doesTurns se_X5_doesTurns (by decide) rfl (Nat.le_of_ble_eq_true rfl) dX5_ups_8 ?_
  refine g_eq (sg' := (us (us (us sg 46 (sg 45)) 50 (fun d => whX ((sg 45) (6 + d)) (dN (sg 45) d + 1))) 45 (itR true (nI 1) (gN (sg 45)) n (sg 45)))) (L' := [(0, .ref (ad w 44)), (1, .int (nI n))]) (S' := [.int (rgs true (nI 1) (gN (sg 45)) (sg 45) n), .ref (ad w 44)]) rfl rfl rfl rfl ?_
  refine g_callV1 [] C (c_X5_finished_ok w tu (us (us (us sg 46 (sg 45)) 50 (fun d => whX ((sg 45) (6 + d)) (dN (sg 45) d + 1))) 45 (itR true (nI 1) (gN (sg 45)) n (sg 45))) (rgs true (nI 1) (gN (sg 45)) (sg 45) n) st (rgs_gt hn) hst hs5) mt_X5_finished e_44 rfl ml_X5_120 im_X5_finished se_X5_finished (by decide) rfl (Nat.le_of_ble_eq_true rfl) dX5_ups_11 ?_
  refine g_eq (sg' := (us (us (us (us (us sg 46 (sg 45)) 50 (fun d => whX ((sg 45) (6 + d)) (dN (sg 45) d + 1))) 45 (itR true (nI 1) (gN (sg 45)) n (sg 45))) 47 (pastP (sg 47) (sg 45) st)) 44 (upd (sg 44) 3 (nI (stP st))))) (L' := [(0, .ref (ad w 44)), (1, .int (nI n))]) (S' := [.int (rgs true (nI 1) (gN (sg 45)) (sg 45) n)]) rfl rfl rfl rfl ?_
  exact g_iret C E dX5_ups_14 rfl Sq.rf rfl
set_option maxRecDepth 100000 in
set_option maxHeartbeats 400000 in
theorem c_X5_ups_bad (w : GW) (tu : Int64) (sg : Sg) (v : Int32) (h : ¬ (1 ≤ Int32.toInt64 v ∧ Int32.toInt64 v ≤ 99)) : Kt w yX5_ups cX5_ups 2 (some .int) 2 [.ref (ad w 44), .int v] sg tu (some (.int (-2))) (us (us sg 46 (sg 45)) 48 (upd (sg 48) 0 ((sg 48 0) + nI 1))) tu := by
  refine Kt.of2 RX5 rfl [(0, .ref (ad w 44)), (1, .int v)] (by decide) rfl (Nat.le_of_ble_eq_true rfl) (fun z C E => ?_)
  refine g_aload_n C 0 rfl rfl dX5_ups_0 ?_
  refine g_callV0 [] C (c_X5_laysAside w tu sg  ) mt_X5_laysAside e_44 rfl ml_X5_114 im_X5_laysAside se_X5_laysAside (by decide) rfl (Nat.le_of_ble_eq_true rfl) dX5_ups_1 ?_
  refine g_eq (sg' := (us sg 46 (sg 45))) (L' := [(0, .ref (ad w 44)), (1, .int v)]) (S' := []) rfl rfl rfl rfl ?_
  refine g_aload_n C 0 rfl rfl dX5_ups_4 ?_
  refine g_aload_n C 0 rfl rfl dX5_ups_5 ?_
  refine g_iload_n C 1 rfl rfl dX5_ups_6 ?_
  refine g_iconst C (v := (nI 1)) (by decide) dX5_ups_7 ?_
  refine g_callV1 [.ref (ad w 44)] C (c_X5_doesTurns_up_bad w tu (us sg 46 (sg 45)) v h) mt_X5_doesTurns e_44 rfl ml_X5_139 im_X5_doesTurns se_X5_doesTurns (by decide) rfl (Nat.le_of_ble_eq_true rfl) dX5_ups_8 ?_
  refine g_eq (L' := [(0, .ref (ad w 44)), (1, .int v)]) (S' := [.int (-2), .ref (ad w 44)]) rfl rfl rfl rfl ?_
  refine g_callV1 [] C (c_X5_finished_bad w tu (us sg 46 (sg 45))  ) mt_X5_finished e_44 rfl ml_X5_120 im_X5_finished se_X5_finished (by decide) rfl (Nat.le_of_ble_eq_true rfl) dX5_ups_11 ?_
  refine g_eq (sg' := (us (us sg 46 (sg 45)) 48 (upd (sg 48) 0 ((sg 48 0) + nI 1)))) (L' := [(0, .ref (ad w 44)), (1, .int v)]) (S' := [.int (-2)]) rfl rfl rfl rfl ?_
  exact g_iret C E dX5_ups_14 rfl Sq.rf rfl
set_option maxRecDepth 100000 in
set_option maxHeartbeats 400000 in
theorem c_X5_downs_ok (w : GW) (tu : Int64) (sg : Sg) (n : Nat) (st : Nat) (hn1 : 1 ≤ n) (hn : n ≤ 99) (hok : ROk (sg 45)) (hst : sg 44 3 = nI st) (hs5 : st ≤ 5) : Kt w yX5_downs cX5_downs 2 (some .int) 3 [.ref (ad w 44), .int (nI n)] sg tu (some (.int (rgs false (-1) (gN (sg 45)) (sg 45) n))) (us (us (us (us (us sg 46 (sg 45)) 50 (fun d => whX ((sg 45) (6 + d)) (dN (sg 45) d + 1))) 45 (itR false (-1) (gN (sg 45)) n (sg 45))) 47 (pastP (sg 47) (sg 45) st)) 44 (upd (sg 44) 3 (nI (stP st)))) tu := by
  refine Kt.of2 RX5 rfl [(0, .ref (ad w 44)), (1, .int (nI n))] (by decide) rfl (Nat.le_of_ble_eq_true rfl) (fun z C E => ?_)
  refine g_aload_n C 0 rfl rfl dX5_downs_0 ?_
  refine g_callV0 [] C (c_X5_laysAside w tu sg  ) mt_X5_laysAside e_44 rfl ml_X5_114 im_X5_laysAside se_X5_laysAside (by decide) rfl (Nat.le_of_ble_eq_true rfl) dX5_downs_1 ?_
  refine g_eq (sg' := (us sg 46 (sg 45))) (L' := [(0, .ref (ad w 44)), (1, .int (nI n))]) (S' := []) rfl rfl rfl rfl ?_
  refine g_aload_n C 0 rfl rfl dX5_downs_4 ?_
  refine g_aload_n C 0 rfl rfl dX5_downs_5 ?_
  refine g_iload_n C 1 rfl rfl dX5_downs_6 ?_
  refine g_iconst C (v := (-1)) (by decide) dX5_downs_7 ?_
  refine g_callV1 [.ref (ad w 44)] C (c_X5_doesTurns_dn w tu (us sg 46 (sg 45)) n hn1 hn hok) mt_X5_doesTurns e_44 rfl ml_X5_139 im_X5_doesTurns se_X5_doesTurns (by decide) rfl (Nat.le_of_ble_eq_true rfl) dX5_downs_8 ?_
  refine g_eq (sg' := (us (us (us sg 46 (sg 45)) 50 (fun d => whX ((sg 45) (6 + d)) (dN (sg 45) d + 1))) 45 (itR false (-1) (gN (sg 45)) n (sg 45)))) (L' := [(0, .ref (ad w 44)), (1, .int (nI n))]) (S' := [.int (rgs false (-1) (gN (sg 45)) (sg 45) n), .ref (ad w 44)]) rfl rfl rfl rfl ?_
  refine g_callV1 [] C (c_X5_finished_ok w tu (us (us (us sg 46 (sg 45)) 50 (fun d => whX ((sg 45) (6 + d)) (dN (sg 45) d + 1))) 45 (itR false (-1) (gN (sg 45)) n (sg 45))) (rgs false (-1) (gN (sg 45)) (sg 45) n) st (rgs_gt hn) hst hs5) mt_X5_finished e_44 rfl ml_X5_120 im_X5_finished se_X5_finished (by decide) rfl (Nat.le_of_ble_eq_true rfl) dX5_downs_11 ?_
  refine g_eq (sg' := (us (us (us (us (us sg 46 (sg 45)) 50 (fun d => whX ((sg 45) (6 + d)) (dN (sg 45) d + 1))) 45 (itR false (-1) (gN (sg 45)) n (sg 45))) 47 (pastP (sg 47) (sg 45) st)) 44 (upd (sg 44) 3 (nI (stP st))))) (L' := [(0, .ref (ad w 44)), (1, .int (nI n))]) (S' := [.int (rgs false (-1) (gN (sg 45)) (sg 45) n)]) rfl rfl rfl rfl ?_
  exact g_iret C E dX5_downs_14 rfl Sq.rf rfl
set_option maxRecDepth 100000 in
set_option maxHeartbeats 400000 in
theorem c_X5_downs_bad (w : GW) (tu : Int64) (sg : Sg) (v : Int32) (h : ¬ (1 ≤ Int32.toInt64 v ∧ Int32.toInt64 v ≤ 99)) : Kt w yX5_downs cX5_downs 2 (some .int) 2 [.ref (ad w 44), .int v] sg tu (some (.int (-2))) (us (us sg 46 (sg 45)) 48 (upd (sg 48) 0 ((sg 48 0) + nI 1))) tu := by
  refine Kt.of2 RX5 rfl [(0, .ref (ad w 44)), (1, .int v)] (by decide) rfl (Nat.le_of_ble_eq_true rfl) (fun z C E => ?_)
  refine g_aload_n C 0 rfl rfl dX5_downs_0 ?_
  refine g_callV0 [] C (c_X5_laysAside w tu sg  ) mt_X5_laysAside e_44 rfl ml_X5_114 im_X5_laysAside se_X5_laysAside (by decide) rfl (Nat.le_of_ble_eq_true rfl) dX5_downs_1 ?_
  refine g_eq (sg' := (us sg 46 (sg 45))) (L' := [(0, .ref (ad w 44)), (1, .int v)]) (S' := []) rfl rfl rfl rfl ?_
  refine g_aload_n C 0 rfl rfl dX5_downs_4 ?_
  refine g_aload_n C 0 rfl rfl dX5_downs_5 ?_
  refine g_iload_n C 1 rfl rfl dX5_downs_6 ?_
  refine g_iconst C (v := (-1)) (by decide) dX5_downs_7 ?_
  refine g_callV1 [.ref (ad w 44)] C (c_X5_doesTurns_dn_bad w tu (us sg 46 (sg 45)) v h) mt_X5_doesTurns e_44 rfl ml_X5_139 im_X5_doesTurns se_X5_doesTurns (by decide) rfl (Nat.le_of_ble_eq_true rfl) dX5_downs_8 ?_
  refine g_eq (L' := [(0, .ref (ad w 44)), (1, .int v)]) (S' := [.int (-2), .ref (ad w 44)]) rfl rfl rfl rfl ?_
  refine g_callV1 [] C (c_X5_finished_bad w tu (us sg 46 (sg 45))  ) mt_X5_finished e_44 rfl ml_X5_120 im_X5_finished se_X5_finished (by decide) rfl (Nat.le_of_ble_eq_true rfl) dX5_downs_11 ?_
  refine g_eq (sg' := (us (us sg 46 (sg 45)) 48 (upd (sg 48) 0 ((sg 48 0) + nI 1)))) (L' := [(0, .ref (ad w 44)), (1, .int v)]) (S' := [.int (-2)]) rfl rfl rfl rfl ?_
  exact g_iret C E dX5_downs_14 rfl Sq.rf rfl
set_option maxRecDepth 100000 in
set_option maxHeartbeats 400000 in
theorem c_X5_times_0 (w : GW) (tu : Int64) (sg : Sg) (n : Nat) (st : Nat) (hn : n ≤ 999999) (hok : ROk (sg 45)) (hst : sg 44 3 = nI st) (hs5 : st ≤ 5) : Kt w yX5_times cX5_times 3 (some .int) 3 [.ref (ad w 44), .int (nI n), .int (nI 0)] sg tu (some (.int (nI (smP 0 n 7)))) (us (us (us (us (us (us sg 46 (sg 45)) 52 (fun k => pI 0 (mkP 0 n k))) 50 (fun d => whX (clR (sg 45) (6 + d)) (dN (clR (sg 45)) d + 1))) 45 (muR 0 n (gN (sg 45)) 6 (clR (sg 45)))) 47 (pastP (sg 47) (sg 45) st)) 44 (upd (sg 44) 3 (nI (stP st)))) tu := by
  refine Kt.of2 RX5 rfl [(0, .ref (ad w 44)), (1, .int (nI n)), (2, .int (nI 0))] (by decide) rfl (Nat.le_of_ble_eq_true rfl) (fun z C E => ?_)
  refine g_aload_n C 0 rfl rfl dX5_times_0 ?_
  refine g_callV0 [] C (c_X5_laysAside w tu sg  ) mt_X5_laysAside e_44 rfl ml_X5_114 im_X5_laysAside se_X5_laysAside (by decide) rfl (Nat.le_of_ble_eq_true rfl) dX5_times_1 ?_
  refine g_eq (sg' := (us sg 46 (sg 45))) (L' := [(0, .ref (ad w 44)), (1, .int (nI n)), (2, .int (nI 0))]) (S' := []) rfl rfl rfl rfl ?_
  refine g_aload_n C 0 rfl rfl dX5_times_4 ?_
  refine g_aload_n C 0 rfl rfl dX5_times_5 ?_
  refine g_iload_n C 1 rfl rfl dX5_times_6 ?_
  refine g_iload_n C 2 rfl rfl dX5_times_7 ?_
  refine g_callV1 [.ref (ad w 44)] C (c_X5_doesTimes_0 w tu (us sg 46 (sg 45)) n hn hok) mt_X5_doesTimes e_44 rfl ml_X5_142 im_X5_doesTimes se_X5_doesTimes (by decide) rfl (Nat.le_of_ble_eq_true rfl) dX5_times_8 ?_
  refine g_eq (sg' := (us (us (us (us sg 46 (sg 45)) 52 (fun k => pI 0 (mkP 0 n k))) 50 (fun d => whX (clR (sg 45) (6 + d)) (dN (clR (sg 45)) d + 1))) 45 (muR 0 n (gN (sg 45)) 6 (clR (sg 45))))) (L' := [(0, .ref (ad w 44)), (1, .int (nI n)), (2, .int (nI 0))]) (S' := [.int (nI (smP 0 n 7)), .ref (ad w 44)]) rfl rfl rfl rfl ?_
  refine g_callV1 [] C (c_X5_finished_ok w tu (us (us (us (us sg 46 (sg 45)) 52 (fun k => pI 0 (mkP 0 n k))) 50 (fun d => whX (clR (sg 45) (6 + d)) (dN (clR (sg 45)) d + 1))) 45 (muR 0 n (gN (sg 45)) 6 (clR (sg 45)))) (nI (smP 0 n 7)) st (m2_lt (by have := smP_le (how := 0) (n := n) 7; omega)) hst hs5) mt_X5_finished e_44 rfl ml_X5_120 im_X5_finished se_X5_finished (by decide) rfl (Nat.le_of_ble_eq_true rfl) dX5_times_11 ?_
  refine g_eq (sg' := (us (us (us (us (us (us sg 46 (sg 45)) 52 (fun k => pI 0 (mkP 0 n k))) 50 (fun d => whX (clR (sg 45) (6 + d)) (dN (clR (sg 45)) d + 1))) 45 (muR 0 n (gN (sg 45)) 6 (clR (sg 45)))) 47 (pastP (sg 47) (sg 45) st)) 44 (upd (sg 44) 3 (nI (stP st))))) (L' := [(0, .ref (ad w 44)), (1, .int (nI n)), (2, .int (nI 0))]) (S' := [.int (nI (smP 0 n 7))]) rfl rfl rfl rfl ?_
  exact g_iret C E dX5_times_14 rfl Sq.rf rfl
set_option maxRecDepth 100000 in
set_option maxHeartbeats 400000 in
theorem c_X5_times_1 (w : GW) (tu : Int64) (sg : Sg) (n : Nat) (st : Nat) (hn : n ≤ 999999) (hok : ROk (sg 45)) (hst : sg 44 3 = nI st) (hs5 : st ≤ 5) : Kt w yX5_times cX5_times 3 (some .int) 3 [.ref (ad w 44), .int (nI n), .int (nI 1)] sg tu (some (.int (nI (smP 1 n 7)))) (us (us (us (us (us (us sg 46 (sg 45)) 52 (fun k => pI 1 (mkP 1 n k))) 50 (fun d => whX (clR (sg 45) (6 + d)) (dN (clR (sg 45)) d + 1))) 45 (muR 1 n (gN (sg 45)) 7 (clR (sg 45)))) 47 (pastP (sg 47) (sg 45) st)) 44 (upd (sg 44) 3 (nI (stP st)))) tu := by
  refine Kt.of2 RX5 rfl [(0, .ref (ad w 44)), (1, .int (nI n)), (2, .int (nI 1))] (by decide) rfl (Nat.le_of_ble_eq_true rfl) (fun z C E => ?_)
  refine g_aload_n C 0 rfl rfl dX5_times_0 ?_
  refine g_callV0 [] C (c_X5_laysAside w tu sg  ) mt_X5_laysAside e_44 rfl ml_X5_114 im_X5_laysAside se_X5_laysAside (by decide) rfl (Nat.le_of_ble_eq_true rfl) dX5_times_1 ?_
  refine g_eq (sg' := (us sg 46 (sg 45))) (L' := [(0, .ref (ad w 44)), (1, .int (nI n)), (2, .int (nI 1))]) (S' := []) rfl rfl rfl rfl ?_
  refine g_aload_n C 0 rfl rfl dX5_times_4 ?_
  refine g_aload_n C 0 rfl rfl dX5_times_5 ?_
  refine g_iload_n C 1 rfl rfl dX5_times_6 ?_
  refine g_iload_n C 2 rfl rfl dX5_times_7 ?_
  refine g_callV1 [.ref (ad w 44)] C (c_X5_doesTimes_1 w tu (us sg 46 (sg 45)) n hn hok) mt_X5_doesTimes e_44 rfl ml_X5_142 im_X5_doesTimes se_X5_doesTimes (by decide) rfl (Nat.le_of_ble_eq_true rfl) dX5_times_8 ?_
  refine g_eq (sg' := (us (us (us (us sg 46 (sg 45)) 52 (fun k => pI 1 (mkP 1 n k))) 50 (fun d => whX (clR (sg 45) (6 + d)) (dN (clR (sg 45)) d + 1))) 45 (muR 1 n (gN (sg 45)) 7 (clR (sg 45))))) (L' := [(0, .ref (ad w 44)), (1, .int (nI n)), (2, .int (nI 1))]) (S' := [.int (nI (smP 1 n 7)), .ref (ad w 44)]) rfl rfl rfl rfl ?_
  refine g_callV1 [] C (c_X5_finished_ok w tu (us (us (us (us sg 46 (sg 45)) 52 (fun k => pI 1 (mkP 1 n k))) 50 (fun d => whX (clR (sg 45) (6 + d)) (dN (clR (sg 45)) d + 1))) 45 (muR 1 n (gN (sg 45)) 7 (clR (sg 45)))) (nI (smP 1 n 7)) st (m2_lt (by have := smP_le (how := 1) (n := n) 7; omega)) hst hs5) mt_X5_finished e_44 rfl ml_X5_120 im_X5_finished se_X5_finished (by decide) rfl (Nat.le_of_ble_eq_true rfl) dX5_times_11 ?_
  refine g_eq (sg' := (us (us (us (us (us (us sg 46 (sg 45)) 52 (fun k => pI 1 (mkP 1 n k))) 50 (fun d => whX (clR (sg 45) (6 + d)) (dN (clR (sg 45)) d + 1))) 45 (muR 1 n (gN (sg 45)) 7 (clR (sg 45)))) 47 (pastP (sg 47) (sg 45) st)) 44 (upd (sg 44) 3 (nI (stP st))))) (L' := [(0, .ref (ad w 44)), (1, .int (nI n)), (2, .int (nI 1))]) (S' := [.int (nI (smP 1 n 7))]) rfl rfl rfl rfl ?_
  exact g_iret C E dX5_times_14 rfl Sq.rf rfl
set_option maxRecDepth 100000 in
set_option maxHeartbeats 400000 in
theorem c_X5_times_bad (w : GW) (tu : Int64) (sg : Sg) (x : Int32) (v : Int32) (h : ¬ ((0 ≤ Int32.toInt64 x ∧ Int32.toInt64 x ≤ 999999) ∧ (0 ≤ Int32.toInt64 v ∧ Int32.toInt64 v ≤ 1))) : Kt w yX5_times cX5_times 3 (some .int) 2 [.ref (ad w 44), .int x, .int v] sg tu (some (.int (-2))) (us (us sg 46 (sg 45)) 48 (upd (sg 48) 0 ((sg 48 0) + nI 1))) tu := by
  refine Kt.of2 RX5 rfl [(0, .ref (ad w 44)), (1, .int x), (2, .int v)] (by decide) rfl (Nat.le_of_ble_eq_true rfl) (fun z C E => ?_)
  refine g_aload_n C 0 rfl rfl dX5_times_0 ?_
  refine g_callV0 [] C (c_X5_laysAside w tu sg  ) mt_X5_laysAside e_44 rfl ml_X5_114 im_X5_laysAside se_X5_laysAside (by decide) rfl (Nat.le_of_ble_eq_true rfl) dX5_times_1 ?_
  refine g_eq (sg' := (us sg 46 (sg 45))) (L' := [(0, .ref (ad w 44)), (1, .int x), (2, .int v)]) (S' := []) rfl rfl rfl rfl ?_
  refine g_aload_n C 0 rfl rfl dX5_times_4 ?_
  refine g_aload_n C 0 rfl rfl dX5_times_5 ?_
  refine g_iload_n C 1 rfl rfl dX5_times_6 ?_
  refine g_iload_n C 2 rfl rfl dX5_times_7 ?_
  refine g_callV1 [.ref (ad w 44)] C (c_X5_doesTimes_bad w tu (us sg 46 (sg 45)) x v h) mt_X5_doesTimes e_44 rfl ml_X5_142 im_X5_doesTimes se_X5_doesTimes (by decide) rfl (Nat.le_of_ble_eq_true rfl) dX5_times_8 ?_
  refine g_eq (L' := [(0, .ref (ad w 44)), (1, .int x), (2, .int v)]) (S' := [.int (-2), .ref (ad w 44)]) rfl rfl rfl rfl ?_
  refine g_callV1 [] C (c_X5_finished_bad w tu (us sg 46 (sg 45))  ) mt_X5_finished e_44 rfl ml_X5_120 im_X5_finished se_X5_finished (by decide) rfl (Nat.le_of_ble_eq_true rfl) dX5_times_11 ?_
  refine g_eq (sg' := (us (us sg 46 (sg 45)) 48 (upd (sg 48) 0 ((sg 48 0) + nI 1)))) (L' := [(0, .ref (ad w 44)), (1, .int x), (2, .int v)]) (S' := [.int (-2)]) rfl rfl rfl rfl ?_
  exact g_iret C E dX5_times_14 rfl Sq.rf rfl
set_option maxRecDepth 100000 in
set_option maxHeartbeats 400000 in
theorem c_X5_divides_ok (w : GW) (tu : Int64) (sg : Sg) (st : Nat) (hok : ROk (sg 45)) (hz : ¬ gsm (gN (sg 45)) 6 = 0) (hb : dvB (gN (sg 45)) 7 (ccR (sg 45)) = true) (hst : sg 44 3 = nI st) (hs5 : st ≤ 5) : Kt w yX5_divides cX5_divides 2 (some .int) 4 [.ref (ad w 44)] sg tu (some (.int (nI (dvC (gN (sg 45)) 7 (ccR (sg 45)))))) (us (us (us (us (us sg 46 (sg 45)) 50 (fun d => whX ((sg 45) (6 + d)) (dN (sg 45) d + 1))) 45 (dvF (gN (sg 45)) 7 (ccR (sg 45)))) 47 (pastP (sg 47) (sg 45) st)) 44 (upd (sg 44) 3 (nI (stP st)))) tu := by
  refine Kt.of2 RX5 rfl [(0, .ref (ad w 44))] (by decide) rfl (Nat.le_of_ble_eq_true rfl) (fun z C E => ?_)
  refine g_aload_n C 0 rfl rfl dX5_divides_0 ?_
  refine g_callV0 [] C (c_X5_laysAside w tu sg  ) mt_X5_laysAside e_44 rfl ml_X5_114 im_X5_laysAside se_X5_laysAside (by decide) rfl (Nat.le_of_ble_eq_true rfl) dX5_divides_1 ?_
  refine g_eq (sg' := (us sg 46 (sg 45))) (L' := [(0, .ref (ad w 44))]) (S' := []) rfl rfl rfl rfl ?_
  refine g_aload_n C 0 rfl rfl dX5_divides_4 ?_
  refine g_callV1 [] C (c_X5_doesDivide_ok w tu (us sg 46 (sg 45))  hok hz hb) mt_X5_doesDivide e_44 rfl ml_X5_145 im_X5_doesDivide se_X5_doesDivide (by decide) rfl (Nat.le_of_ble_eq_true rfl) dX5_divides_5 ?_
  refine g_eq (sg' := (us (us (us sg 46 (sg 45)) 50 (fun d => whX ((sg 45) (6 + d)) (dN (sg 45) d + 1))) 45 (dvF (gN (sg 45)) 7 (ccR (sg 45))))) (L' := [(0, .ref (ad w 44))]) (S' := [.int (nI (dvC (gN (sg 45)) 7 (ccR (sg 45))))]) rfl rfl rfl rfl ?_
  refine g_istore_n C (L' := [(1, .int (nI (dvC (gN (sg 45)) 7 (ccR (sg 45))))), (0, .ref (ad w 44))]) rfl (by decide) rfl dX5_divides_8 ?_
  refine g_iload_n C 0 rfl rfl dX5_divides_9 ?_
  refine g_bipush C (v := (-3)) (by decide) dX5_divides_10 ?_
  refine g_icmp_ne C (tgt := 19) (by decide) dX5_divides_12 (fun h12 => ?_) (fun h12 => absurd h12 (fun q => absurd (show (-2 : Int32) < (-3) from q ▸ m2_lt (by have := dvC_le (g := gN (sg 45)) 7 (ccR (sg 45)); omega)) (by decide)))
  refine g_aload_n C 1 rfl rfl dX5_divides_19 ?_
  refine g_iload_n C 0 rfl rfl dX5_divides_20 ?_
  refine g_callV1 [] C (c_X5_finished_ok w tu (us (us (us sg 46 (sg 45)) 50 (fun d => whX ((sg 45) (6 + d)) (dN (sg 45) d + 1))) 45 (dvF (gN (sg 45)) 7 (ccR (sg 45)))) (nI (dvC (gN (sg 45)) 7 (ccR (sg 45)))) st (m2_lt (by have := dvC_le (g := gN (sg 45)) 7 (ccR (sg 45)); omega)) hst hs5) mt_X5_finished e_44 rfl ml_X5_120 im_X5_finished se_X5_finished (by decide) rfl (Nat.le_of_ble_eq_true rfl) dX5_divides_21 ?_
  refine g_eq (sg' := (us (us (us (us (us sg 46 (sg 45)) 50 (fun d => whX ((sg 45) (6 + d)) (dN (sg 45) d + 1))) 45 (dvF (gN (sg 45)) 7 (ccR (sg 45)))) 47 (pastP (sg 47) (sg 45) st)) 44 (upd (sg 44) 3 (nI (stP st))))) (L' := [(1, .int (nI (dvC (gN (sg 45)) 7 (ccR (sg 45))))), (0, .ref (ad w 44))]) (S' := [.int (nI (dvC (gN (sg 45)) 7 (ccR (sg 45))))]) rfl rfl rfl rfl ?_
  exact g_iret C E dX5_divides_24 rfl Sq.rf rfl
theorem us_back {sg : Sg} {g h : Nat → Int32} : us (us (us sg 46 (sg 45)) 50 g) 45 (sg 45) = us (us sg 46 (sg 45)) 50 g := us_id (sg := us (us sg 46 (sg 45)) 50 g) (k := 45)
theorem us_back2 {sg : Sg} {g h : Nat → Int32} : us (us (us (us sg 46 (sg 45)) 50 g) 45 h) 45 (sg 45) = us (us sg 46 (sg 45)) 50 g := by
  rw [us_us]
  exact us_back (h := h)
set_option maxRecDepth 100000 in
set_option maxHeartbeats 400000 in
theorem c_X5_divides_z (w : GW) (tu : Int64) (sg : Sg) (hok : ROk (sg 45)) (hz : gsm (gN (sg 45)) 6 = 0) : Kt w yX5_divides cX5_divides 2 (some .int) 3 [.ref (ad w 44)] sg tu (some (.int (-3))) (us (us (us sg 46 (sg 45)) 50 (fun d => whX ((sg 45) (6 + d)) (dN (sg 45) d + 1))) 48 (upd (sg 48) 1 ((sg 48 1) + nI 1))) tu := by
  refine Kt.of2 RX5 rfl [(0, .ref (ad w 44))] (by decide) rfl (Nat.le_of_ble_eq_true rfl) (fun z C E => ?_)
  refine g_aload_n C 0 rfl rfl dX5_divides_0 ?_
  refine g_callV0 [] C (c_X5_laysAside w tu sg  ) mt_X5_laysAside e_44 rfl ml_X5_114 im_X5_laysAside se_X5_laysAside (by decide) rfl (Nat.le_of_ble_eq_true rfl) dX5_divides_1 ?_
  refine g_eq (sg' := (us sg 46 (sg 45))) (L' := [(0, .ref (ad w 44))]) (S' := []) rfl rfl rfl rfl ?_
  refine g_aload_n C 0 rfl rfl dX5_divides_4 ?_
  refine g_callV1 [] C (c_X5_doesDivide_z w tu (us sg 46 (sg 45))  hok hz) mt_X5_doesDivide e_44 rfl ml_X5_145 im_X5_doesDivide se_X5_doesDivide (by decide) rfl (Nat.le_of_ble_eq_true rfl) dX5_divides_5 ?_
  refine g_eq (sg' := (us (us sg 46 (sg 45)) 50 (fun d => whX ((sg 45) (6 + d)) (dN (sg 45) d + 1)))) (L' := [(0, .ref (ad w 44))]) (S' := [.int (-3)]) rfl rfl rfl rfl ?_
  refine g_istore_n C (L' := [(1, .int (-3)), (0, .ref (ad w 44))]) rfl (by decide) rfl dX5_divides_8 ?_
  refine g_iload_n C 0 rfl rfl dX5_divides_9 ?_
  refine g_bipush C (v := (-3)) (by decide) dX5_divides_10 ?_
  refine g_icmp_ne C (tgt := 19) (by decide) dX5_divides_12 (fun h12 => absurd rfl h12) (fun h12 => ?_)
  refine g_aload_n C 1 rfl rfl dX5_divides_15 ?_
  refine g_callV0 [] C (c_X5_takesBack w tu (us (us sg 46 (sg 45)) 50 (fun d => whX ((sg 45) (6 + d)) (dN (sg 45) d + 1)))  ) mt_X5_takesBack e_44 rfl ml_X5_148 im_X5_takesBack se_X5_takesBack (by decide) rfl (Nat.le_of_ble_eq_true rfl) dX5_divides_16 ?_
  refine g_eq (sg' := (us (us (us sg 46 (sg 45)) 50 (fun d => whX ((sg 45) (6 + d)) (dN (sg 45) d + 1))) 45 (sg 45))) (L' := [(1, .int (-3)), (0, .ref (ad w 44))]) (S' := []) rfl rfl rfl rfl ?_
  refine g_sgE (sg' := (us (us sg 46 (sg 45)) 50 (fun d => whX ((sg 45) (6 + d)) (dN (sg 45) d + 1)))) (us_back (h := sg 45)) ?_
  refine g_aload_n C 1 rfl rfl dX5_divides_19 ?_
  refine g_iload_n C 0 rfl rfl dX5_divides_20 ?_
  refine g_callV1 [] C (c_X5_finished_no w tu (us (us sg 46 (sg 45)) 50 (fun d => whX ((sg 45) (6 + d)) (dN (sg 45) d + 1)))  ) mt_X5_finished e_44 rfl ml_X5_120 im_X5_finished se_X5_finished (by decide) rfl (Nat.le_of_ble_eq_true rfl) dX5_divides_21 ?_
  refine g_eq (sg' := (us (us (us sg 46 (sg 45)) 50 (fun d => whX ((sg 45) (6 + d)) (dN (sg 45) d + 1))) 48 (upd (sg 48) 1 ((sg 48 1) + nI 1)))) (L' := [(1, .int (-3)), (0, .ref (ad w 44))]) (S' := [.int (-3)]) rfl rfl rfl rfl ?_
  exact g_iret C E dX5_divides_24 rfl Sq.rf rfl
set_option maxRecDepth 100000 in
set_option maxHeartbeats 400000 in
theorem c_X5_divides_no (w : GW) (tu : Int64) (sg : Sg) (hok : ROk (sg 45)) (hz : ¬ gsm (gN (sg 45)) 6 = 0) (hb : dvB (gN (sg 45)) 7 (ccR (sg 45)) = false) : Kt w yX5_divides cX5_divides 2 (some .int) 4 [.ref (ad w 44)] sg tu (some (.int (-3))) (us (us (us sg 46 (sg 45)) 50 (fun d => whX ((sg 45) (6 + d)) (dN (sg 45) d + 1))) 48 (upd (sg 48) 1 ((sg 48 1) + nI 1))) tu := by
  refine Kt.of2 RX5 rfl [(0, .ref (ad w 44))] (by decide) rfl (Nat.le_of_ble_eq_true rfl) (fun z C E => ?_)
  refine g_aload_n C 0 rfl rfl dX5_divides_0 ?_
  refine g_callV0 [] C (c_X5_laysAside w tu sg  ) mt_X5_laysAside e_44 rfl ml_X5_114 im_X5_laysAside se_X5_laysAside (by decide) rfl (Nat.le_of_ble_eq_true rfl) dX5_divides_1 ?_
  refine g_eq (sg' := (us sg 46 (sg 45))) (L' := [(0, .ref (ad w 44))]) (S' := []) rfl rfl rfl rfl ?_
  refine g_aload_n C 0 rfl rfl dX5_divides_4 ?_
  refine g_callV1 [] C (c_X5_doesDivide_no w tu (us sg 46 (sg 45))  hok hz hb) mt_X5_doesDivide e_44 rfl ml_X5_145 im_X5_doesDivide se_X5_doesDivide (by decide) rfl (Nat.le_of_ble_eq_true rfl) dX5_divides_5 ?_
  refine g_eq (sg' := (us (us (us sg 46 (sg 45)) 50 (fun d => whX ((sg 45) (6 + d)) (dN (sg 45) d + 1))) 45 (dvF (gN (sg 45)) 7 (ccR (sg 45))))) (L' := [(0, .ref (ad w 44))]) (S' := [.int (-3)]) rfl rfl rfl rfl ?_
  refine g_istore_n C (L' := [(1, .int (-3)), (0, .ref (ad w 44))]) rfl (by decide) rfl dX5_divides_8 ?_
  refine g_iload_n C 0 rfl rfl dX5_divides_9 ?_
  refine g_bipush C (v := (-3)) (by decide) dX5_divides_10 ?_
  refine g_icmp_ne C (tgt := 19) (by decide) dX5_divides_12 (fun h12 => absurd rfl h12) (fun h12 => ?_)
  refine g_aload_n C 1 rfl rfl dX5_divides_15 ?_
  refine g_callV0 [] C (c_X5_takesBack w tu (us (us (us sg 46 (sg 45)) 50 (fun d => whX ((sg 45) (6 + d)) (dN (sg 45) d + 1))) 45 (dvF (gN (sg 45)) 7 (ccR (sg 45))))  ) mt_X5_takesBack e_44 rfl ml_X5_148 im_X5_takesBack se_X5_takesBack (by decide) rfl (Nat.le_of_ble_eq_true rfl) dX5_divides_16 ?_
  refine g_eq (sg' := (us (us (us (us sg 46 (sg 45)) 50 (fun d => whX ((sg 45) (6 + d)) (dN (sg 45) d + 1))) 45 (dvF (gN (sg 45)) 7 (ccR (sg 45)))) 45 (sg 45))) (L' := [(1, .int (-3)), (0, .ref (ad w 44))]) (S' := []) rfl rfl rfl rfl ?_
  refine g_sgE (sg' := (us (us sg 46 (sg 45)) 50 (fun d => whX ((sg 45) (6 + d)) (dN (sg 45) d + 1)))) us_back2 ?_
  refine g_aload_n C 1 rfl rfl dX5_divides_19 ?_
  refine g_iload_n C 0 rfl rfl dX5_divides_20 ?_
  refine g_callV1 [] C (c_X5_finished_no w tu (us (us sg 46 (sg 45)) 50 (fun d => whX ((sg 45) (6 + d)) (dN (sg 45) d + 1)))  ) mt_X5_finished e_44 rfl ml_X5_120 im_X5_finished se_X5_finished (by decide) rfl (Nat.le_of_ble_eq_true rfl) dX5_divides_21 ?_
  refine g_eq (sg' := (us (us (us sg 46 (sg 45)) 50 (fun d => whX ((sg 45) (6 + d)) (dN (sg 45) d + 1))) 48 (upd (sg 48) 1 ((sg 48 1) + nI 1)))) (L' := [(1, .int (-3)), (0, .ref (ad w 44))]) (S' := [.int (-3)]) rfl rfl rfl rfl ?_
  exact g_iret C E dX5_divides_24 rfl Sq.rf rfl
set_option maxRecDepth 100000 in
set_option maxHeartbeats 400000 in
theorem c_X5_tries (w : GW) (tu : Int64) (sg : Sg) (n : Nat) (g : Nat → Nat) (re : Nat) (hn : n ≤ 99) (hre : sg 45 32 = nI re) (hr12 : re ≤ 12) (hgi : ∀ i, i < 6 → sg 50 i = nI (g i)) (hg9 : ∀ i, i < 6 → g i ≤ 9) : Kt w yX5_tries cX5_tries 4 (some .long) 1 [.ref (ad w 44), .int (nI n)] sg tu (some (.long (trv g re n))) (us sg 51 (emb 0 (twI g re n) (sg 51))) tu := by
  refine Kt.of2 RX5 rfl [(0, .ref (ad w 44)), (1, .int (nI n))] (by decide) rfl (Nat.le_of_ble_eq_true rfl) (fun z C E => ?_)
  refine g_iconst C (v := (nI 0)) (by decide) dX5_tries_0 ?_
  refine g_istore_n C (L' := [(2, .int (nI 0)), (0, .ref (ad w 44)), (1, .int (nI n))]) rfl (by decide) rfl dX5_tries_1 ?_
  have lpz : ∀ (nf i : Nat), 12 < i + nf → i ≤ 12 → (True) → G z w 4 (us sg 51 (fw 0 (fun _ => nI 0) (sg 51) i)) tu 2 [(2, .int (nI i)), (0, .ref (ad w 44)), (1, .int (nI n))] [] := by
    intro nf
    induction nf with
    | zero => intro i  h1 h2 hI; exact absurd h1 (by omega)
    | succ nf ihlpz =>
      intro i  h1 h2 hI
      refine g_iload_n C 0 rfl rfl dX5_tries_2 ?_
      refine g_bipush C (v := (nI 12)) (by decide) dX5_tries_3 ?_
      refine g_icmpN_ge C i 12 (by omega) (by omega) (tgt := 21) (by decide) dX5_tries_5 (fun h5 => ?_) (fun h5 => ?_)
      ·
        have hiN : 12 = i := by omega
        subst hiN
        refine g_sq (sg' := (us sg 51 (emb 0 (twI g re 0) (sg 51)))) (Sq.us fun j hj => by rw [fw_in ⟨Nat.zero_le _, by rw [Nat.zero_add]; exact hj⟩]; unfold emb; rw [if_pos ⟨Nat.zero_le _, by rw [Nat.zero_add]; exact hj⟩]; rfl) ?_
        refine g_iconst C (v := (nI 0)) (by decide) dX5_tries_21 ?_
        refine g_istore_n C (L' := [(2, .int (nI 0)), (0, .ref (ad w 44)), (1, .int (nI n))]) rfl (by decide) rfl dX5_tries_22 ?_
        have lpt : ∀ (nf q : Nat), n < q + nf → q ≤ n → (True) → G z w 4 (us sg 51 (emb 0 (twI g re q) (sg 51))) tu 23 [(2, .int (nI q)), (0, .ref (ad w 44)), (1, .int (nI n))] [] := by
          intro nf
          induction nf with
          | zero => intro q  h1 h2 hI; exact absurd h1 (by omega)
          | succ nf ihlpt =>
            intro q  h1 h2 hI
            refine g_iload_n C 0 rfl rfl dX5_tries_23 ?_
            refine g_iload_n C 2 rfl rfl dX5_tries_24 ?_
            refine g_icmpN_ge C q n (by omega) (by omega) (tgt := 46) (by decide) dX5_tries_25 (fun h25 => ?_) (fun h25 => ?_)
            ·
              have hiN : n = q := by omega
              subst hiN
              refine g_aload_n C 1 rfl rfl dX5_tries_46 ?_
              refine g_getR C (j := 8) cls5 e_44 rfl (by decide) fl_X5_28 dX5_tries_47 ?_
              refine g_iconst C (v := (nI 0)) (by decide) dX5_tries_50 ?_
              refine g_callS1 [] C (c_X5_valueOf_tri w tu (us sg 51 (emb 0 (twI g re n) (sg 51)))  ) mt_X5_valueOf ml_X5_158 st_X5_valueOf (by decide) rfl (Nat.le_of_ble_eq_true rfl) dX5_tries_51 ?_
              refine g_eq (L' := [(2, .int (nI n)), (0, .ref (ad w 44)), (1, .int (nI n))]) (S' := [.long (vlX (emb 0 (twI g re n) (sg 51)) 0 12 0)]) rfl rfl rfl rfl ?_
              exact g_lret C E dX5_tries_54 trv_of Sq.rf rfl
            ·
              refine g_aload_n C 1 rfl rfl dX5_tries_28 ?_
              refine g_aload_n C 1 rfl rfl dX5_tries_29 ?_
              refine g_getR C (j := 8) cls5 e_44 rfl (by decide) fl_X5_28 dX5_tries_30 ?_
              refine g_iconst C (v := (nI 0)) (by decide) dX5_tries_33 ?_
              refine g_iconst C (v := (nI 0)) (by decide) dX5_tries_34 ?_
              refine g_iconst C (v := (nI 1)) (by decide) dX5_tries_35 ?_
              refine g_callV1 [] C (c_X5_turnsBy_tri_up w tu (us sg 51 (emb 0 (twI g re q) (sg 51)))  (twI g re q) g re hre hr12 (fun k hk => by show emb 0 (twI g re q) (sg 51) (0 + k) = _; exact emb_in hk) (twI_le hg9 q) hgi hg9) mt_X5_turnsBy e_44 rfl ml_X5_61 im_X5_turnsBy se_X5_turnsBy (by decide) rfl (Nat.le_of_ble_eq_true rfl) dX5_tries_36 ?_
              refine g_eq (sg' := (us (us sg 51 (emb 0 (twI g re q) (sg 51))) 51 (emb 0 (tw true (twI g re q) g 0 (5 + re)) (emb 0 (twI g re q) (sg 51))))) (L' := [(2, .int (nI q)), (0, .ref (ad w 44)), (1, .int (nI n))]) (S' := [.int (bI (blP true (twI g re q) g 0 (5 + re)))]) rfl rfl rfl rfl ?_
              refine g_istore_n C (L' := [(3, .int (bI (blP true (twI g re q) g 0 (5 + re)))), (2, .int (nI q)), (0, .ref (ad w 44)), (1, .int (nI n))]) rfl (by decide) rfl dX5_tries_39 ?_
              refine g_iinc C (n := 1) (v := (nI (q + 1))) (L' := [(2, .int (nI (q + 1))), (3, .int (bI (blP true (twI g re q) g 0 (5 + re)))), (0, .ref (ad w 44)), (1, .int (nI n))]) 1 rfl (nI_add q 1) (by decide) rfl dX5_tries_40 ?_
              refine g_goto C (tgt := 23) (by decide) dX5_tries_43 ?_
              refine g_sub (L' := [(2, .int (nI (q + 1))), (0, .ref (ad w 44)), (1, .int (nI n))]) [0, 2, 3] rfl ?_
              refine g_sgE (sg' := (us sg 51 (emb 0 (twI g re (q + 1)) (sg 51)))) (by rw [emb_emb, us_us]; rfl) ?_
              exact ihlpt (q + 1)  (by omega) (by omega) trivial
        refine g_sgE (sg' := (us sg 51 (emb 0 (twI g re 0) (sg 51)))) rfl ?_
        refine g_sub (L' := [(2, .int (nI 0)), (0, .ref (ad w 44)), (1, .int (nI n))]) [0, 1, 2] rfl ?_
        exact lpt (n + 1) 0  (by omega) (by omega) trivial
      ·
        refine g_aload_n C 1 rfl rfl dX5_tries_8 ?_
        refine g_getR C (j := 8) cls5 e_44 rfl (by decide) fl_X5_28 dX5_tries_9 ?_
        refine g_iload_n C 0 rfl rfl dX5_tries_12 ?_
        refine g_iconst C (v := (nI 0)) (by decide) dX5_tries_13 ?_
        refine g_iastN C i e_51 (by omega) (by decide) dX5_tries_14 ?_
        refine g_sgE (sg' := (us sg 51 (upd (fw 0 (fun _ => nI 0) (sg 51) i) i (nI 0)))) us_us ?_
        refine g_iinc C (n := 1) (v := (nI (i + 1))) (L' := [(2, .int (nI (i + 1))), (0, .ref (ad w 44)), (1, .int (nI n))]) 0 rfl (nI_add i 1) (by decide) rfl dX5_tries_15 ?_
        refine g_goto C (tgt := 2) (by decide) dX5_tries_18 ?_
        refine g_sub (L' := [(2, .int (nI (i + 1))), (0, .ref (ad w 44)), (1, .int (nI n))]) [0, 1, 2] rfl ?_
        refine g_sgE (sg' := (us sg 51 (fw 0 (fun _ => nI 0) (sg 51) (i + 1)))) (congrArg (us sg 51) (fw_s0 rfl)) ?_
        exact ihlpz (i + 1)  (by omega) (by omega) trivial
  refine g_sgE (sg' := (us sg 51 (fw 0 (fun _ => nI 0) (sg 51) 0))) (by rw [fw_0, us_id]) ?_
  exact lpz (12 + 1) 0  (by omega) (by omega) trivial
set_option maxRecDepth 100000 in
set_option maxHeartbeats 400000 in
theorem c_X5_trialOf (w : GW) (tu : Int64) (sg : Sg) (n : Nat) (hn : n ≤ 99) (hok : ROk (sg 45)) : Kt w yX5_trialOf cX5_trialOf 2 (some .long) 2 [.ref (ad w 44), .int (nI n)] sg tu (some (.long (trv (gN (sg 45)) (reN (sg 45)) n))) (us (us sg 50 (fun d => whX ((sg 45) (6 + d)) (dN (sg 45) d + 1))) 51 (emb 0 (twI (gN (sg 45)) (reN (sg 45)) n) (sg 51))) tu := by
  refine Kt.of2 RX5 rfl [(0, .ref (ad w 44)), (1, .int (nI n))] (by decide) rfl (Nat.le_of_ble_eq_true rfl) (fun z C E => ?_)
  refine g_aload_n C 0 rfl rfl dX5_trialOf_0 ?_
  refine g_callV0 [] C (c_X5_laysGives w tu sg  (dN (sg 45)) hok.1) mt_X5_laysGives e_44 rfl ml_X5_67 im_X5_laysGives se_X5_laysGives (by decide) rfl (Nat.le_of_ble_eq_true rfl) dX5_trialOf_1 ?_
  refine g_eq (sg' := (us sg 50 (fun d => whX ((sg 45) (6 + d)) ((dN (sg 45)) d + 1)))) (L' := [(0, .ref (ad w 44)), (1, .int (nI n))]) (S' := []) rfl rfl rfl rfl ?_
  refine g_aload_n C 0 rfl rfl dX5_trialOf_4 ?_
  refine g_iload_n C 1 rfl rfl dX5_trialOf_5 ?_
  refine g_callV1 [] C (c_X5_tries w tu (us sg 50 (fun d => whX ((sg 45) (6 + d)) ((dN (sg 45)) d + 1))) n (gN (sg 45)) (reN (sg 45)) hn hok.2.2.2.2.1 hok.2.2.2.2.2 (fun d h => (gN_ok hok h).1) (fun _ h => (gN_ok hok h).2)) mt_X5_tries e_44 rfl ml_X5_167 im_X5_tries se_X5_tries (by decide) rfl (Nat.le_of_ble_eq_true rfl) dX5_trialOf_6 ?_
  refine g_eq (sg' := (us (us sg 50 (fun d => whX ((sg 45) (6 + d)) ((dN (sg 45)) d + 1))) 51 (emb 0 (twI (gN (sg 45)) (reN (sg 45)) n) (sg 51)))) (L' := [(0, .ref (ad w 44)), (1, .int (nI n))]) (S' := [.long (trv (gN (sg 45)) (reN (sg 45)) n)]) rfl rfl rfl rfl ?_
  exact g_lret C E dX5_trialOf_9 rfl Sq.rf rfl
set_option maxRecDepth 100000 in
set_option maxHeartbeats 400000 in
theorem c_X5_trial_ok (w : GW) (tu : Int64) (sg : Sg) (n : Nat) (hn1 : 1 ≤ n) (hn : n ≤ 99) (hok : ROk (sg 45)) : Kt w yX5_trial cX5_trial 2 (some .long) 3 [.ref (ad w 44), .int (nI n)] sg tu (some (.long (trv (gN (sg 45)) (reN (sg 45)) n))) (us (us sg 50 (fun d => whX ((sg 45) (6 + d)) (dN (sg 45) d + 1))) 51 (emb 0 (twI (gN (sg 45)) (reN (sg 45)) n) (sg 51))) tu := by
  refine Kt.of2 RX5 rfl [(0, .ref (ad w 44)), (1, .int (nI n))] (by decide) rfl (Nat.le_of_ble_eq_true rfl) (fun z C E => ?_)
  refine g_iload_n C 1 rfl rfl dX5_trial_0 ?_
  refine g_i2l C dX5_trial_1 ?_
  refine g_lconst C (v := 1) (by decide) dX5_trial_2 ?_
  refine g_ldc2 C cn_X5_65 dX5_trial_3 ?_
  refine g_callS1 [] C (c_X5_in_t w tu sg (Int32.toInt64 (nI n)) 1 99 (in_ok1 (n := 99) (by omega) (by omega) (by decide))) mt_X5_in ml_X5_53 st_X5_in (by decide) rfl (Nat.le_of_ble_eq_true rfl) dX5_trial_6 ?_
  refine g_eq (L' := [(0, .ref (ad w 44)), (1, .int (nI n))]) (S' := [.int (nI 1)]) rfl rfl rfl rfl ?_
  refine g_if_eq C (tgt := 20) (by decide) dX5_trial_9 (fun h9 => absurd h9 (by decide)) (fun h9 => ?_)
  refine g_aload_n C 0 rfl rfl dX5_trial_12 ?_
  refine g_iload_n C 1 rfl rfl dX5_trial_13 ?_
  refine g_callV1 [] C (c_X5_trialOf w tu sg n hn hok) mt_X5_trialOf e_44 rfl ml_X5_171 im_X5_trialOf se_X5_trialOf (by decide) rfl (Nat.le_of_ble_eq_true rfl) dX5_trial_14 ?_
  refine g_eq (sg' := (us (us sg 50 (fun d => whX ((sg 45) (6 + d)) (dN (sg 45) d + 1))) 51 (emb 0 (twI (gN (sg 45)) (reN (sg 45)) n) (sg 51)))) (L' := [(0, .ref (ad w 44)), (1, .int (nI n))]) (S' := [.long (trv (gN (sg 45)) (reN (sg 45)) n)]) rfl rfl rfl rfl ?_
  refine g_goto C (tgt := 27) (by decide) dX5_trial_17 ?_
  exact g_lret C E dX5_trial_27 rfl Sq.rf rfl
set_option maxRecDepth 100000 in
set_option maxHeartbeats 400000 in
theorem c_X5_trial_bad (w : GW) (tu : Int64) (sg : Sg) (v : Int32) (h : ¬ (1 ≤ Int32.toInt64 v ∧ Int32.toInt64 v ≤ 99)) : Kt w yX5_trial cX5_trial 2 (some .long) 1 [.ref (ad w 44), .int v] sg tu (some (.long (Int32.toInt64 (-2)))) (us sg 48 (upd (sg 48) 0 ((sg 48 0) + nI 1))) tu := by
  refine Kt.of2 RX5 rfl [(0, .ref (ad w 44)), (1, .int v)] (by decide) rfl (Nat.le_of_ble_eq_true rfl) (fun z C E => ?_)
  refine g_iload_n C 1 rfl rfl dX5_trial_0 ?_
  refine g_i2l C dX5_trial_1 ?_
  refine g_lconst C (v := 1) (by decide) dX5_trial_2 ?_
  refine g_ldc2 C cn_X5_65 dX5_trial_3 ?_
  refine g_callS1 [] C (c_X5_in w tu sg (Int32.toInt64 v) 1 99 ) mt_X5_in ml_X5_53 st_X5_in (by decide) rfl (Nat.le_of_ble_eq_true rfl) dX5_trial_6 ?_
  refine g_eq (L' := [(0, .ref (ad w 44)), (1, .int v)]) (S' := [.int (bI (1 ≤ (Int32.toInt64 v) ∧ (Int32.toInt64 v) ≤ 99))]) rfl rfl rfl rfl ?_
  refine g_bif_eq C (tgt := 20) (by decide) dX5_trial_9 (fun h9 => ?_) (fun h9 => absurd h9 h)
  refine g_aload_n C 0 rfl rfl dX5_trial_20 ?_
  refine g_bipush C (v := (-2)) (by decide) dX5_trial_21 ?_
  refine g_callV1 [] C (c_X5_refuses_bad w tu sg  ) mt_X5_refuses e_44 rfl ml_X5_44 im_X5_refuses se_X5_refuses (by decide) rfl (Nat.le_of_ble_eq_true rfl) dX5_trial_23 ?_
  refine g_eq (sg' := (us sg 48 (upd (sg 48) 0 ((sg 48 0) + nI 1)))) (L' := [(0, .ref (ad w 44)), (1, .int v)]) (S' := [.int (-2)]) rfl rfl rfl rfl ?_
  refine g_i2l C dX5_trial_26 ?_
  exact g_lret C E dX5_trial_27 rfl Sq.rf rfl
