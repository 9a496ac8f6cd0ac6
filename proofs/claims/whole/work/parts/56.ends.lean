theorem tb_out {x : Int32} {n : Nat} (hn : n < 2 ^ 31) (h : ¬ ((0 : Int64) ≤ Int32.toInt64 x ∧ Int32.toInt64 x ≤ lN n)) : x.toInt < 0 ∨ (n : Int) < x.toInt := by
  rw [Int64.le_iff_toInt_le, Int64.le_iff_toInt_le, Int32.toInt_toInt64, pk_lT (by omega)] at h
  have h0 : (0 : Int64).toInt = 0 := by decide
  rw [h0] at h
  omega
theorem S1_r {sg : Sg} {F : Nat → Int32} : rowC (wrR sg 6 F) 1 = rowC sg 1 := rowC_n (by omega)
theorem S2_11 {sg : Sg} {A B : Nat → Int32} : wrR (wrR sg 6 A) 1 B 11 = sg 11 := by
  rw [wrR_n (by omega), wrR_n (by omega)]
set_option maxRecDepth 100000 in
set_option maxHeartbeats 400000 in
theorem c_X3_tellDrum_out (w : GW) (tu : Int64) (sg : Sg) (d : Nat) (v : Int32) (hd : d < 6) (h : ¬ (0 ≤ Int32.toInt64 v ∧ Int32.toInt64 v ≤ 2)) : Kt w yX3_tellDrum cX3_tellDrum 3 (some .int) 1 [.ref (ad w 1), .int (nI d), .int v] sg tu (some (.int (-2))) sg tu := by
  refine Kt.of2 RX3 rfl [(0, .ref (ad w 1)), (1, .int (nI d)), (2, .int v)] (by decide) rfl (Nat.le_of_ble_eq_true rfl) (fun z C E => ?_)
  refine g_iload_n C 1 rfl rfl dX3_tellDrum_0 ?_
  refine g_i2l C dX3_tellDrum_1 ?_
  refine g_lconst C (v := 0) (by decide) dX3_tellDrum_2 ?_
  refine g_ldc2 C cn_X3_43 dX3_tellDrum_3 ?_
  refine g_callN1 [] C (c_X4_within_t w tu sg (Int32.toInt64 (nI d)) 0 5 (in_ok (n := 5) (by omega) (by decide))) mt_X4_within nl_X3_45 st_X4_within (by decide) rfl (Nat.le_of_ble_eq_true rfl) dX3_tellDrum_6 ?_
  refine g_eq (L' := [(0, .ref (ad w 1)), (1, .int (nI d)), (2, .int v)]) (S' := [.int (nI 1)]) rfl rfl rfl rfl ?_
  refine g_if_ne C (tgt := 15) (by decide) dX3_tellDrum_9 (fun h9 => ?_) (fun h9 => absurd h9 (by decide))
  refine g_iload_n C 2 rfl rfl dX3_tellDrum_15 ?_
  refine g_tabOut C (tgt := 64) dX3_tellDrum_16 (tb_out (n := 2) (by decide) h) (by decide) ?_
  refine g_bipush C (v := (-2)) (by decide) dX3_tellDrum_64 ?_
  exact g_iret C E dX3_tellDrum_66 rfl Sq.rf rfl
set_option maxRecDepth 100000 in
set_option maxHeartbeats 400000 in
theorem c_X3_tellCount_out (w : GW) (tu : Int64) (sg : Sg) (v : Int32) (h : ¬ (0 ≤ Int32.toInt64 v ∧ Int32.toInt64 v ≤ 7)) : Kt w yX3_tellCount cX3_tellCount 2 (some .int) 0 [.ref (ad w 1), .int v] sg tu (some (.int (-2))) sg tu := by
  refine Kt.of2 RX3 rfl [(0, .ref (ad w 1)), (1, .int v)] (by decide) rfl (Nat.le_of_ble_eq_true rfl) (fun z C E => ?_)
  refine g_iload_n C 1 rfl rfl dX3_tellCount_0 ?_
  refine g_tabOut C (tgt := 96) dX3_tellCount_1 (tb_out (n := 7) (by decide) h) (by decide) ?_
  refine g_bipush C (v := (-2)) (by decide) dX3_tellCount_96 ?_
  exact g_iret C E dX3_tellCount_98 rfl Sq.rf rfl
set_option maxRecDepth 100000 in
set_option maxHeartbeats 400000 in
theorem c_X4_remember (w : GW) (tu : Int64) (sg : Sg) : Kt w yX4_remember cX4_remember 1 none 2 [.ref (ad w 0)] sg tu (none) (wrR sg 6 (rowC sg 1)) tu := by
  refine Kt.of2 RX4 rfl [(0, .ref (ad w 0))] (by decide) rfl (Nat.le_of_ble_eq_true rfl) (fun z C E => ?_)
  refine g_aload_n C 0 rfl rfl dX4_remember_0 ?_
  refine g_getR C (j := 1) cls4 e_0 rfl (by decide) fl_X4_16 dX4_remember_1 ?_
  refine g_aload_n C 0 rfl rfl dX4_remember_4 ?_
  refine g_getR C (j := 0) cls4 e_0 rfl (by decide) fl_X4_10 dX4_remember_5 ?_
  refine g_callV0 [] C (c_X3_copyFrom_6_1 w tu sg  ) mt_X3_copyFrom e_6 rfl ml_X4_155 im_X3_copyFrom se_X3_copyFrom (by decide) rfl (Nat.le_of_ble_eq_true rfl) dX4_remember_8 ?_
  refine g_eq (sg' := (wrR sg 6 (rowC sg 1))) (L' := [(0, .ref (ad w 0))]) (S' := []) rfl rfl rfl rfl ?_
  exact g_vret C E dX4_remember_11 Sq.rf rfl
set_option maxRecDepth 100000 in
set_option maxHeartbeats 400000 in
theorem c_X4_counted_bad (w : GW) (tu : Int64) (sg : Sg) : Kt w yX4_counted cX4_counted 2 (some .int) 0 [.ref (ad w 0), .int (-2)] sg tu (some (.int (-2))) (us sg 0 (upd (sg 0) 5 ((sg 0) 5 + nI 1))) tu := by
  refine Kt.of2 RX4 rfl [(0, .ref (ad w 0)), (1, .int (-2))] (by decide) rfl (Nat.le_of_ble_eq_true rfl) (fun z C E => ?_)
  refine g_iload_n C 1 rfl rfl dX4_counted_0 ?_
  refine g_bipush C (v := (-2)) (by decide) dX4_counted_1 ?_
  refine g_icmp_ne C (tgt := 19) (by decide) dX4_counted_3 (fun h3 => absurd rfl h3) (fun h3 => ?_)
  refine g_aload_n C 0 rfl rfl dX4_counted_6 ?_
  refine g_dup C rfl dX4_counted_7 ?_
  refine g_getI C (j := 5) cls4 e_0 rfl (by decide) fl_X4_166 dX4_counted_8 ?_
  refine g_iconst C (v := (nI 1)) (by decide) dX4_counted_11 ?_
  refine g_iadd C dX4_counted_12 ?_
  refine g_putI C (j := 5) cls4 e_0 rfl (by decide) rfl rfl fl_X4_166 dX4_counted_13 ?_
  refine g_sgE (sg' := (us sg 0 (upd (sg 0) 5 ((sg 0 5) + (nI 1))))) rfl ?_
  refine g_goto C (tgt := 54) (by decide) dX4_counted_16 ?_
  refine g_iload_n C 1 rfl rfl dX4_counted_54 ?_
  exact g_iret C E dX4_counted_55 rfl Sq.rf rfl
set_option maxRecDepth 100000 in
set_option maxHeartbeats 400000 in
theorem c_X4_counted_no (w : GW) (tu : Int64) (sg : Sg) : Kt w yX4_counted cX4_counted 2 (some .int) 0 [.ref (ad w 0), .int (-3)] sg tu (some (.int (-3))) (us sg 0 (upd (sg 0) 6 ((sg 0) 6 + nI 1))) tu := by
  refine Kt.of2 RX4 rfl [(0, .ref (ad w 0)), (1, .int (-3))] (by decide) rfl (Nat.le_of_ble_eq_true rfl) (fun z C E => ?_)
  refine g_iload_n C 1 rfl rfl dX4_counted_0 ?_
  refine g_bipush C (v := (-2)) (by decide) dX4_counted_1 ?_
  refine g_icmp_ne C (tgt := 19) (by decide) dX4_counted_3 (fun h3 => ?_) (fun h3 => absurd h3 (by decide))
  refine g_iload_n C 1 rfl rfl dX4_counted_19 ?_
  refine g_bipush C (v := (-3)) (by decide) dX4_counted_20 ?_
  refine g_icmp_ne C (tgt := 38) (by decide) dX4_counted_22 (fun h22 => absurd rfl h22) (fun h22 => ?_)
  refine g_aload_n C 0 rfl rfl dX4_counted_25 ?_
  refine g_dup C rfl dX4_counted_26 ?_
  refine g_getI C (j := 6) cls4 e_0 rfl (by decide) fl_X4_169 dX4_counted_27 ?_
  refine g_iconst C (v := (nI 1)) (by decide) dX4_counted_30 ?_
  refine g_iadd C dX4_counted_31 ?_
  refine g_putI C (j := 6) cls4 e_0 rfl (by decide) rfl rfl fl_X4_169 dX4_counted_32 ?_
  refine g_sgE (sg' := (us sg 0 (upd (sg 0) 6 ((sg 0 6) + (nI 1))))) rfl ?_
  refine g_goto C (tgt := 54) (by decide) dX4_counted_35 ?_
  refine g_iload_n C 1 rfl rfl dX4_counted_54 ?_
  exact g_iret C E dX4_counted_55 rfl Sq.rf rfl
set_option maxRecDepth 100000 in
set_option maxHeartbeats 400000 in
theorem c_X4_counted_full (w : GW) (tu : Int64) (sg : Sg) : Kt w yX4_counted cX4_counted 2 (some .int) 0 [.ref (ad w 0), .int (-4)] sg tu (some (.int (-4))) (us sg 0 (upd (sg 0) 7 ((sg 0) 7 + nI 1))) tu := by
  refine Kt.of2 RX4 rfl [(0, .ref (ad w 0)), (1, .int (-4))] (by decide) rfl (Nat.le_of_ble_eq_true rfl) (fun z C E => ?_)
  refine g_iload_n C 1 rfl rfl dX4_counted_0 ?_
  refine g_bipush C (v := (-2)) (by decide) dX4_counted_1 ?_
  refine g_icmp_ne C (tgt := 19) (by decide) dX4_counted_3 (fun h3 => ?_) (fun h3 => absurd h3 (by decide))
  refine g_iload_n C 1 rfl rfl dX4_counted_19 ?_
  refine g_bipush C (v := (-3)) (by decide) dX4_counted_20 ?_
  refine g_icmp_ne C (tgt := 38) (by decide) dX4_counted_22 (fun h22 => ?_) (fun h22 => absurd h22 (by decide))
  refine g_iload_n C 1 rfl rfl dX4_counted_38 ?_
  refine g_bipush C (v := (-4)) (by decide) dX4_counted_39 ?_
  refine g_icmp_ne C (tgt := 54) (by decide) dX4_counted_41 (fun h41 => absurd rfl h41) (fun h41 => ?_)
  refine g_aload_n C 0 rfl rfl dX4_counted_44 ?_
  refine g_dup C rfl dX4_counted_45 ?_
  refine g_getI C (j := 7) cls4 e_0 rfl (by decide) fl_X4_172 dX4_counted_46 ?_
  refine g_iconst C (v := (nI 1)) (by decide) dX4_counted_49 ?_
  refine g_iadd C dX4_counted_50 ?_
  refine g_putI C (j := 7) cls4 e_0 rfl (by decide) rfl rfl fl_X4_172 dX4_counted_51 ?_
  refine g_sgE (sg' := (us sg 0 (upd (sg 0) 7 ((sg 0 7) + (nI 1))))) rfl ?_
  refine g_iload_n C 1 rfl rfl dX4_counted_54 ?_
  exact g_iret C E dX4_counted_55 rfl Sq.rf rfl
set_option maxRecDepth 100000 in
set_option maxHeartbeats 400000 in
theorem c_X4_counted_ok (w : GW) (tu : Int64) (sg : Sg) (a : Int32) (ha : 0 ≤ a) : Kt w yX4_counted cX4_counted 2 (some .int) 0 [.ref (ad w 0), .int a] sg tu (some (.int a)) sg tu := by
  refine Kt.of2 RX4 rfl [(0, .ref (ad w 0)), (1, .int a)] (by decide) rfl (Nat.le_of_ble_eq_true rfl) (fun z C E => ?_)
  refine g_iload_n C 1 rfl rfl dX4_counted_0 ?_
  refine g_bipush C (v := (-2)) (by decide) dX4_counted_1 ?_
  refine g_icmp_ne C (tgt := 19) (by decide) dX4_counted_3 (fun h3 => ?_) (fun h3 => absurd ha (by rw [h3]; decide))
  refine g_iload_n C 1 rfl rfl dX4_counted_19 ?_
  refine g_bipush C (v := (-3)) (by decide) dX4_counted_20 ?_
  refine g_icmp_ne C (tgt := 38) (by decide) dX4_counted_22 (fun h22 => ?_) (fun h22 => absurd ha (by rw [h22]; decide))
  refine g_iload_n C 1 rfl rfl dX4_counted_38 ?_
  refine g_bipush C (v := (-4)) (by decide) dX4_counted_39 ?_
  refine g_icmp_ne C (tgt := 54) (by decide) dX4_counted_41 (fun h41 => ?_) (fun h41 => absurd ha (by rw [h41]; decide))
  refine g_iload_n C 1 rfl rfl dX4_counted_54 ?_
  exact g_iret C E dX4_counted_55 rfl Sq.rf rfl
theorem c_X1_keep (w : GW) (tu : Int64) (sg : Sg) (nx sz : Nat) (hn5 : nx < 5) (hnx : sg 11 1 = nI nx) (hsz : sg 11 2 = nI sz) (hs5 : sz ≤ 5) : Kt w yX1_keep cX1_keep 2 none 2 [.ref (ad w 11), .ref (ad w 6)] sg tu none (us (wrR sg (13 + 5 * nx) (rowC sg 6)) 11 (upd (upd (sg 11) 1 (nI ((nx + 1) % 5))) 2 (nI (if sz < 5 then sz + 1 else 5)))) tu := by
  rcases (show nx = 0 ∨ nx = 1 ∨ nx = 2 ∨ nx = 3 ∨ nx = 4 by omega) with rfl | rfl | rfl | rfl | rfl
  · exact c_X1_keep_0 w tu sg sz hnx hsz hs5
  · exact c_X1_keep_1 w tu sg sz hnx hsz hs5
  · exact c_X1_keep_2 w tu sg sz hnx hsz hs5
  · exact c_X1_keep_3 w tu sg sz hnx hsz hs5
  · exact c_X1_keep_4 w tu sg sz hnx hsz hs5
def gbS (sg : Sg) (nx sz : Nat) : Sg := us sg 11 (upd (upd (sg 11) 1 (nI ((nx + 4) % 5))) 2 (nI sz))
theorem c_X1_giveBackTo (w : GW) (tu : Int64) (sg : Sg) (nx sz : Nat) (hn5 : nx < 5) (hnx : sg 11 1 = nI nx) (hsz : sg 11 2 = nI (sz + 1)) (hs5 : sz < 5) : Kt w yX1_giveBackTo cX1_giveBackTo 2 none 2 [.ref (ad w 11), .ref (ad w 1)] sg tu none (wrR (gbS sg nx sz) 1 (rowC (gbS sg nx sz) (13 + 5 * ((nx + 4) % 5)))) tu := by
  rcases (show nx = 0 ∨ nx = 1 ∨ nx = 2 ∨ nx = 3 ∨ nx = 4 by omega) with rfl | rfl | rfl | rfl | rfl
  · exact c_X1_giveBackTo_0 w tu sg sz hnx hsz hs5
  · exact c_X1_giveBackTo_1 w tu sg sz hnx hsz hs5
  · exact c_X1_giveBackTo_2 w tu sg sz hnx hsz hs5
  · exact c_X1_giveBackTo_3 w tu sg sz hnx hsz hs5
  · exact c_X1_giveBackTo_4 w tu sg sz hnx hsz hs5
set_option maxRecDepth 100000 in
set_option maxHeartbeats 400000 in
theorem c_X4_settled_bad (w : GW) (tu : Int64) (sg : Sg) : Kt w yX4_settled cX4_settled 2 (some .int) 2 [.ref (ad w 0), .int (-2)] sg tu (some (.int (-2))) (us (wrR sg 1 (rowC sg 6)) 0 (upd ((wrR sg 1 (rowC sg 6)) 0) 5 (((wrR sg 1 (rowC sg 6)) 0) 5 + nI 1))) tu := by
  refine Kt.of2 RX4 rfl [(0, .ref (ad w 0)), (1, .int (-2))] (by decide) rfl (Nat.le_of_ble_eq_true rfl) (fun z C E => ?_)
  refine g_iload_n C 1 rfl rfl dX4_settled_0 ?_
  refine g_if_ge C (tgt := 21) (by decide) dX4_settled_1 (fun h1 => absurd h1 (by decide)) (fun h1 => ?_)
  refine g_aload_n C 0 rfl rfl dX4_settled_4 ?_
  refine g_getR C (j := 0) cls4 e_0 rfl (by decide) fl_X4_10 dX4_settled_5 ?_
  refine g_aload_n C 0 rfl rfl dX4_settled_8 ?_
  refine g_getR C (j := 1) cls4 e_0 rfl (by decide) fl_X4_16 dX4_settled_9 ?_
  refine g_callV0 [] C (c_X3_copyFrom_1_6 w tu sg  ) mt_X3_copyFrom e_1 rfl ml_X4_155 im_X3_copyFrom se_X3_copyFrom (by decide) rfl (Nat.le_of_ble_eq_true rfl) dX4_settled_12 ?_
  refine g_eq (sg' := (wrR sg 1 (rowC sg 6))) (L' := [(0, .ref (ad w 0)), (1, .int (-2))]) (S' := []) rfl rfl rfl rfl ?_
  refine g_aload_n C 0 rfl rfl dX4_settled_15 ?_
  refine g_iload_n C 1 rfl rfl dX4_settled_16 ?_
  refine g_callV1 [] C (c_X4_counted_bad w tu (wrR sg 1 (rowC sg 6))  ) mt_X4_counted e_0 rfl ml_X4_83 im_X4_counted se_X4_counted (by decide) rfl (Nat.le_of_ble_eq_true rfl) dX4_settled_17 ?_
  refine g_eq (sg' := (us (wrR sg 1 (rowC sg 6)) 0 (upd ((wrR sg 1 (rowC sg 6)) 0) 5 (((wrR sg 1 (rowC sg 6)) 0) 5 + nI 1)))) (L' := [(0, .ref (ad w 0)), (1, .int (-2))]) (S' := [.int (-2)]) rfl rfl rfl rfl ?_
  exact g_iret C E dX4_settled_20 rfl Sq.rf rfl
set_option maxRecDepth 100000 in
set_option maxHeartbeats 400000 in
theorem c_X4_settled_no (w : GW) (tu : Int64) (sg : Sg) : Kt w yX4_settled cX4_settled 2 (some .int) 2 [.ref (ad w 0), .int (-3)] sg tu (some (.int (-3))) (us (wrR sg 1 (rowC sg 6)) 0 (upd ((wrR sg 1 (rowC sg 6)) 0) 6 (((wrR sg 1 (rowC sg 6)) 0) 6 + nI 1))) tu := by
  refine Kt.of2 RX4 rfl [(0, .ref (ad w 0)), (1, .int (-3))] (by decide) rfl (Nat.le_of_ble_eq_true rfl) (fun z C E => ?_)
  refine g_iload_n C 1 rfl rfl dX4_settled_0 ?_
  refine g_if_ge C (tgt := 21) (by decide) dX4_settled_1 (fun h1 => absurd h1 (by decide)) (fun h1 => ?_)
  refine g_aload_n C 0 rfl rfl dX4_settled_4 ?_
  refine g_getR C (j := 0) cls4 e_0 rfl (by decide) fl_X4_10 dX4_settled_5 ?_
  refine g_aload_n C 0 rfl rfl dX4_settled_8 ?_
  refine g_getR C (j := 1) cls4 e_0 rfl (by decide) fl_X4_16 dX4_settled_9 ?_
  refine g_callV0 [] C (c_X3_copyFrom_1_6 w tu sg  ) mt_X3_copyFrom e_1 rfl ml_X4_155 im_X3_copyFrom se_X3_copyFrom (by decide) rfl (Nat.le_of_ble_eq_true rfl) dX4_settled_12 ?_
  refine g_eq (sg' := (wrR sg 1 (rowC sg 6))) (L' := [(0, .ref (ad w 0)), (1, .int (-3))]) (S' := []) rfl rfl rfl rfl ?_
  refine g_aload_n C 0 rfl rfl dX4_settled_15 ?_
  refine g_iload_n C 1 rfl rfl dX4_settled_16 ?_
  refine g_callV1 [] C (c_X4_counted_no w tu (wrR sg 1 (rowC sg 6))  ) mt_X4_counted e_0 rfl ml_X4_83 im_X4_counted se_X4_counted (by decide) rfl (Nat.le_of_ble_eq_true rfl) dX4_settled_17 ?_
  refine g_eq (sg' := (us (wrR sg 1 (rowC sg 6)) 0 (upd ((wrR sg 1 (rowC sg 6)) 0) 6 (((wrR sg 1 (rowC sg 6)) 0) 6 + nI 1)))) (L' := [(0, .ref (ad w 0)), (1, .int (-3))]) (S' := [.int (-3)]) rfl rfl rfl rfl ?_
  exact g_iret C E dX4_settled_20 rfl Sq.rf rfl
set_option maxRecDepth 100000 in
set_option maxHeartbeats 400000 in
theorem c_X4_settled_ok (w : GW) (tu : Int64) (sg : Sg) (a : Int32) (nx sz : Nat) (hn5 : nx < 5) (hnx : sg 11 1 = nI nx) (hsz : sg 11 2 = nI sz) (hs5 : sz ≤ 5) (ha : 0 ≤ a) : Kt w yX4_settled cX4_settled 2 (some .int) 3 [.ref (ad w 0), .int a] sg tu (some (.int a)) (us (wrR sg (13 + 5 * nx) (rowC sg 6)) 11 (upd (upd (sg 11) 1 (nI ((nx + 1) % 5))) 2 (nI (if sz < 5 then sz + 1 else 5)))) tu := by
  refine Kt.of2 RX4 rfl [(0, .ref (ad w 0)), (1, .int a)] (by decide) rfl (Nat.le_of_ble_eq_true rfl) (fun z C E => ?_)
  refine g_iload_n C 1 rfl rfl dX4_settled_0 ?_
  refine g_if_ge C (tgt := 21) (by decide) dX4_settled_1 (fun h1 => ?_) (fun h1 => absurd ha h1)
  refine g_aload_n C 0 rfl rfl dX4_settled_21 ?_
  refine g_getR C (j := 2) cls4 e_0 rfl (by decide) fl_X4_22 dX4_settled_22 ?_
  refine g_aload_n C 0 rfl rfl dX4_settled_25 ?_
  refine g_getR C (j := 1) cls4 e_0 rfl (by decide) fl_X4_16 dX4_settled_26 ?_
  refine g_callV0 [] C (c_X1_keep w tu sg  nx sz hn5 hnx hsz hs5) mt_X1_keep e_11 rfl ml_X4_159 im_X1_keep se_X1_keep (by decide) rfl (Nat.le_of_ble_eq_true rfl) dX4_settled_29 ?_
  refine g_eq (sg' := (us (wrR sg (13 + 5 * nx) (rowC sg 6)) 11 (upd (upd (sg 11) 1 (nI ((nx + 1) % 5))) 2 (nI (if sz < 5 then sz + 1 else 5))))) (L' := [(0, .ref (ad w 0)), (1, .int a)]) (S' := []) rfl rfl rfl rfl ?_
  refine g_iload_n C 1 rfl rfl dX4_settled_32 ?_
  exact g_iret C E dX4_settled_33 rfl Sq.rf rfl
