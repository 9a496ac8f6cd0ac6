theorem by_c : ∀ c, c < 128 → (Int32.toInt8 (nI c)).toInt32 = nI c := by decide +kernel
theorem vp_c : ∀ c, c < 128 → vp_nar FieldType.byte (nI c) = nI c := by decide +kernel
set_option maxRecDepth 100000 in
set_option maxHeartbeats 400000 in
theorem c_X2_add_ok (w : GW) (tu : Int64) (sg : Sg) (c : Nat) (tl : Nat) (htl : sg 38 1 = nI tl) (hc : c ≤ 127) (h120 : tl < 120) : Kt w yX2_add cX2_add 2 (some .int) 1 [.ref (ad w 38), .int (nI c)] sg tu (some (.int (nI (tl + 1)))) (us (us sg 39 (upd (sg 39) tl (nI c))) 38 (upd (sg 38) 1 (nI (tl + 1)))) tu := by
  refine Kt.of2 RX2 rfl [(0, .ref (ad w 38)), (1, .int (nI c))] (by decide) rfl (Nat.le_of_ble_eq_true rfl) (fun z C E => ?_)
  refine g_iload_n C 1 rfl rfl dX2_add_0 ?_
  refine g_i2l C dX2_add_1 ?_
  refine g_lconst C (v := 0) (by decide) dX2_add_2 ?_
  refine g_ldc2 C cn_X2_19 dX2_add_3 ?_
  refine g_callN1 [] C (c_X4_within_t w tu sg (Int32.toInt64 (nI c)) 0 127 (in_ok (n := 127) (by omega) (by decide))) mt_X4_within nl_X2_21 st_X4_within (by decide) rfl (Nat.le_of_ble_eq_true rfl) dX2_add_6 ?_
  refine g_eq (L' := [(0, .ref (ad w 38)), (1, .int (nI c))]) (S' := [.int (nI 1)]) rfl rfl rfl rfl ?_
  refine g_if_ne C (tgt := 15) (by decide) dX2_add_9 (fun h9 => ?_) (fun h9 => absurd h9 (by decide))
  refine g_aload_n C 0 rfl rfl dX2_add_15 ?_
  refine g_getI C (j := 1) cls2 e_38 rfl (by decide) fl_X2_15 dX2_add_16 ?_
  refine g_top (y := (nI tl)) htl ?_
  refine g_bipush C (v := (nI 120)) (by decide) dX2_add_19 ?_
  refine g_icmpN_lt C tl 120 (by omega) (by omega) (tgt := 27) (by decide) dX2_add_21 (fun h21 => ?_) (fun h21 => absurd h120 (by omega))
  refine g_aload_n C 0 rfl rfl dX2_add_27 ?_
  refine g_getR C (j := 0) cls2 e_38 rfl (by decide) fl_X2_9 dX2_add_28 ?_
  refine g_aload_n C 0 rfl rfl dX2_add_31 ?_
  refine g_getI C (j := 1) cls2 e_38 rfl (by decide) fl_X2_15 dX2_add_32 ?_
  refine g_top (y := (nI tl)) htl ?_
  refine g_iload_n C 1 rfl rfl dX2_add_35 ?_
  refine g_i2b C dX2_add_36 ?_
  refine g_top (y := (nI c)) (by_c c (by omega)) ?_
  refine g_bastN C tl e_39 (by omega) (by decide) dX2_add_37 ?_
  refine g_sgE (sg' := (us sg 39 (upd (sg 39) tl (vp_nar .byte (nI c))))) rfl ?_
  refine g_sgE (sg' := (us sg 39 (upd (sg 39) tl (nI c)))) (by rw [vp_c c (by omega)]) ?_
  refine g_aload_n C 0 rfl rfl dX2_add_38 ?_
  refine g_dup C rfl dX2_add_39 ?_
  refine g_getI C (j := 1) cls2 e_38 rfl (by decide) fl_X2_15 dX2_add_40 ?_
  refine g_top (y := (nI tl)) htl ?_
  refine g_iconst C (v := (nI 1)) (by decide) dX2_add_43 ?_
  refine g_iadd C dX2_add_44 ?_
  refine g_top (y := (nI (tl + 1))) (nI_add tl 1) ?_
  refine g_putI C (j := 1) cls2 e_38 rfl (by decide) rfl rfl fl_X2_15 dX2_add_45 ?_
  refine g_sgE (sg' := (us (us sg 39 (upd (sg 39) tl (nI c))) 38 (upd (sg 38) 1 (nI (tl + 1))))) rfl ?_
  refine g_aload_n C 0 rfl rfl dX2_add_48 ?_
  refine g_getI C (j := 1) cls2 e_38 rfl (by decide) fl_X2_15 dX2_add_49 ?_
  refine g_top (y := (nI (tl + 1))) rfl ?_
  exact g_iret C E dX2_add_52 rfl Sq.rf rfl
set_option maxRecDepth 100000 in
set_option maxHeartbeats 400000 in
theorem c_X2_add_full (w : GW) (tu : Int64) (sg : Sg) (c : Nat) (tl : Nat) (htl : sg 38 1 = nI tl) (hc : c ≤ 127) (h120 : 120 ≤ tl) (hb : tl < 1000) : Kt w yX2_add cX2_add 2 (some .int) 1 [.ref (ad w 38), .int (nI c)] sg tu (some (.int (-4))) sg tu := by
  refine Kt.of2 RX2 rfl [(0, .ref (ad w 38)), (1, .int (nI c))] (by decide) rfl (Nat.le_of_ble_eq_true rfl) (fun z C E => ?_)
  refine g_iload_n C 1 rfl rfl dX2_add_0 ?_
  refine g_i2l C dX2_add_1 ?_
  refine g_lconst C (v := 0) (by decide) dX2_add_2 ?_
  refine g_ldc2 C cn_X2_19 dX2_add_3 ?_
  refine g_callN1 [] C (c_X4_within_t w tu sg (Int32.toInt64 (nI c)) 0 127 (in_ok (n := 127) (by omega) (by decide))) mt_X4_within nl_X2_21 st_X4_within (by decide) rfl (Nat.le_of_ble_eq_true rfl) dX2_add_6 ?_
  refine g_eq (L' := [(0, .ref (ad w 38)), (1, .int (nI c))]) (S' := [.int (nI 1)]) rfl rfl rfl rfl ?_
  refine g_if_ne C (tgt := 15) (by decide) dX2_add_9 (fun h9 => ?_) (fun h9 => absurd h9 (by decide))
  refine g_aload_n C 0 rfl rfl dX2_add_15 ?_
  refine g_getI C (j := 1) cls2 e_38 rfl (by decide) fl_X2_15 dX2_add_16 ?_
  refine g_top (y := (nI tl)) htl ?_
  refine g_bipush C (v := (nI 120)) (by decide) dX2_add_19 ?_
  refine g_icmpN_lt C tl 120 (by omega) (by omega) (tgt := 27) (by decide) dX2_add_21 (fun h21 => absurd h21 (by omega)) (fun h21 => ?_)
  refine g_bipush C (v := (-4)) (by decide) dX2_add_24 ?_
  exact g_iret C E dX2_add_26 rfl Sq.rf rfl
set_option maxRecDepth 100000 in
set_option maxHeartbeats 400000 in
theorem c_X2_add_bad (w : GW) (tu : Int64) (sg : Sg) (v : Int32) (h : ¬ (0 ≤ Int32.toInt64 v ∧ Int32.toInt64 v ≤ 127)) : Kt w yX2_add cX2_add 2 (some .int) 1 [.ref (ad w 38), .int v] sg tu (some (.int (-2))) sg tu := by
  refine Kt.of2 RX2 rfl [(0, .ref (ad w 38)), (1, .int v)] (by decide) rfl (Nat.le_of_ble_eq_true rfl) (fun z C E => ?_)
  refine g_iload_n C 1 rfl rfl dX2_add_0 ?_
  refine g_i2l C dX2_add_1 ?_
  refine g_lconst C (v := 0) (by decide) dX2_add_2 ?_
  refine g_ldc2 C cn_X2_19 dX2_add_3 ?_
  refine g_callN1 [] C (c_X4_within w tu sg (Int32.toInt64 v) 0 127 ) mt_X4_within nl_X2_21 st_X4_within (by decide) rfl (Nat.le_of_ble_eq_true rfl) dX2_add_6 ?_
  refine g_eq (L' := [(0, .ref (ad w 38)), (1, .int v)]) (S' := [.int (bI (0 ≤ (Int32.toInt64 v) ∧ (Int32.toInt64 v) ≤ 127))]) rfl rfl rfl rfl ?_
  refine g_bif_ne C (tgt := 15) (by decide) dX2_add_9 (fun h9 => absurd h9 h) (fun h9 => ?_)
  refine g_bipush C (v := (-2)) (by decide) dX2_add_12 ?_
  exact g_iret C E dX2_add_14 rfl Sq.rf rfl
set_option maxRecDepth 100000 in
set_option maxHeartbeats 400000 in
theorem c_X2_empty (w : GW) (tu : Int64) (sg : Sg) : Kt w yX2_empty cX2_empty 2 (some .int) 0 [.ref (ad w 38)] sg tu (some (.int (sg 38 1))) (us sg 38 (upd (sg 38) 1 (nI 0))) tu := by
  refine Kt.of2 RX2 rfl [(0, .ref (ad w 38))] (by decide) rfl (Nat.le_of_ble_eq_true rfl) (fun z C E => ?_)
  refine g_aload_n C 0 rfl rfl dX2_empty_0 ?_
  refine g_getI C (j := 1) cls2 e_38 rfl (by decide) fl_X2_15 dX2_empty_1 ?_
  refine g_istore_n C (L' := [(1, .int (sg 38 1)), (0, .ref (ad w 38))]) rfl (by decide) rfl dX2_empty_4 ?_
  refine g_aload_n C 1 rfl rfl dX2_empty_5 ?_
  refine g_iconst C (v := (nI 0)) (by decide) dX2_empty_6 ?_
  refine g_putI C (j := 1) cls2 e_38 rfl (by decide) rfl rfl fl_X2_15 dX2_empty_7 ?_
  refine g_sgE (sg' := (us sg 38 (upd (sg 38) 1 (nI 0)))) rfl ?_
  refine g_iload_n C 0 rfl rfl dX2_empty_10 ?_
  exact g_iret C E dX2_empty_11 rfl Sq.rf rfl
