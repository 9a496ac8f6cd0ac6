set_option maxRecDepth 100000 in
set_option maxHeartbeats 400000 in
theorem c_X2_at_in (w : GW) (tu : Int64) (sg : Sg) (p : Nat) (tl : Nat) (htl : sg 38 1 = nI tl) (h120 : tl ≤ 120) (hp : p < tl) : Kt w yX2_at cX2_at 2 (some .int) 1 [.ref (ad w 38), .int (nI p)] sg tu (some (.int ((sg 39) p))) sg tu := by
  refine Kt.of2 RX2 rfl [(0, .ref (ad w 38)), (1, .int (nI p))] (by decide) rfl (Nat.le_of_ble_eq_true rfl) (fun z C E => ?_)
  refine g_iload_n C 1 rfl rfl dX2_at_0 ?_
  refine g_i2l C dX2_at_1 ?_
  refine g_lconst C (v := 0) (by decide) dX2_at_2 ?_
  refine g_aload_n C 0 rfl rfl dX2_at_3 ?_
  refine g_getI C (j := 1) cls2 e_38 rfl (by decide) fl_X2_15 dX2_at_4 ?_
  refine g_top (y := (nI tl)) htl ?_
  refine g_iconst C (v := (nI 1)) (by decide) dX2_at_7 ?_
  refine g_isub C dX2_at_8 ?_
  refine g_top (y := (nI (tl - 1))) (by first | rfl | exact pk_sub (by omega)) ?_
  refine g_i2l C dX2_at_9 ?_
  refine g_callN1 [] C (c_X4_within w tu sg (Int32.toInt64 (nI p)) 0 (Int32.toInt64 (nI (tl - 1))) ) mt_X4_within nl_X2_21 st_X4_within (by decide) rfl (Nat.le_of_ble_eq_true rfl) dX2_at_10 ?_
  refine g_eq (L' := [(0, .ref (ad w 38)), (1, .int (nI p))]) (S' := [.int (bI (0 ≤ (Int32.toInt64 (nI p)) ∧ (Int32.toInt64 (nI p)) ≤ (Int32.toInt64 (nI (tl - 1)))))]) rfl rfl rfl rfl ?_
  refine g_bif_eq C (tgt := 25) (by decide) dX2_at_13 (fun h13 => absurd (show (0 : Int64) ≤ Int32.toInt64 (nI p) ∧ Int32.toInt64 (nI p) ≤ Int32.toInt64 (nI (tl - 1)) from by rw [nI_l (by omega), nI_l (by omega)]; exact ⟨(pk_lLE (a := 0) (by omega) (by omega)).mpr (Nat.zero_le _), (pk_lLE (by omega) (by omega)).mpr (by omega)⟩) h13) (fun h13 => ?_)
  refine g_aload_n C 0 rfl rfl dX2_at_16 ?_
  refine g_getR C (j := 0) cls2 e_38 rfl (by decide) fl_X2_9 dX2_at_17 ?_
  refine g_iload_n C 1 rfl rfl dX2_at_20 ?_
  refine g_baldN C p e_39 (by omega) (by decide) dX2_at_21 ?_
  refine g_goto C (tgt := 26) (by decide) dX2_at_22 ?_
  exact g_iret C E dX2_at_26 rfl Sq.rf rfl
set_option maxRecDepth 100000 in
set_option maxHeartbeats 400000 in
theorem c_X2_at_out (w : GW) (tu : Int64) (sg : Sg) (p : Nat) (tl : Nat) (htl : sg 38 1 = nI tl) (h120 : tl ≤ 120) (h1t : 1 ≤ tl) (hp : tl ≤ p) (hp9 : p < 1000) : Kt w yX2_at cX2_at 2 (some .int) 1 [.ref (ad w 38), .int (nI p)] sg tu (some (.int (-1))) sg tu := by
  refine Kt.of2 RX2 rfl [(0, .ref (ad w 38)), (1, .int (nI p))] (by decide) rfl (Nat.le_of_ble_eq_true rfl) (fun z C E => ?_)
  refine g_iload_n C 1 rfl rfl dX2_at_0 ?_
  refine g_i2l C dX2_at_1 ?_
  refine g_lconst C (v := 0) (by decide) dX2_at_2 ?_
  refine g_aload_n C 0 rfl rfl dX2_at_3 ?_
  refine g_getI C (j := 1) cls2 e_38 rfl (by decide) fl_X2_15 dX2_at_4 ?_
  refine g_top (y := (nI tl)) htl ?_
  refine g_iconst C (v := (nI 1)) (by decide) dX2_at_7 ?_
  refine g_isub C dX2_at_8 ?_
  refine g_top (y := (nI (tl - 1))) (by first | rfl | exact pk_sub (by omega)) ?_
  refine g_i2l C dX2_at_9 ?_
  refine g_callN1 [] C (c_X4_within w tu sg (Int32.toInt64 (nI p)) 0 (Int32.toInt64 (nI (tl - 1))) ) mt_X4_within nl_X2_21 st_X4_within (by decide) rfl (Nat.le_of_ble_eq_true rfl) dX2_at_10 ?_
  refine g_eq (L' := [(0, .ref (ad w 38)), (1, .int (nI p))]) (S' := [.int (bI (0 ≤ (Int32.toInt64 (nI p)) ∧ (Int32.toInt64 (nI p)) ≤ (Int32.toInt64 (nI (tl - 1)))))]) rfl rfl rfl rfl ?_
  refine g_bif_eq C (tgt := 25) (by decide) dX2_at_13 (fun h13 => ?_) (fun h13 => absurd h13.2 (by rw [nI_l (by omega), nI_l (by omega)]; exact fun q => absurd ((pk_lLE (by omega) (by omega)).mp q) (by omega)))
  refine g_iconst C (v := (-1)) (by decide) dX2_at_25 ?_
  exact g_iret C E dX2_at_26 rfl Sq.rf rfl
set_option maxRecDepth 100000 in
set_option maxHeartbeats 400000 in
theorem c_X2_at_none (w : GW) (tu : Int64) (sg : Sg) (p : Nat) (htl : sg 38 1 = nI 0) : Kt w yX2_at cX2_at 2 (some .int) 1 [.ref (ad w 38), .int (nI p)] sg tu (some (.int (-1))) sg tu := by
  refine Kt.of2 RX2 rfl [(0, .ref (ad w 38)), (1, .int (nI p))] (by decide) rfl (Nat.le_of_ble_eq_true rfl) (fun z C E => ?_)
  refine g_iload_n C 1 rfl rfl dX2_at_0 ?_
  refine g_i2l C dX2_at_1 ?_
  refine g_lconst C (v := 0) (by decide) dX2_at_2 ?_
  refine g_aload_n C 0 rfl rfl dX2_at_3 ?_
  refine g_getI C (j := 1) cls2 e_38 rfl (by decide) fl_X2_15 dX2_at_4 ?_
  refine g_top (y := (nI 0)) htl ?_
  refine g_iconst C (v := (nI 1)) (by decide) dX2_at_7 ?_
  refine g_isub C dX2_at_8 ?_
  refine g_i2l C dX2_at_9 ?_
  refine g_callN1 [] C (c_X4_within w tu sg (Int32.toInt64 (nI p)) 0 (Int32.toInt64 ((nI 0) - (nI 1))) ) mt_X4_within nl_X2_21 st_X4_within (by decide) rfl (Nat.le_of_ble_eq_true rfl) dX2_at_10 ?_
  refine g_eq (L' := [(0, .ref (ad w 38)), (1, .int (nI p))]) (S' := [.int (bI (0 ≤ (Int32.toInt64 (nI p)) ∧ (Int32.toInt64 (nI p)) ≤ (Int32.toInt64 ((nI 0) - (nI 1)))))]) rfl rfl rfl rfl ?_
  refine g_bif_eq C (tgt := 25) (by decide) dX2_at_13 (fun h13 => ?_) (fun h13 => absurd (Int64.le_trans h13.1 h13.2) (by decide))
  refine g_iconst C (v := (-1)) (by decide) dX2_at_25 ?_
  exact g_iret C E dX2_at_26 rfl Sq.rf rfl
