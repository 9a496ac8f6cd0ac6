set_option maxRecDepth 100000 in
set_option maxHeartbeats 400000 in
theorem c_X3_given (w : GW) (tu : Int64) (sg : Sg) (d : Nat) (dg o : Nat) (hd : d < 6) (hdg : sg 2 d = nI dg) (hdg9 : dg ≤ 9) (ho : sg 3 d = nI o) (ho1 : o < 1024) (ho2 : o % 2 = 0) : Kt w yX3_given cX3_given 3 (some .int) 1 [.ref (ad w 1), .int (nI d)] sg tu (some (.int (whX (nI o) (dg + 1)))) sg tu := by
  refine Kt.of2 RX3 rfl [(0, .ref (ad w 1)), (1, .int (nI d))] (by decide) rfl (Nat.le_of_ble_eq_true rfl) (fun z C E => ?_)
  refine g_iconst C (v := (nI 2)) (by decide) dX3_given_0 ?_
  refine g_aload_n C 0 rfl rfl dX3_given_1 ?_
  refine g_getR C (j := 0) cls3 e_1 rfl (by decide) fl_X3_9 dX3_given_2 ?_
  refine g_iload_n C 1 rfl rfl dX3_given_5 ?_
  refine g_ialdN C d e_2 (by omega) (by decide) dX3_given_6 ?_
  refine g_top (y := (nI dg)) hdg ?_
  refine g_ishl C dX3_given_7 ?_
  refine g_iconst C (v := (nI 1)) (by decide) dX3_given_8 ?_
  refine g_isub C dX3_given_9 ?_
  refine g_istore_n C (L' := [(2, .int (((nI 2) <<< ((nI dg) &&& 31)) - (nI 1))), (0, .ref (ad w 1)), (1, .int (nI d))]) rfl (by decide) rfl dX3_given_10 ?_
  refine g_aload_n C 1 rfl rfl dX3_given_11 ?_
  refine g_getR C (j := 0) cls3 e_1 rfl (by decide) fl_X3_9 dX3_given_12 ?_
  refine g_iload_n C 2 rfl rfl dX3_given_15 ?_
  refine g_ialdN C d e_2 (by omega) (by decide) dX3_given_16 ?_
  refine g_top (y := (nI dg)) hdg ?_
  refine g_aload_n C 1 rfl rfl dX3_given_17 ?_
  refine g_getR C (j := 1) cls3 e_1 rfl (by decide) fl_X3_15 dX3_given_18 ?_
  refine g_iload_n C 2 rfl rfl dX3_given_21 ?_
  refine g_ialdN C d e_3 (by omega) (by decide) dX3_given_22 ?_
  refine g_top (y := (nI o)) ho ?_
  refine g_iload_n C 0 rfl rfl dX3_given_23 ?_
  refine g_iand C dX3_given_24 ?_
  refine g_callS1 [.int (nI dg)] C (c_J6_bitCount_0f7a4 w tu sg ((nI o) &&& (((nI 2) <<< ((nI dg) &&& 31)) - (nI 1))) ) mt_J6_bitCount_0f7a4 ml_X3_65 st_J6_bitCount_0f7a4 (by decide) rfl (Nat.le_of_ble_eq_true rfl) dX3_given_25 ?_
  refine g_eq (L' := [(2, .int (((nI 2) <<< ((nI dg) &&& 31)) - (nI 1))), (0, .ref (ad w 1)), (1, .int (nI d))]) (S' := [.int (bcX ((nI o) &&& (((nI 2) <<< ((nI dg) &&& 31)) - (nI 1)))), .int (nI dg)]) rfl rfl rfl rfl ?_
  refine g_isub C dX3_given_28 ?_
  exact g_iret C E dX3_given_29 (gv_eq hdg9 ho1 ho2) Sq.rf rfl
theorem gN_C {f : Nat → Int32} (hf : ROk f) {d : Nat} (hd : d < 6) : whX (nI (oN f d)) (dN f d + 1) = nI (gN f d) := by
  rw [← (hf.2.1 d hd).1]
  exact (gN_ok hf hd).1
/-- what drums give as a number, as the class makes it -/
def ngX (g : Nat → Nat) : Nat → Nat → Nat
  | 0, v => v
  | r + 1, v => ngX g r (v * 10 + g r)
theorem ngX_lt {g : Nat → Nat} : ∀ r v, (∀ k, k < r → g k ≤ 9) → ngX g r v < (v + 1) * 10 ^ r
  | 0, v, _ => by show v < (v + 1) * 1; omega
  | r + 1, v, h => by
    have h1 := ngX_lt r (v * 10 + g r) (fun k hk => h k (by omega))
    have h2 := h r (by omega)
    show ngX g r (v * 10 + g r) < _
    have h3 : (v * 10 + g r + 1) * 10 ^ r ≤ ((v + 1) * 10) * 10 ^ r := Nat.mul_le_mul_right _ (by omega)
    rw [Nat.pow_succ, Nat.mul_comm (10 ^ r) 10, ← Nat.mul_assoc]
    omega
set_option maxRecDepth 100000 in
set_option maxHeartbeats 400000 in
theorem c_X3_numberGiven (w : GW) (tu : Int64) (sg : Sg) (hok : ROk (rowC sg 1)) : Kt w yX3_numberGiven cX3_numberGiven 3 (some .int) 2 [.ref (ad w 1)] sg tu (some (.int (nI (ngX (gN (rowC sg 1)) 6 0)))) sg tu := by
  refine Kt.of2 RX3 rfl [(0, .ref (ad w 1))] (by decide) rfl (Nat.le_of_ble_eq_true rfl) (fun z C E => ?_)
  refine g_iconst C (v := (nI 0)) (by decide) dX3_numberGiven_0 ?_
  refine g_istore_n C (L' := [(1, .int (nI 0)), (0, .ref (ad w 1))]) rfl (by decide) rfl dX3_numberGiven_1 ?_
  refine g_iconst C (v := (nI 5)) (by decide) dX3_numberGiven_2 ?_
  refine g_istore_n C (L' := [(2, .int (nI 5)), (1, .int (nI 0)), (0, .ref (ad w 1))]) rfl (by decide) rfl dX3_numberGiven_3 ?_
  have lp : ∀ (r : Nat) (v : Nat), r ≤ 6 → (ngX (gN (rowC sg 1)) r v = ngX (gN (rowC sg 1)) 6 0) → G z w 3 sg tu 4 [(2, .int (nI r + (-1))), (1, .int (nI v)), (0, .ref (ad w 1))] [] := by
    intro r
    induction r with
    | zero =>
      intro v h2 hI
      refine g_iload_n C 0 rfl rfl dX3_numberGiven_4 ?_
      refine g_if_lt C (tgt := 25) (by decide) dX3_numberGiven_5 (fun h5 => ?_) (fun h5 => absurd (by decide) h5)
      refine g_iload_n C 1 rfl rfl dX3_numberGiven_25 ?_
      exact g_iret C E dX3_numberGiven_26 (by rw [← hI]; rfl) Sq.rf rfl
    | succ r ih =>
      intro v h2 hI
      refine g_eq (L' := [(2, .int (nI r)), (1, .int (nI v)), (0, .ref (ad w 1))]) rfl rfl (by rw [pk_m1]) rfl ?_
      refine g_iload_n C 0 rfl rfl dX3_numberGiven_4 ?_
      refine g_if_lt C (tgt := 25) (by decide) dX3_numberGiven_5 (fun h5 => absurd h5 (nI_pos (by omega))) (fun h5 => ?_)
      refine g_iload_n C 1 rfl rfl dX3_numberGiven_8 ?_
      refine g_bipush C (v := (nI 10)) (by decide) dX3_numberGiven_9 ?_
      refine g_imul C dX3_numberGiven_11 ?_
      refine g_top (y := (nI (v * 10))) (pk_mul v 10) ?_
      refine g_aload_n C 2 rfl rfl dX3_numberGiven_12 ?_
      refine g_iload_n C 0 rfl rfl dX3_numberGiven_13 ?_
      refine g_callV1 [.int (nI (v * 10))] C (c_X3_given w tu sg r (dN (rowC sg 1) r) (oN (rowC sg 1) r) (by omega) ((rowC_d (sg := sg) (w := 1) (by omega)).symm.trans (hok.1 r (by omega)).1) (hok.1 r (by omega)).2 ((rowC_o (sg := sg) (w := 1) (by omega)).symm.trans (hok.2.1 r (by omega)).1) (hok.2.1 r (by omega)).2.1 (hok.2.1 r (by omega)).2.2) mt_X3_given e_1 rfl ml_X3_114 im_X3_given se_X3_given (by decide) rfl (Nat.le_of_ble_eq_true rfl) dX3_numberGiven_14 ?_
      refine g_eq (L' := [(2, .int (nI r)), (1, .int (nI v)), (0, .ref (ad w 1))]) (S' := [.int (whX (nI (oN (rowC sg 1) r)) ((dN (rowC sg 1) r) + 1)), .int (nI (v * 10))]) rfl rfl rfl rfl ?_
      refine g_top (y := (nI (gN (rowC sg 1) r))) (gN_C hok (by omega)) ?_
      refine g_iadd C dX3_numberGiven_17 ?_
      refine g_top (y := (nI ((v * 10) + (gN (rowC sg 1) r)))) (nI_add (v * 10) (gN (rowC sg 1) r)) ?_
      refine g_istore_n C (L' := [(1, .int (nI ((v * 10) + (gN (rowC sg 1) r)))), (2, .int (nI r)), (0, .ref (ad w 1))]) rfl (by decide) rfl dX3_numberGiven_18 ?_
      refine g_iinc C (n := -1) (v := ((nI r) + (-1))) (L' := [(2, .int ((nI r) + (-1))), (1, .int (nI ((v * 10) + (gN (rowC sg 1) r)))), (0, .ref (ad w 1))]) 1 rfl rfl (by decide) rfl dX3_numberGiven_19 ?_
      refine g_goto C (tgt := 4) (by decide) dX3_numberGiven_22 ?_
      refine g_sub (L' := [(2, .int ((nI r) + (-1))), (1, .int (nI ((v * 10) + (gN (rowC sg 1) r)))), (0, .ref (ad w 1))]) [0, 1, 2] rfl ?_
      exact ih ((v * 10) + (gN (rowC sg 1) r)) (by omega) hI
  refine g_eq (L' := [(2, .int (nI 6 + (-1))), (1, .int (nI 0)), (0, .ref (ad w 1))]) rfl rfl rfl rfl ?_
  refine g_sub (L' := [(2, .int (nI 6 + (-1))), (1, .int (nI 0)), (0, .ref (ad w 1))]) [0, 1, 2] rfl ?_
  exact lp 6 0 (by omega) rfl
def wsC (f : Nat → Int32) : Nat → Int32
  | 0 => nI 0
  | d + 1 => wsC f d + bcX (f d)
set_option maxRecDepth 100000 in
set_option maxHeartbeats 400000 in
theorem c_X3_wornTeeth (w : GW) (tu : Int64) (sg : Sg) : Kt w yX3_wornTeeth cX3_wornTeeth 3 (some .int) 1 [.ref (ad w 1)] sg tu (some (.int (wsC (sg 3) 6))) sg tu := by
  refine Kt.of2 RX3 rfl [(0, .ref (ad w 1))] (by decide) rfl (Nat.le_of_ble_eq_true rfl) (fun z C E => ?_)
  refine g_iconst C (v := (nI 0)) (by decide) dX3_wornTeeth_0 ?_
  refine g_istore_n C (L' := [(1, .int (nI 0)), (0, .ref (ad w 1))]) rfl (by decide) rfl dX3_wornTeeth_1 ?_
  refine g_iconst C (v := (nI 0)) (by decide) dX3_wornTeeth_2 ?_
  refine g_istore_n C (L' := [(2, .int (nI 0)), (1, .int (nI 0)), (0, .ref (ad w 1))]) rfl (by decide) rfl dX3_wornTeeth_3 ?_
  have lp : ∀ (nf i : Nat) (m : Int32), 6 < i + nf → i ≤ 6 → (m = wsC (sg 3) i) → G z w 3 sg tu 4 [(2, .int (nI i)), (1, .int m), (0, .ref (ad w 1))] [] := by
    intro nf
    induction nf with
    | zero => intro i m h1 h2 hI; exact absurd h1 (by omega)
    | succ nf ihlp =>
      intro i m h1 h2 hI
      refine g_iload_n C 0 rfl rfl dX3_wornTeeth_4 ?_
      refine g_bipush C (v := (nI 6)) (by decide) dX3_wornTeeth_5 ?_
      refine g_icmpN_ge C i 6 (by omega) (by omega) (tgt := 28) (by decide) dX3_wornTeeth_7 (fun h7 => ?_) (fun h7 => ?_)
      ·
        have hiN : 6 = i := by omega
        subst hiN
        refine g_iload_n C 1 rfl rfl dX3_wornTeeth_28 ?_
        exact g_iret C E dX3_wornTeeth_29 hI Sq.rf rfl
      ·
        refine g_iload_n C 1 rfl rfl dX3_wornTeeth_10 ?_
        refine g_aload_n C 2 rfl rfl dX3_wornTeeth_11 ?_
        refine g_getR C (j := 1) cls3 e_1 rfl (by decide) fl_X3_15 dX3_wornTeeth_12 ?_
        refine g_iload_n C 0 rfl rfl dX3_wornTeeth_15 ?_
        refine g_ialdN C i e_3 (by omega) (by decide) dX3_wornTeeth_16 ?_
        refine g_callS1 [.int m] C (c_J6_bitCount_0f7a4 w tu sg (sg 3 i) ) mt_J6_bitCount_0f7a4 ml_X3_65 st_J6_bitCount_0f7a4 (by decide) rfl (Nat.le_of_ble_eq_true rfl) dX3_wornTeeth_17 ?_
        refine g_eq (L' := [(2, .int (nI i)), (1, .int m), (0, .ref (ad w 1))]) (S' := [.int (bcX (sg 3 i)), .int m]) rfl rfl rfl rfl ?_
        refine g_iadd C dX3_wornTeeth_20 ?_
        refine g_istore_n C (L' := [(1, .int (m + (bcX (sg 3 i)))), (2, .int (nI i)), (0, .ref (ad w 1))]) rfl (by decide) rfl dX3_wornTeeth_21 ?_
        refine g_iinc C (n := 1) (v := (nI (i + 1))) (L' := [(2, .int (nI (i + 1))), (1, .int (m + (bcX (sg 3 i)))), (0, .ref (ad w 1))]) 1 rfl (nI_add i 1) (by decide) rfl dX3_wornTeeth_22 ?_
        refine g_goto C (tgt := 4) (by decide) dX3_wornTeeth_25 ?_
        refine g_sub (L' := [(2, .int (nI (i + 1))), (1, .int (m + (bcX (sg 3 i)))), (0, .ref (ad w 1))]) [0, 1, 2] rfl ?_
        exact ihlp (i + 1) (m + (bcX (sg 3 i))) (by omega) (by omega) (by rw [hI]; rfl)
  exact lp (6 + 1) 0 (nI 0) (by omega) (by omega) rfl
set_option maxRecDepth 100000 in
set_option maxHeartbeats 400000 in
theorem c_X3_setDrums_ok (w : GW) (tu : Int64) (sg : Sg) (n : Nat) (hn : n ≤ 999999) : Kt w yX3_setDrums cX3_setDrums 3 (some .int) 1 [.ref (ad w 1), .int (nI n)] sg tu (some (.int (Int64.toInt32 (vlY (sg 2) 6 0)))) (wrR sg 1 (inR n (rowC sg 1))) tu := by
  refine Kt.of2 RX3 rfl [(0, .ref (ad w 1)), (1, .int (nI n))] (by decide) rfl (Nat.le_of_ble_eq_true rfl) (fun z C E => ?_)
  refine g_iload_n C 1 rfl rfl dX3_setDrums_0 ?_
  refine g_i2l C dX3_setDrums_1 ?_
  refine g_lconst C (v := 0) (by decide) dX3_setDrums_2 ?_
  refine g_ldc2 C cn_X3_51 dX3_setDrums_3 ?_
  refine g_callN1 [] C (c_X4_within_t w tu sg (Int32.toInt64 (nI n)) 0 999999 (in_ok (n := 999999) (by omega) (by decide))) mt_X4_within nl_X3_45 st_X4_within (by decide) rfl (Nat.le_of_ble_eq_true rfl) dX3_setDrums_6 ?_
  refine g_eq (L' := [(0, .ref (ad w 1)), (1, .int (nI n))]) (S' := [.int (nI 1)]) rfl rfl rfl rfl ?_
  refine g_if_ne C (tgt := 15) (by decide) dX3_setDrums_9 (fun h9 => ?_) (fun h9 => absurd h9 (by decide))
  refine g_aload_n C 0 rfl rfl dX3_setDrums_15 ?_
  refine g_getR C (j := 0) cls3 e_1 rfl (by decide) fl_X3_9 dX3_setDrums_16 ?_
  refine g_callN1 [] C (c_X4_number_dig w tu sg  ) mt_X4_number nl_X3_53 st_X4_number (by decide) rfl (Nat.le_of_ble_eq_true rfl) dX3_setDrums_19 ?_
  refine g_eq (L' := [(0, .ref (ad w 1)), (1, .int (nI n))]) (S' := [.long (vlY (sg 2) 6 0)]) rfl rfl rfl rfl ?_
  refine g_l2i C dX3_setDrums_22 ?_
  refine g_istore_n C (L' := [(2, .int (Int64.toInt32 (vlY (sg 2) 6 0))), (0, .ref (ad w 1)), (1, .int (nI n))]) rfl (by decide) rfl dX3_setDrums_23 ?_
  refine g_aload_n C 1 rfl rfl dX3_setDrums_24 ?_
  refine g_getR C (j := 0) cls3 e_1 rfl (by decide) fl_X3_9 dX3_setDrums_25 ?_
  refine g_iload_n C 2 rfl rfl dX3_setDrums_28 ?_
  refine g_i2l C dX3_setDrums_29 ?_
  refine g_topl (y := lN n) (nI_l (by omega)) ?_
  refine g_callN1 [] C (c_X4_putFigures_dig w tu sg n hn) mt_X4_putFigures nl_X3_57 st_X4_putFigures (by decide) rfl (Nat.le_of_ble_eq_true rfl) dX3_setDrums_30 ?_
  refine g_eq (sg' := (us sg 2 (fun k => nI (n / 10 ^ k % 10)))) (L' := [(2, .int (Int64.toInt32 (vlY (sg 2) 6 0))), (0, .ref (ad w 1)), (1, .int (nI n))]) (S' := [.int (czX (sg 2) (fun k => nI (n / 10 ^ k % 10)) 0 6)]) rfl rfl rfl rfl ?_
  refine g_pop C rfl dX3_setDrums_33 ?_
  refine g_iload_n C 0 rfl rfl dX3_setDrums_34 ?_
  exact g_iret C E dX3_setDrums_35 rfl (wr_dig (fun j hj => by unfold inR; rw [fw_in (by omega)]) (fun j h1 h2 => by unfold inR; exact fw_out (by omega))) rfl
set_option maxRecDepth 100000 in
set_option maxHeartbeats 400000 in
theorem c_X3_setDrums_bad (w : GW) (tu : Int64) (sg : Sg) (v : Int32) (h : ¬ (0 ≤ Int32.toInt64 v ∧ Int32.toInt64 v ≤ 999999)) : Kt w yX3_setDrums cX3_setDrums 3 (some .int) 1 [.ref (ad w 1), .int v] sg tu (some (.int (-2))) sg tu := by
  refine Kt.of2 RX3 rfl [(0, .ref (ad w 1)), (1, .int v)] (by decide) rfl (Nat.le_of_ble_eq_true rfl) (fun z C E => ?_)
  refine g_iload_n C 1 rfl rfl dX3_setDrums_0 ?_
  refine g_i2l C dX3_setDrums_1 ?_
  refine g_lconst C (v := 0) (by decide) dX3_setDrums_2 ?_
  refine g_ldc2 C cn_X3_51 dX3_setDrums_3 ?_
  refine g_callN1 [] C (c_X4_within w tu sg (Int32.toInt64 v) 0 999999 ) mt_X4_within nl_X3_45 st_X4_within (by decide) rfl (Nat.le_of_ble_eq_true rfl) dX3_setDrums_6 ?_
  refine g_eq (L' := [(0, .ref (ad w 1)), (1, .int v)]) (S' := [.int (bI (0 ≤ (Int32.toInt64 v) ∧ (Int32.toInt64 v) ≤ 999999))]) rfl rfl rfl rfl ?_
  refine g_bif_ne C (tgt := 15) (by decide) dX3_setDrums_9 (fun h9 => absurd h9 h) (fun h9 => ?_)
  refine g_bipush C (v := (-2)) (by decide) dX3_setDrums_12 ?_
  exact g_iret C E dX3_setDrums_14 rfl Sq.rf rfl
set_option maxRecDepth 100000 in
set_option maxHeartbeats 400000 in
theorem c_X3_layWheels_ok (w : GW) (tu : Int64) (sg : Sg) (m : Nat) (hm : m ≤ 999999999999) : Kt w yX3_layWheels cX3_layWheels 3 (some .int) 1 [.ref (ad w 1), .long (lN m)] sg tu (some (.int (czX (sg 4) (fun k => nI (m / 10 ^ k % 10)) 0 12))) (wrR sg 1 (laR m (rowC sg 1))) tu := by
  refine Kt.of2 RX3 rfl [(0, .ref (ad w 1)), (1, .long (lN m))] (by decide) rfl (Nat.le_of_ble_eq_true rfl) (fun z C E => ?_)
  refine g_lload_n C 1 rfl rfl dX3_layWheels_0 ?_
  refine g_lconst C (v := 0) (by decide) dX3_layWheels_1 ?_
  refine g_ldc2 C cn_X3_77 dX3_layWheels_2 ?_
  refine g_callN1 [] C (c_X4_within_t w tu sg (lN m) 0 999999999999 ⟨(pk_lLE (a := 0) (by omega) (by omega)).mpr (Nat.zero_le _), (pk_lLE (b := 999999999999) (by omega) (by omega)).mpr hm⟩) mt_X4_within nl_X3_45 st_X4_within (by decide) rfl (Nat.le_of_ble_eq_true rfl) dX3_layWheels_5 ?_
  refine g_eq (L' := [(0, .ref (ad w 1)), (1, .long (lN m))]) (S' := [.int (nI 1)]) rfl rfl rfl rfl ?_
  refine g_if_eq C (tgt := 22) (by decide) dX3_layWheels_8 (fun h8 => absurd h8 (by decide)) (fun h8 => ?_)
  refine g_aload_n C 0 rfl rfl dX3_layWheels_11 ?_
  refine g_getR C (j := 2) cls3 e_1 rfl (by decide) fl_X3_18 dX3_layWheels_12 ?_
  refine g_lload_n C 1 rfl rfl dX3_layWheels_15 ?_
  refine g_callN1 [] C (c_X4_putFigures_whl w tu sg m hm) mt_X4_putFigures nl_X3_57 st_X4_putFigures (by decide) rfl (Nat.le_of_ble_eq_true rfl) dX3_layWheels_16 ?_
  refine g_eq (sg' := (us sg 4 (fun k => nI (m / 10 ^ k % 10)))) (L' := [(0, .ref (ad w 1)), (1, .long (lN m))]) (S' := [.int (czX (sg 4) (fun k => nI (m / 10 ^ k % 10)) 0 12)]) rfl rfl rfl rfl ?_
  refine g_goto C (tgt := 24) (by decide) dX3_layWheels_19 ?_
  exact g_iret C E dX3_layWheels_24 rfl (wr_whl (fun j hj => by unfold laR; rw [fw_in (by omega), Nat.add_sub_cancel_left]) (fun j h1 h2 => fw_out (by omega))) rfl
set_option maxRecDepth 100000 in
set_option maxHeartbeats 400000 in
theorem c_X3_layWheels_bad (w : GW) (tu : Int64) (sg : Sg) (v : Int64) (h : ¬ (0 ≤ v ∧ v ≤ 999999999999)) : Kt w yX3_layWheels cX3_layWheels 3 (some .int) 1 [.ref (ad w 1), .long v] sg tu (some (.int (-2))) sg tu := by
  refine Kt.of2 RX3 rfl [(0, .ref (ad w 1)), (1, .long v)] (by decide) rfl (Nat.le_of_ble_eq_true rfl) (fun z C E => ?_)
  refine g_lload_n C 1 rfl rfl dX3_layWheels_0 ?_
  refine g_lconst C (v := 0) (by decide) dX3_layWheels_1 ?_
  refine g_ldc2 C cn_X3_77 dX3_layWheels_2 ?_
  refine g_callN1 [] C (c_X4_within w tu sg v 0 999999999999 ) mt_X4_within nl_X3_45 st_X4_within (by decide) rfl (Nat.le_of_ble_eq_true rfl) dX3_layWheels_5 ?_
  refine g_eq (L' := [(0, .ref (ad w 1)), (1, .long v)]) (S' := [.int (bI (0 ≤ v ∧ v ≤ 999999999999))]) rfl rfl rfl rfl ?_
  refine g_bif_eq C (tgt := 22) (by decide) dX3_layWheels_8 (fun h8 => ?_) (fun h8 => absurd h8 h)
  refine g_bipush C (v := (-2)) (by decide) dX3_layWheels_22 ?_
  exact g_iret C E dX3_layWheels_24 rfl Sq.rf rfl
set_option maxRecDepth 100000 in
set_option maxHeartbeats 400000 in
theorem c_X3_clearAll (w : GW) (tu : Int64) (sg : Sg) : Kt w yX3_clearAll cX3_clearAll 1 (some .int) 1 [.ref (ad w 1)] sg tu (some (.int (czX (sg 4) (fun k => nI (0 / 10 ^ k % 10)) 0 12))) (wrR sg 1 (clR (rowC sg 1))) tu := by
  refine Kt.of2 RX3 rfl [(0, .ref (ad w 1))] (by decide) rfl (Nat.le_of_ble_eq_true rfl) (fun z C E => ?_)
  refine g_aload_n C 0 rfl rfl dX3_clearAll_0 ?_
  refine g_getR C (j := 3) cls3 e_1 rfl (by decide) fl_X3_21 dX3_clearAll_1 ?_
  refine g_iconst C (v := (nI 0)) (by decide) dX3_clearAll_4 ?_
  refine g_callS0 [] C (c_J7_fill_53178 w tu sg  ) mt_J7_fill_53178 ml_X3_71 st_J7_fill_53178 (by decide) rfl (Nat.le_of_ble_eq_true rfl) dX3_clearAll_5 ?_
  refine g_eq (sg' := (us sg 5 (fun _ => nI 0))) (L' := [(0, .ref (ad w 1))]) (S' := []) rfl rfl rfl rfl ?_
  refine g_aload_n C 0 rfl rfl dX3_clearAll_8 ?_
  refine g_getR C (j := 2) cls3 e_1 rfl (by decide) fl_X3_18 dX3_clearAll_9 ?_
  refine g_lconst C (v := 0) (by decide) dX3_clearAll_12 ?_
  refine g_topl (y := lN 0) rfl ?_
  refine g_callN1 [] C (c_X4_putFigures_whl w tu (us sg 5 (fun _ => nI 0)) 0 (by omega)) mt_X4_putFigures nl_X3_57 st_X4_putFigures (by decide) rfl (Nat.le_of_ble_eq_true rfl) dX3_clearAll_13 ?_
  refine g_eq (sg' := (us (us sg 5 (fun _ => nI 0)) 4 (fun k => nI (0 / 10 ^ k % 10)))) (L' := [(0, .ref (ad w 1))]) (S' := [.int (czX (sg 4) (fun k => nI (0 / 10 ^ k % 10)) 0 12)]) rfl rfl rfl rfl ?_
  exact g_iret C E dX3_clearAll_16 rfl (Sq.wr isW_1 (fldF (sg := sg) (fun j h1 h2 => clR_hi h1)) (fun j hj => ((clR_lo (by omega)).trans (rowC_d (sg := sg) (w := 1) hj)).symm) (fun j hj => ((clR_lo (by omega)).trans (rowC_o (sg := sg) (w := 1) hj)).symm) (fun j hj => by show nI (0 / 10 ^ j % 10) = _; unfold clR; rw [fw_out (by omega), fw_in (by omega), Nat.zero_div]) (fun j hj => by unfold clR; rw [fw_in (by omega)]; rfl) (fun k hk => by rw [us_ne (by omega), us_ne (by omega)])) rfl
def trC (re v n : Nat) : Int64 := if re = 0 then lN (v * n % 1000000) else if re = 1 then lN (v * n % 10000000) else lN (v * n)
set_option maxRecDepth 100000 in
set_option maxHeartbeats 400000 in
theorem c_X3_tried (w : GW) (tu : Int64) (sg : Sg) (v : Nat) (n : Nat) (re : Nat) (hv : v < 2 ^ 31) (hn : n ≤ 99) (hre : sg 1 5 = nI re) (hr : re ≤ 12) : Kt w yX3_tried cX3_tried 5 (some .long) 0 [.ref (ad w 1), .int (nI v), .int (nI n)] sg tu (some (.long (trC re v n))) sg tu := by
  refine Kt.of2 RX3 rfl [(0, .ref (ad w 1)), (1, .int (nI v)), (2, .int (nI n))] (by decide) rfl (Nat.le_of_ble_eq_true rfl) (fun z C E => ?_)
  refine g_iload_n C 1 rfl rfl dX3_tried_0 ?_
  refine g_i2l C dX3_tried_1 ?_
  refine g_iload_n C 2 rfl rfl dX3_tried_2 ?_
  refine g_i2l C dX3_tried_3 ?_
  refine g_lmul C dX3_tried_4 ?_
  refine g_lstore_n C (L' := [(3, .long ((Int32.toInt64 (nI v)) * (Int32.toInt64 (nI n)))), (0, .ref (ad w 1)), (1, .int (nI v)), (2, .int (nI n))]) rfl (by decide) rfl dX3_tried_5 ?_
  refine g_aload_n C 1 rfl rfl dX3_tried_6 ?_
  refine g_getI C (j := 5) cls3 e_1 rfl (by decide) fl_X3_28 dX3_tried_7 ?_
  refine g_top (y := (nI re)) hre ?_
  refine g_ifN_ne C re (by omega) (tgt := 19) (by decide) dX3_tried_10 (fun h10 => ?_) (fun h10 => ?_)
  ·
    refine g_aload_n C 1 rfl rfl dX3_tried_19 ?_
    refine g_getI C (j := 5) cls3 e_1 rfl (by decide) fl_X3_28 dX3_tried_20 ?_
    refine g_top (y := (nI re)) hre ?_
    refine g_iconst C (v := (nI 1)) (by decide) dX3_tried_23 ?_
    refine g_icmpN_ne C re 1 (by omega) (by omega) (tgt := 35) (by decide) dX3_tried_24 (fun h24 => ?_) (fun h24 => ?_)
    ·
      refine g_lload_n C 0 rfl rfl dX3_tried_35 ?_
      exact g_lret C E dX3_tried_36 (by unfold trC; rw [if_neg h10, if_neg h24, nI_l hv, nI_l (show n < 2 ^ 31 by omega), lN_mul]) Sq.rf rfl
    ·
      refine g_lload_n C 0 rfl rfl dX3_tried_27 ?_
      refine g_ldc2 C cn_X3_122 dX3_tried_28 ?_
      refine g_lrem C (by decide) dX3_tried_31 ?_
      refine g_goto C (tgt := 36) (by decide) dX3_tried_32 ?_
      exact g_lret C E dX3_tried_36 (by unfold trC; rw [if_neg h10, if_pos h24, nI_l hv, nI_l (show n < 2 ^ 31 by omega), lN_mul]; exact pk_lRem (show v * n < 2 ^ 63 from Nat.lt_of_lt_of_le (Nat.mul_lt_mul_of_lt_of_le hv (show n ≤ 2 ^ 31 by omega) (by decide)) (by decide)) (by decide) (by decide)) Sq.rf rfl
  ·
    refine g_lload_n C 0 rfl rfl dX3_tried_13 ?_
    refine g_ldc2 C cn_X3_120 dX3_tried_14 ?_
    refine g_lrem C (by decide) dX3_tried_17 ?_
    exact g_lret C E dX3_tried_18 (by unfold trC; rw [if_pos h10, nI_l hv, nI_l (show n < 2 ^ 31 by omega), lN_mul]; exact pk_lRem (show v * n < 2 ^ 63 from Nat.lt_of_lt_of_le (Nat.mul_lt_mul_of_lt_of_le hv (show n ≤ 2 ^ 31 by omega) (by decide)) (by decide)) (by decide) (by decide)) Sq.rf rfl
