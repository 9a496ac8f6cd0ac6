set_option maxRecDepth 100000 in
set_option maxHeartbeats 400000 in
theorem c_X5_valueOf_now (w : GW) (tu : Int64) (sg : Sg) : Kt w yX5_valueOf cX5_valueOf 5 (some .long) 0 [.ref (ad w 45), .int (nI 12)] sg tu (some (.long (vlX (sg 45) 12 12 0))) sg tu := by
  refine Kt.of2 RX5 rfl [(0, .ref (ad w 45)), (1, .int (nI 12))] (by decide) rfl (Nat.le_of_ble_eq_true rfl) (fun z C E => ?_)
  refine g_lconst C (v := 0) (by decide) dX5_valueOf_0 ?_
  refine g_lstore_n C (L' := [(2, .long 0), (0, .ref (ad w 45)), (1, .int (nI 12))]) rfl (by decide) rfl dX5_valueOf_1 ?_
  refine g_bipush C (v := (nI 11)) (by decide) dX5_valueOf_2 ?_
  refine g_istore C (L' := [(4, .int (nI 11)), (2, .long 0), (0, .ref (ad w 45)), (1, .int (nI 12))]) (by decide) rfl dX5_valueOf_4 ?_
  have lp : ∀ (r : Nat) (v : Int64), r ≤ 12 → (vlX (sg 45) 12 r v = vlX (sg 45) 12 12 0) → G z w 5 sg tu 6 [(4, .int (nI r + (-1))), (2, .long v), (0, .ref (ad w 45)), (1, .int (nI 12))] [] := by
    intro r
    induction r with
    | zero =>
      intro v h2 hI
      refine g_iload C 0 rfl dX5_valueOf_6 ?_
      refine g_if_lt C (tgt := 31) (by decide) dX5_valueOf_8 (fun h8 => ?_) (fun h8 => absurd (by decide) h8)
      refine g_lload_n C 1 rfl rfl dX5_valueOf_31 ?_
      exact g_lret C E dX5_valueOf_32 hI Sq.rf rfl
    | succ r ih =>
      intro v h2 hI
      refine g_eq (L' := [(4, .int (nI r)), (2, .long v), (0, .ref (ad w 45)), (1, .int (nI 12))]) rfl rfl (by rw [pk_m1]) rfl ?_
      refine g_iload C 0 rfl dX5_valueOf_6 ?_
      refine g_if_lt C (tgt := 31) (by decide) dX5_valueOf_8 (fun h8 => absurd h8 (nI_pos (by omega))) (fun h8 => ?_)
      refine g_ldc2 C cn_X5_112 dX5_valueOf_11 ?_
      refine g_lload_n C 1 rfl rfl dX5_valueOf_14 ?_
      refine g_lmul C dX5_valueOf_15 ?_
      refine g_aload_n C 2 rfl rfl dX5_valueOf_16 ?_
      refine g_iload_n C 3 rfl rfl dX5_valueOf_17 ?_
      refine g_iload C 0 rfl dX5_valueOf_18 ?_
      refine g_iadd C dX5_valueOf_20 ?_
      refine g_top (y := (nI (12 + r))) (nI_add 12 r) ?_
      refine g_ialdN C (12 + r) e_45 (by omega) (by decide) dX5_valueOf_21 ?_
      refine g_i2l C dX5_valueOf_22 ?_
      refine g_ladd C dX5_valueOf_23 ?_
      refine g_lstore_n C (L' := [(2, .long ((10 * v) + (Int32.toInt64 (sg 45 (12 + r))))), (4, .int (nI r)), (0, .ref (ad w 45)), (1, .int (nI 12))]) rfl (by decide) rfl dX5_valueOf_24 ?_
      refine g_iinc C (n := -1) (v := ((nI r) + (-1))) (L' := [(4, .int ((nI r) + (-1))), (2, .long ((10 * v) + (Int32.toInt64 (sg 45 (12 + r))))), (0, .ref (ad w 45)), (1, .int (nI 12))]) 1 rfl rfl (by decide) rfl dX5_valueOf_25 ?_
      refine g_goto C (tgt := 6) (by decide) dX5_valueOf_28 ?_
      refine g_sub (L' := [(4, .int ((nI r) + (-1))), (2, .long ((10 * v) + (Int32.toInt64 (sg 45 (12 + r))))), (0, .ref (ad w 45)), (1, .int (nI 12))]) [0, 1, 2, 3] rfl ?_
      exact ih ((10 * v) + (Int32.toInt64 (sg 45 (12 + r)))) (by omega) hI
  refine g_eq (L' := [(4, .int (nI 12 + (-1))), (2, .long 0), (0, .ref (ad w 45)), (1, .int (nI 12))]) rfl rfl rfl rfl ?_
  refine g_sub (L' := [(4, .int (nI 12 + (-1))), (2, .long 0), (0, .ref (ad w 45)), (1, .int (nI 12))]) [0, 1, 2, 3] rfl ?_
  exact lp 12 0 (by omega) rfl
set_option maxRecDepth 100000 in
set_option maxHeartbeats 400000 in
theorem c_X5_valueOf_tri (w : GW) (tu : Int64) (sg : Sg) : Kt w yX5_valueOf cX5_valueOf 5 (some .long) 0 [.ref (ad w 51), .int (nI 0)] sg tu (some (.long (vlX (sg 51) 0 12 0))) sg tu := by
  refine Kt.of2 RX5 rfl [(0, .ref (ad w 51)), (1, .int (nI 0))] (by decide) rfl (Nat.le_of_ble_eq_true rfl) (fun z C E => ?_)
  refine g_lconst C (v := 0) (by decide) dX5_valueOf_0 ?_
  refine g_lstore_n C (L' := [(2, .long 0), (0, .ref (ad w 51)), (1, .int (nI 0))]) rfl (by decide) rfl dX5_valueOf_1 ?_
  refine g_bipush C (v := (nI 11)) (by decide) dX5_valueOf_2 ?_
  refine g_istore C (L' := [(4, .int (nI 11)), (2, .long 0), (0, .ref (ad w 51)), (1, .int (nI 0))]) (by decide) rfl dX5_valueOf_4 ?_
  have lp : ∀ (r : Nat) (v : Int64), r ≤ 12 → (vlX (sg 51) 0 r v = vlX (sg 51) 0 12 0) → G z w 5 sg tu 6 [(4, .int (nI r + (-1))), (2, .long v), (0, .ref (ad w 51)), (1, .int (nI 0))] [] := by
    intro r
    induction r with
    | zero =>
      intro v h2 hI
      refine g_iload C 0 rfl dX5_valueOf_6 ?_
      refine g_if_lt C (tgt := 31) (by decide) dX5_valueOf_8 (fun h8 => ?_) (fun h8 => absurd (by decide) h8)
      refine g_lload_n C 1 rfl rfl dX5_valueOf_31 ?_
      exact g_lret C E dX5_valueOf_32 hI Sq.rf rfl
    | succ r ih =>
      intro v h2 hI
      refine g_eq (L' := [(4, .int (nI r)), (2, .long v), (0, .ref (ad w 51)), (1, .int (nI 0))]) rfl rfl (by rw [pk_m1]) rfl ?_
      refine g_iload C 0 rfl dX5_valueOf_6 ?_
      refine g_if_lt C (tgt := 31) (by decide) dX5_valueOf_8 (fun h8 => absurd h8 (nI_pos (by omega))) (fun h8 => ?_)
      refine g_ldc2 C cn_X5_112 dX5_valueOf_11 ?_
      refine g_lload_n C 1 rfl rfl dX5_valueOf_14 ?_
      refine g_lmul C dX5_valueOf_15 ?_
      refine g_aload_n C 2 rfl rfl dX5_valueOf_16 ?_
      refine g_iload_n C 3 rfl rfl dX5_valueOf_17 ?_
      refine g_iload C 0 rfl dX5_valueOf_18 ?_
      refine g_iadd C dX5_valueOf_20 ?_
      refine g_top (y := (nI r)) (by rw [nI_add, Nat.zero_add]) ?_
      refine g_ialdN C r e_51 (by omega) (by decide) dX5_valueOf_21 ?_
      refine g_i2l C dX5_valueOf_22 ?_
      refine g_ladd C dX5_valueOf_23 ?_
      refine g_lstore_n C (L' := [(2, .long ((10 * v) + (Int32.toInt64 (sg 51 r)))), (4, .int (nI r)), (0, .ref (ad w 51)), (1, .int (nI 0))]) rfl (by decide) rfl dX5_valueOf_24 ?_
      refine g_iinc C (n := -1) (v := ((nI r) + (-1))) (L' := [(4, .int ((nI r) + (-1))), (2, .long ((10 * v) + (Int32.toInt64 (sg 51 r)))), (0, .ref (ad w 51)), (1, .int (nI 0))]) 1 rfl rfl (by decide) rfl dX5_valueOf_25 ?_
      refine g_goto C (tgt := 6) (by decide) dX5_valueOf_28 ?_
      refine g_sub (L' := [(4, .int ((nI r) + (-1))), (2, .long ((10 * v) + (Int32.toInt64 (sg 51 r)))), (0, .ref (ad w 51)), (1, .int (nI 0))]) [0, 1, 2, 3] rfl ?_
      exact ih ((10 * v) + (Int32.toInt64 (sg 51 r))) (by omega) (by have h9 := hI; unfold vlX at h9; rw [Nat.zero_add] at h9; exact h9)
  refine g_eq (L' := [(4, .int (nI 12 + (-1))), (2, .long 0), (0, .ref (ad w 51)), (1, .int (nI 0))]) rfl rfl rfl rfl ?_
  refine g_sub (L' := [(4, .int (nI 12 + (-1))), (2, .long 0), (0, .ref (ad w 51)), (1, .int (nI 0))]) [0, 1, 2, 3] rfl ?_
  exact lp 12 0 (by omega) rfl
set_option maxRecDepth 100000 in
set_option maxHeartbeats 400000 in
theorem c_X5_value (w : GW) (tu : Int64) (sg : Sg) : Kt w yX5_value cX5_value 1 (some .long) 1 [.ref (ad w 44)] sg tu (some (.long (vlX (sg 45) 12 12 0))) sg tu := by
  refine Kt.of2 RX5 rfl [(0, .ref (ad w 44))] (by decide) rfl (Nat.le_of_ble_eq_true rfl) (fun z C E => ?_)
  refine g_aload_n C 0 rfl rfl dX5_value_0 ?_
  refine g_getR C (j := 0) cls5 e_44 rfl (by decide) fl_X5_7 dX5_value_1 ?_
  refine g_bipush C (v := (nI 12)) (by decide) dX5_value_4 ?_
  refine g_callS1 [] C (c_X5_valueOf_now w tu sg  ) mt_X5_valueOf ml_X5_158 st_X5_valueOf (by decide) rfl (Nat.le_of_ble_eq_true rfl) dX5_value_6 ?_
  refine g_eq (L' := [(0, .ref (ad w 44))]) (S' := [.long (vlX (sg 45) 12 12 0)]) rfl rfl rfl rfl ?_
  exact g_lret C E dX5_value_9 rfl Sq.rf rfl
set_option maxRecDepth 100000 in
set_option maxHeartbeats 400000 in
theorem c_X5_putInput_ok (w : GW) (tu : Int64) (sg : Sg) (n : Nat) (hn : n ≤ 999999) : Kt w yX5_putInput cX5_putInput 5 (some .int) 1 [.ref (ad w 44), .int (nI n)] sg tu (some (.int (nbX (sg 45) 0 6 (nI 0)))) (us sg 45 (inR n (sg 45))) tu := by
  refine Kt.of2 RX5 rfl [(0, .ref (ad w 44)), (1, .int (nI n))] (by decide) rfl (Nat.le_of_ble_eq_true rfl) (fun z C E => ?_)
  refine g_iload_n C 1 rfl rfl dX5_putInput_0 ?_
  refine g_i2l C dX5_putInput_1 ?_
  refine g_lconst C (v := 0) (by decide) dX5_putInput_2 ?_
  refine g_ldc2 C cn_X5_77 dX5_putInput_3 ?_
  refine g_callS1 [] C (c_X5_in_t w tu sg (Int32.toInt64 (nI n)) 0 999999 (in_ok (n := 999999) (by omega) (by decide))) mt_X5_in ml_X5_53 st_X5_in (by decide) rfl (Nat.le_of_ble_eq_true rfl) dX5_putInput_6 ?_
  refine g_eq (L' := [(0, .ref (ad w 44)), (1, .int (nI n))]) (S' := [.int (nI 1)]) rfl rfl rfl rfl ?_
  refine g_if_ne C (tgt := 15) (by decide) dX5_putInput_9 (fun h9 => ?_) (fun h9 => absurd h9 (by decide))
  refine g_aload_n C 0 rfl rfl dX5_putInput_15 ?_
  refine g_getR C (j := 0) cls5 e_44 rfl (by decide) fl_X5_7 dX5_putInput_16 ?_
  refine g_iconst C (v := (nI 0)) (by decide) dX5_putInput_19 ?_
  refine g_bipush C (v := (nI 6)) (by decide) dX5_putInput_20 ?_
  refine g_callS1 [] C (c_X5_number_dig w tu sg  ) mt_X5_number ml_X5_106 st_X5_number (by decide) rfl (Nat.le_of_ble_eq_true rfl) dX5_putInput_22 ?_
  refine g_eq (L' := [(0, .ref (ad w 44)), (1, .int (nI n))]) (S' := [.int (nbX (sg 45) 0 6 (nI 0))]) rfl rfl rfl rfl ?_
  refine g_istore_n C (L' := [(2, .int (nbX (sg 45) 0 6 (nI 0))), (0, .ref (ad w 44)), (1, .int (nI n))]) rfl (by decide) rfl dX5_putInput_25 ?_
  refine g_iload_n C 2 rfl rfl dX5_putInput_26 ?_
  refine g_istore_n C (L' := [(3, .int (nI n)), (2, .int (nbX (sg 45) 0 6 (nI 0))), (0, .ref (ad w 44)), (1, .int (nI n))]) rfl (by decide) rfl dX5_putInput_27 ?_
  refine g_iconst C (v := (nI 0)) (by decide) dX5_putInput_28 ?_
  refine g_istore C (L' := [(4, .int (nI 0)), (3, .int (nI n)), (2, .int (nbX (sg 45) 0 6 (nI 0))), (0, .ref (ad w 44)), (1, .int (nI n))]) (by decide) rfl dX5_putInput_29 ?_
  refine g_eq (L' := [(4, .int (nI 0)), (3, .int (nI (n / 10 ^ 0))), (2, .int (nbX (sg 45) 0 6 (nI 0))), (0, .ref (ad w 44)), (1, .int (nI n))]) rfl rfl (by rw [Nat.pow_zero, Nat.div_one]) rfl ?_
  have lp : ∀ (nf i : Nat), 6 < i + nf → i ≤ 6 → (True) → G z w 5 (us sg 45 (fw 0 (fun d => nI (n / 10 ^ d % 10)) (sg 45) i)) tu 31 [(4, .int (nI i)), (3, .int (nI (n / 10 ^ i))), (2, .int (nbX (sg 45) 0 6 (nI 0))), (0, .ref (ad w 44)), (1, .int (nI n))] [] := by
    intro nf
    induction nf with
    | zero => intro i  h1 h2 hI; exact absurd h1 (by omega)
    | succ nf ihlp =>
      intro i  h1 h2 hI
      have hle : n / 10 ^ i ≤ 999999 := Nat.le_trans (Nat.div_le_self _ _) hn
      refine g_iload C 0 rfl dX5_putInput_31 ?_
      refine g_bipush C (v := (nI 6)) (by decide) dX5_putInput_33 ?_
      refine g_icmpN_ge C i 6 (by omega) (by omega) (tgt := 62) (by decide) dX5_putInput_35 (fun h35 => ?_) (fun h35 => ?_)
      ·
        have hiN : 6 = i := by omega
        subst hiN
        refine g_iload_n C 2 rfl rfl dX5_putInput_62 ?_
        exact g_iret C E dX5_putInput_63 rfl Sq.rf rfl
      ·
        refine g_aload_n C 3 rfl rfl dX5_putInput_38 ?_
        refine g_getR C (j := 0) cls5 e_44 rfl (by decide) fl_X5_7 dX5_putInput_39 ?_
        refine g_iconst C (v := (nI 0)) (by decide) dX5_putInput_42 ?_
        refine g_iload C 0 rfl dX5_putInput_43 ?_
        refine g_iadd C dX5_putInput_45 ?_
        refine g_top (y := (nI i)) (by rw [nI_add, Nat.zero_add]) ?_
        refine g_iload_n C 1 rfl rfl dX5_putInput_46 ?_
        refine g_bipush C (v := (nI 10)) (by decide) dX5_putInput_47 ?_
        refine g_irem C (by decide) dX5_putInput_49 ?_
        refine g_top (y := (nI ((n / 10 ^ i) % 10))) (pk_rem (show n / 10 ^ i < 2 ^ 31 by omega) (by decide) (by decide)) ?_
        refine g_iastN C i e_45 (by omega) (by decide) dX5_putInput_50 ?_
        refine g_sgE (sg' := (us sg 45 (upd (fw 0 (fun d => nI (n / 10 ^ d % 10)) (sg 45) i) i (nI ((n / 10 ^ i) % 10))))) us_us ?_
        refine g_iload_n C 1 rfl rfl dX5_putInput_51 ?_
        refine g_bipush C (v := (nI 10)) (by decide) dX5_putInput_52 ?_
        refine g_idiv C (by decide) dX5_putInput_54 ?_
        refine g_top (y := (nI ((n / 10 ^ i) / 10))) (pk_div (show n / 10 ^ i < 2 ^ 31 by omega) (by decide) (by decide)) ?_
        refine g_istore_n C (L' := [(3, .int (nI ((n / 10 ^ i) / 10))), (4, .int (nI i)), (2, .int (nbX (sg 45) 0 6 (nI 0))), (0, .ref (ad w 44)), (1, .int (nI n))]) rfl (by decide) rfl dX5_putInput_55 ?_
        refine g_iinc C (n := 1) (v := (nI (i + 1))) (L' := [(4, .int (nI (i + 1))), (3, .int (nI ((n / 10 ^ i) / 10))), (2, .int (nbX (sg 45) 0 6 (nI 0))), (0, .ref (ad w 44)), (1, .int (nI n))]) 1 rfl (nI_add i 1) (by decide) rfl dX5_putInput_56 ?_
        refine g_goto C (tgt := 31) (by decide) dX5_putInput_59 ?_
        refine g_sub (L' := [(4, .int (nI (i + 1))), (3, .int (nI ((n / 10 ^ i) / 10))), (2, .int (nbX (sg 45) 0 6 (nI 0))), (0, .ref (ad w 44)), (1, .int (nI n))]) [0, 1, 2, 3, 4] rfl ?_
        refine g_eq (L' := [(4, .int (nI (i + 1))), (3, .int (nI (n / 10 ^ (i + 1)))), (2, .int (nbX (sg 45) 0 6 (nI 0))), (0, .ref (ad w 44)), (1, .int (nI n))]) rfl rfl (by rw [dp10]) rfl ?_
        refine g_sgE (sg' := (us sg 45 (fw 0 (fun d => nI (n / 10 ^ d % 10)) (sg 45) (i + 1)))) (congrArg (us sg 45) (fw_s0 rfl)) ?_
        exact ihlp (i + 1)  (by omega) (by omega) trivial
  refine g_sgE (sg' := (us sg 45 (fw 0 (fun d => nI (n / 10 ^ d % 10)) (sg 45) 0))) (by rw [fw_0, us_id]) ?_
  exact lp (6 + 1) 0  (by omega) (by omega) trivial
set_option maxRecDepth 100000 in
set_option maxHeartbeats 400000 in
theorem c_X5_putInput_bad (w : GW) (tu : Int64) (sg : Sg) (v : Int32) (h : ¬ (0 ≤ Int32.toInt64 v ∧ Int32.toInt64 v ≤ 999999)) : Kt w yX5_putInput cX5_putInput 5 (some .int) 1 [.ref (ad w 44), .int v] sg tu (some (.int (-2))) sg tu := by
  refine Kt.of2 RX5 rfl [(0, .ref (ad w 44)), (1, .int v)] (by decide) rfl (Nat.le_of_ble_eq_true rfl) (fun z C E => ?_)
  refine g_iload_n C 1 rfl rfl dX5_putInput_0 ?_
  refine g_i2l C dX5_putInput_1 ?_
  refine g_lconst C (v := 0) (by decide) dX5_putInput_2 ?_
  refine g_ldc2 C cn_X5_77 dX5_putInput_3 ?_
  refine g_callS1 [] C (c_X5_in w tu sg (Int32.toInt64 v) 0 999999 ) mt_X5_in ml_X5_53 st_X5_in (by decide) rfl (Nat.le_of_ble_eq_true rfl) dX5_putInput_6 ?_
  refine g_eq (L' := [(0, .ref (ad w 44)), (1, .int v)]) (S' := [.int (bI (0 ≤ (Int32.toInt64 v) ∧ (Int32.toInt64 v) ≤ 999999))]) rfl rfl rfl rfl ?_
  refine g_bif_ne C (tgt := 15) (by decide) dX5_putInput_9 (fun h9 => absurd h9 h) (fun h9 => ?_)
  refine g_bipush C (v := (-2)) (by decide) dX5_putInput_12 ?_
  exact g_iret C E dX5_putInput_14 rfl Sq.rf rfl
set_option maxRecDepth 100000 in
set_option maxHeartbeats 400000 in
theorem c_X5_putWheels_ok (w : GW) (tu : Int64) (sg : Sg) (m : Nat) (hm : m ≤ 999999999999) : Kt w yX5_putWheels cX5_putWheels 8 (some .int) 1 [.ref (ad w 44), .long (lN m)] sg tu (some (.int (czX (sg 45) (fun k => nI (m / 10 ^ k % 10)) 12 12))) (us sg 45 (laR m (sg 45))) tu := by
  refine Kt.of2 RX5 rfl [(0, .ref (ad w 44)), (1, .long (lN m))] (by decide) rfl (Nat.le_of_ble_eq_true rfl) (fun z C E => ?_)
  refine g_lload_n C 1 rfl rfl dX5_putWheels_0 ?_
  refine g_lconst C (v := 0) (by decide) dX5_putWheels_1 ?_
  refine g_ldc2 C cn_X5_110 dX5_putWheels_2 ?_
  refine g_callS1 [] C (c_X5_in_t w tu sg (lN m) 0 999999999999 ⟨(pk_lLE (a := 0) (by omega) (by omega)).mpr (Nat.zero_le _), (pk_lLE (b := 999999999999) (by omega) (by omega)).mpr hm⟩) mt_X5_in ml_X5_53 st_X5_in (by decide) rfl (Nat.le_of_ble_eq_true rfl) dX5_putWheels_5 ?_
  refine g_eq (L' := [(0, .ref (ad w 44)), (1, .long (lN m))]) (S' := [.int (nI 1)]) rfl rfl rfl rfl ?_
  refine g_if_ne C (tgt := 14) (by decide) dX5_putWheels_8 (fun h8 => ?_) (fun h8 => absurd h8 (by decide))
  refine g_lload_n C 1 rfl rfl dX5_putWheels_14 ?_
  refine g_lstore_n C (L' := [(3, .long (lN m)), (0, .ref (ad w 44)), (1, .long (lN m))]) rfl (by decide) rfl dX5_putWheels_15 ?_
  refine g_iconst C (v := (nI 0)) (by decide) dX5_putWheels_16 ?_
  refine g_istore C (L' := [(5, .int (nI 0)), (3, .long (lN m)), (0, .ref (ad w 44)), (1, .long (lN m))]) (by decide) rfl dX5_putWheels_17 ?_
  refine g_iconst C (v := (nI 0)) (by decide) dX5_putWheels_19 ?_
  refine g_istore C (L' := [(6, .int (nI 0)), (5, .int (nI 0)), (3, .long (lN m)), (0, .ref (ad w 44)), (1, .long (lN m))]) (by decide) rfl dX5_putWheels_20 ?_
  refine g_eq (L' := [(6, .int (nI 0)), (5, .int (nI 0)), (3, .long (lN (m / 10 ^ 0))), (0, .ref (ad w 44)), (1, .long (lN m))]) rfl rfl (by rw [Nat.pow_zero, Nat.div_one]) rfl ?_
  have lp : ∀ (nf i : Nat) (c : Int32), 12 < i + nf → i ≤ 12 → (c = czX (sg 45) (fun k => nI (m / 10 ^ k % 10)) 12 i) → G z w 8 (us sg 45 (fw 12 (fun j => nI (m / 10 ^ (j - 12) % 10)) (sg 45) i)) tu 22 [(6, .int (nI i)), (5, .int c), (3, .long (lN (m / 10 ^ i))), (0, .ref (ad w 44)), (1, .long (lN m))] [] := by
    intro nf
    induction nf with
    | zero => intro i c h1 h2 hI; exact absurd h1 (by omega)
    | succ nf ihlp =>
      intro i c h1 h2 hI
      have hle : m / 10 ^ i ≤ 999999999999 := Nat.le_trans (Nat.div_le_self _ _) hm
      refine g_iload C 0 rfl dX5_putWheels_22 ?_
      refine g_bipush C (v := (nI 12)) (by decide) dX5_putWheels_24 ?_
      refine g_icmpN_ge C i 12 (by omega) (by omega) (tgt := 86) (by decide) dX5_putWheels_26 (fun h26 => ?_) (fun h26 => ?_)
      ·
        have hiN : 12 = i := by omega
        subst hiN
        refine g_iload C 1 rfl dX5_putWheels_86 ?_
        exact g_iret C E dX5_putWheels_88 hI Sq.rf rfl
      ·
        refine g_lload_n C 2 rfl rfl dX5_putWheels_29 ?_
        refine g_ldc2 C cn_X5_112 dX5_putWheels_30 ?_
        refine g_lrem C (by decide) dX5_putWheels_33 ?_
        refine g_topl (y := lN (m / 10 ^ i % 10)) (pk_lRem (by omega) (by decide) (by decide)) ?_
        refine g_l2i C dX5_putWheels_34 ?_
        refine g_top (y := (nI (m / 10 ^ i % 10))) (lN_i _) ?_
        refine g_istore C (L' := [(7, .int (nI (m / 10 ^ i % 10))), (6, .int (nI i)), (5, .int c), (3, .long (lN (m / 10 ^ i))), (0, .ref (ad w 44)), (1, .long (lN m))]) (by decide) rfl dX5_putWheels_35 ?_
        refine g_iload C 2 rfl dX5_putWheels_37 ?_
        refine g_aload_n C 4 rfl rfl dX5_putWheels_39 ?_
        refine g_getR C (j := 0) cls5 e_44 rfl (by decide) fl_X5_7 dX5_putWheels_40 ?_
        refine g_bipush C (v := (nI 12)) (by decide) dX5_putWheels_43 ?_
        refine g_iload C 1 rfl dX5_putWheels_45 ?_
        refine g_iadd C dX5_putWheels_47 ?_
        refine g_top (y := (nI (12 + i))) (nI_add 12 i) ?_
        refine g_ialdN C (12 + i) e_45 (by omega) (by decide) dX5_putWheels_48 ?_
        refine g_top (y := ((fw 12 (fun j => nI (m / 10 ^ (j - 12) % 10)) (sg 45) i) (12 + i))) rfl ?_
        refine g_top (y := (sg 45 (12 + i))) (fw_out (by omega)) ?_
        refine g_iload C 0 rfl dX5_putWheels_49 ?_
        refine g_icmp_eq C (tgt := 58) (by decide) dX5_putWheels_51 (fun h51 => ?_) (fun h51 => ?_)
        ·
          refine g_iconst C (v := (nI 0)) (by decide) dX5_putWheels_58 ?_
          refine g_iadd C dX5_putWheels_59 ?_
          refine g_istore C (L' := [(5, .int (c + (nI 0))), (7, .int (nI (m / 10 ^ i % 10))), (6, .int (nI i)), (3, .long (lN (m / 10 ^ i))), (0, .ref (ad w 44)), (1, .long (lN m))]) (by decide) rfl dX5_putWheels_60 ?_
          refine g_aload_n C 4 rfl rfl dX5_putWheels_62 ?_
          refine g_getR C (j := 0) cls5 e_44 rfl (by decide) fl_X5_7 dX5_putWheels_63 ?_
          refine g_bipush C (v := (nI 12)) (by decide) dX5_putWheels_66 ?_
          refine g_iload C 2 rfl dX5_putWheels_68 ?_
          refine g_iadd C dX5_putWheels_70 ?_
          refine g_top (y := (nI (12 + i))) (nI_add 12 i) ?_
          refine g_iload C 1 rfl dX5_putWheels_71 ?_
          refine g_iastN C (12 + i) e_45 (by omega) (by decide) dX5_putWheels_73 ?_
          refine g_sgE (sg' := (us sg 45 (upd (fw 12 (fun j => nI (m / 10 ^ (j - 12) % 10)) (sg 45) i) (12 + i) (nI (m / 10 ^ i % 10))))) us_us ?_
          refine g_lload_n C 3 rfl rfl dX5_putWheels_74 ?_
          refine g_ldc2 C cn_X5_112 dX5_putWheels_75 ?_
          refine g_ldiv C (by decide) dX5_putWheels_78 ?_
          refine g_topl (y := lN (m / 10 ^ i / 10)) (pk_lDiv (by omega) (by decide) (by decide)) ?_
          refine g_lstore_n C (L' := [(3, .long (lN (m / 10 ^ i / 10))), (5, .int (c + (nI 0))), (7, .int (nI (m / 10 ^ i % 10))), (6, .int (nI i)), (0, .ref (ad w 44)), (1, .long (lN m))]) rfl (by decide) rfl dX5_putWheels_79 ?_
          refine g_iinc C (n := 1) (v := (nI (i + 1))) (L' := [(6, .int (nI (i + 1))), (3, .long (lN (m / 10 ^ i / 10))), (5, .int (c + (nI 0))), (7, .int (nI (m / 10 ^ i % 10))), (0, .ref (ad w 44)), (1, .long (lN m))]) 3 rfl (nI_add i 1) (by decide) rfl dX5_putWheels_80 ?_
          refine g_goto C (tgt := 22) (by decide) dX5_putWheels_83 ?_
          refine g_sub (L' := [(6, .int (nI (i + 1))), (5, .int (c + (nI 0))), (3, .long (lN (m / 10 ^ i / 10))), (0, .ref (ad w 44)), (1, .long (lN m))]) [0, 2, 1, 4, 5] rfl ?_
          refine g_eq (L' := [(6, .int (nI (i + 1))), (5, .int (c + (nI 0))), (3, .long (lN (m / 10 ^ (i + 1)))), (0, .ref (ad w 44)), (1, .long (lN m))]) rfl rfl (by rw [dp10]) rfl ?_
          refine g_sgE (sg' := (us sg 45 (fw 12 (fun j => nI (m / 10 ^ (j - 12) % 10)) (sg 45) (i + 1)))) (congrArg (us sg 45) (fw_s (by rw [Nat.add_sub_cancel_left]))) ?_
          exact ihlp (i + 1) (c + (nI 0)) (by omega) (by omega) (by rw [hI, czX_t h51])
        ·
          refine g_iconst C (v := (nI 1)) (by decide) dX5_putWheels_54 ?_
          refine g_goto C (tgt := 59) (by decide) dX5_putWheels_55 ?_
          refine g_iadd C dX5_putWheels_59 ?_
          refine g_istore C (L' := [(5, .int (c + (nI 1))), (7, .int (nI (m / 10 ^ i % 10))), (6, .int (nI i)), (3, .long (lN (m / 10 ^ i))), (0, .ref (ad w 44)), (1, .long (lN m))]) (by decide) rfl dX5_putWheels_60 ?_
          refine g_aload_n C 4 rfl rfl dX5_putWheels_62 ?_
          refine g_getR C (j := 0) cls5 e_44 rfl (by decide) fl_X5_7 dX5_putWheels_63 ?_
          refine g_bipush C (v := (nI 12)) (by decide) dX5_putWheels_66 ?_
          refine g_iload C 2 rfl dX5_putWheels_68 ?_
          refine g_iadd C dX5_putWheels_70 ?_
          refine g_top (y := (nI (12 + i))) (nI_add 12 i) ?_
          refine g_iload C 1 rfl dX5_putWheels_71 ?_
          refine g_iastN C (12 + i) e_45 (by omega) (by decide) dX5_putWheels_73 ?_
          refine g_sgE (sg' := (us sg 45 (upd (fw 12 (fun j => nI (m / 10 ^ (j - 12) % 10)) (sg 45) i) (12 + i) (nI (m / 10 ^ i % 10))))) us_us ?_
          refine g_lload_n C 3 rfl rfl dX5_putWheels_74 ?_
          refine g_ldc2 C cn_X5_112 dX5_putWheels_75 ?_
          refine g_ldiv C (by decide) dX5_putWheels_78 ?_
          refine g_topl (y := lN (m / 10 ^ i / 10)) (pk_lDiv (by omega) (by decide) (by decide)) ?_
          refine g_lstore_n C (L' := [(3, .long (lN (m / 10 ^ i / 10))), (5, .int (c + (nI 1))), (7, .int (nI (m / 10 ^ i % 10))), (6, .int (nI i)), (0, .ref (ad w 44)), (1, .long (lN m))]) rfl (by decide) rfl dX5_putWheels_79 ?_
          refine g_iinc C (n := 1) (v := (nI (i + 1))) (L' := [(6, .int (nI (i + 1))), (3, .long (lN (m / 10 ^ i / 10))), (5, .int (c + (nI 1))), (7, .int (nI (m / 10 ^ i % 10))), (0, .ref (ad w 44)), (1, .long (lN m))]) 3 rfl (nI_add i 1) (by decide) rfl dX5_putWheels_80 ?_
          refine g_goto C (tgt := 22) (by decide) dX5_putWheels_83 ?_
          refine g_sub (L' := [(6, .int (nI (i + 1))), (5, .int (c + (nI 1))), (3, .long (lN (m / 10 ^ i / 10))), (0, .ref (ad w 44)), (1, .long (lN m))]) [0, 2, 1, 4, 5] rfl ?_
          refine g_eq (L' := [(6, .int (nI (i + 1))), (5, .int (c + (nI 1))), (3, .long (lN (m / 10 ^ (i + 1)))), (0, .ref (ad w 44)), (1, .long (lN m))]) rfl rfl (by rw [dp10]) rfl ?_
          refine g_sgE (sg' := (us sg 45 (fw 12 (fun j => nI (m / 10 ^ (j - 12) % 10)) (sg 45) (i + 1)))) (congrArg (us sg 45) (fw_s (by rw [Nat.add_sub_cancel_left]))) ?_
          exact ihlp (i + 1) (c + (nI 1)) (by omega) (by omega) (by rw [hI, czX_f h51])
  refine g_sgE (sg' := (us sg 45 (fw 12 (fun j => nI (m / 10 ^ (j - 12) % 10)) (sg 45) 0))) (by rw [fw_0, us_id]) ?_
  refine g_sub (L' := [(6, .int (nI 0)), (5, .int (nI 0)), (3, .long (lN (m / 10 ^ 0))), (0, .ref (ad w 44)), (1, .long (lN m))]) [0, 1, 2, 3, 4] rfl ?_
  exact lp (12 + 1) 0 (nI 0) (by omega) (by omega) rfl
set_option maxRecDepth 100000 in
set_option maxHeartbeats 400000 in
theorem c_X5_putWheels_bad (w : GW) (tu : Int64) (sg : Sg) (v : Int64) (h : ¬ (0 ≤ v ∧ v ≤ 999999999999)) : Kt w yX5_putWheels cX5_putWheels 8 (some .int) 1 [.ref (ad w 44), .long v] sg tu (some (.int (-2))) sg tu := by
  refine Kt.of2 RX5 rfl [(0, .ref (ad w 44)), (1, .long v)] (by decide) rfl (Nat.le_of_ble_eq_true rfl) (fun z C E => ?_)
  refine g_lload_n C 1 rfl rfl dX5_putWheels_0 ?_
  refine g_lconst C (v := 0) (by decide) dX5_putWheels_1 ?_
  refine g_ldc2 C cn_X5_110 dX5_putWheels_2 ?_
  refine g_callS1 [] C (c_X5_in w tu sg v 0 999999999999 ) mt_X5_in ml_X5_53 st_X5_in (by decide) rfl (Nat.le_of_ble_eq_true rfl) dX5_putWheels_5 ?_
  refine g_eq (L' := [(0, .ref (ad w 44)), (1, .long v)]) (S' := [.int (bI (0 ≤ v ∧ v ≤ 999999999999))]) rfl rfl rfl rfl ?_
  refine g_bif_ne C (tgt := 14) (by decide) dX5_putWheels_8 (fun h8 => absurd h8 h) (fun h8 => ?_)
  refine g_bipush C (v := (-2)) (by decide) dX5_putWheels_11 ?_
  exact g_iret C E dX5_putWheels_13 rfl Sq.rf rfl
set_option maxRecDepth 100000 in
set_option maxHeartbeats 400000 in
theorem c_X5_drumTold_0 (w : GW) (tu : Int64) (sg : Sg) (j : Nat) (hj : j < 6) (hok : ROk (sg 45)) : Kt w yX5_drumTold cX5_drumTold 3 (some .int) 0 [.ref (ad w 44), .int (nI j), .int (nI 0)] sg tu (some (.int (sg 45 j))) sg tu := by
  refine Kt.of2 RX5 rfl [(0, .ref (ad w 44)), (1, .int (nI j)), (2, .int (nI 0))] (by decide) rfl (Nat.le_of_ble_eq_true rfl) (fun z C E => ?_)
  refine g_iload_n C 2 rfl rfl dX5_drumTold_0 ?_
  refine g_if_ne C (tgt := 15) (by decide) dX5_drumTold_1 (fun h1 => absurd h1 (by decide)) (fun h1 => ?_)
  refine g_aload_n C 0 rfl rfl dX5_drumTold_4 ?_
  refine g_getR C (j := 0) cls5 e_44 rfl (by decide) fl_X5_7 dX5_drumTold_5 ?_
  refine g_iconst C (v := (nI 0)) (by decide) dX5_drumTold_8 ?_
  refine g_iload_n C 1 rfl rfl dX5_drumTold_9 ?_
  refine g_iadd C dX5_drumTold_10 ?_
  refine g_top (y := (nI j)) (by rw [nI_add, Nat.zero_add]) ?_
  refine g_ialdN C j e_45 (by omega) (by decide) dX5_drumTold_11 ?_
  refine g_goto C (tgt := 52) (by decide) dX5_drumTold_12 ?_
  exact g_iret C E dX5_drumTold_52 rfl Sq.rf rfl
set_option maxRecDepth 100000 in
set_option maxHeartbeats 400000 in
theorem c_X5_drum_0 (w : GW) (tu : Int64) (sg : Sg) (j : Nat) (hj : j < 6) (hok : ROk (sg 45)) : Kt w yX5_drum cX5_drum 3 (some .int) 2 [.ref (ad w 44), .int (nI j), .int (nI 0)] sg tu (some (.int (sg 45 j))) sg tu := by
  refine Kt.of2 RX5 rfl [(0, .ref (ad w 44)), (1, .int (nI j)), (2, .int (nI 0))] (by decide) rfl (Nat.le_of_ble_eq_true rfl) (fun z C E => ?_)
  refine g_iload_n C 1 rfl rfl dX5_drum_0 ?_
  refine g_callS1 [] C (c_X5_isDrum_t w tu sg j (by omega)) mt_X5_isDrum ml_X5_90 st_X5_isDrum (by decide) rfl (Nat.le_of_ble_eq_true rfl) dX5_drum_1 ?_
  refine g_eq (L' := [(0, .ref (ad w 44)), (1, .int (nI j)), (2, .int (nI 0))]) (S' := [.int (nI 1)]) rfl rfl rfl rfl ?_
  refine g_if_eq C (tgt := 28) (by decide) dX5_drum_4 (fun h4 => absurd h4 (by decide)) (fun h4 => ?_)
  refine g_iload_n C 2 rfl rfl dX5_drum_7 ?_
  refine g_i2l C dX5_drum_8 ?_
  refine g_lconst C (v := 0) (by decide) dX5_drum_9 ?_
  refine g_ldc2 C cn_X5_151 dX5_drum_10 ?_
  refine g_callS1 [] C (c_X5_in_t w tu sg (Int32.toInt64 (nI 0)) 0 2 (in_ok (n := 2) (by omega) (by decide))) mt_X5_in ml_X5_53 st_X5_in (by decide) rfl (Nat.le_of_ble_eq_true rfl) dX5_drum_13 ?_
  refine g_eq (L' := [(0, .ref (ad w 44)), (1, .int (nI j)), (2, .int (nI 0))]) (S' := [.int (nI 1)]) rfl rfl rfl rfl ?_
  refine g_if_eq C (tgt := 28) (by decide) dX5_drum_16 (fun h16 => absurd h16 (by decide)) (fun h16 => ?_)
  refine g_aload_n C 0 rfl rfl dX5_drum_19 ?_
  refine g_iload_n C 1 rfl rfl dX5_drum_20 ?_
  refine g_iload_n C 2 rfl rfl dX5_drum_21 ?_
  refine g_callV1 [] C (c_X5_drumTold_0 w tu sg j hj hok) mt_X5_drumTold e_44 rfl ml_X5_153 im_X5_drumTold se_X5_drumTold (by decide) rfl (Nat.le_of_ble_eq_true rfl) dX5_drum_22 ?_
  refine g_eq (L' := [(0, .ref (ad w 44)), (1, .int (nI j)), (2, .int (nI 0))]) (S' := [.int (sg 45 j)]) rfl rfl rfl rfl ?_
  refine g_goto C (tgt := 34) (by decide) dX5_drum_25 ?_
  exact g_iret C E dX5_drum_34 rfl Sq.rf rfl
set_option maxRecDepth 100000 in
set_option maxHeartbeats 400000 in
theorem c_X5_drumTold_1 (w : GW) (tu : Int64) (sg : Sg) (j : Nat) (hj : j < 6) (hok : ROk (sg 45)) : Kt w yX5_drumTold cX5_drumTold 3 (some .int) 1 [.ref (ad w 44), .int (nI j), .int (nI 1)] sg tu (some (.int (whX (sg 45 (6 + j)) (dN (sg 45) j + 1)))) sg tu := by
  refine Kt.of2 RX5 rfl [(0, .ref (ad w 44)), (1, .int (nI j)), (2, .int (nI 1))] (by decide) rfl (Nat.le_of_ble_eq_true rfl) (fun z C E => ?_)
  refine g_iload_n C 2 rfl rfl dX5_drumTold_0 ?_
  refine g_if_ne C (tgt := 15) (by decide) dX5_drumTold_1 (fun h1 => ?_) (fun h1 => absurd h1 (by decide))
  refine g_iload_n C 2 rfl rfl dX5_drumTold_15 ?_
  refine g_iconst C (v := (nI 1)) (by decide) dX5_drumTold_16 ?_
  refine g_icmpN_ne C 1 1 (by omega) (by omega) (tgt := 43) (by decide) dX5_drumTold_17 (fun h17 => absurd h17 (by decide)) (fun h17 => ?_)
  refine g_aload_n C 0 rfl rfl dX5_drumTold_20 ?_
  refine g_getR C (j := 0) cls5 e_44 rfl (by decide) fl_X5_7 dX5_drumTold_21 ?_
  refine g_iconst C (v := (nI 0)) (by decide) dX5_drumTold_24 ?_
  refine g_iload_n C 1 rfl rfl dX5_drumTold_25 ?_
  refine g_iadd C dX5_drumTold_26 ?_
  refine g_top (y := (nI j)) (by rw [nI_add, Nat.zero_add]) ?_
  refine g_ialdN C j e_45 (by omega) (by decide) dX5_drumTold_27 ?_
  refine g_top (y := (nI (dN (sg 45) j))) (hok.1 j hj).1 ?_
  refine g_aload_n C 0 rfl rfl dX5_drumTold_28 ?_
  refine g_getR C (j := 0) cls5 e_44 rfl (by decide) fl_X5_7 dX5_drumTold_29 ?_
  refine g_bipush C (v := (nI 6)) (by decide) dX5_drumTold_32 ?_
  refine g_iload_n C 1 rfl rfl dX5_drumTold_34 ?_
  refine g_iadd C dX5_drumTold_35 ?_
  refine g_top (y := (nI (6 + j))) (nI_add 6 j) ?_
  refine g_ialdN C (6 + j) e_45 (by omega) (by decide) dX5_drumTold_36 ?_
  refine g_callS1 [] C (c_X5_whole w tu sg (dN (sg 45) j) (sg 45 (6 + j)) (hok.1 j hj).2) mt_X5_whole ml_X5_57 st_X5_whole (by decide) rfl (Nat.le_of_ble_eq_true rfl) dX5_drumTold_37 ?_
  refine g_eq (L' := [(0, .ref (ad w 44)), (1, .int (nI j)), (2, .int (nI 1))]) (S' := [.int (whX (sg 45 (6 + j)) ((dN (sg 45) j) + 1))]) rfl rfl rfl rfl ?_
  refine g_goto C (tgt := 52) (by decide) dX5_drumTold_40 ?_
  exact g_iret C E dX5_drumTold_52 rfl Sq.rf rfl
set_option maxRecDepth 100000 in
set_option maxHeartbeats 400000 in
theorem c_X5_drum_1 (w : GW) (tu : Int64) (sg : Sg) (j : Nat) (hj : j < 6) (hok : ROk (sg 45)) : Kt w yX5_drum cX5_drum 3 (some .int) 2 [.ref (ad w 44), .int (nI j), .int (nI 1)] sg tu (some (.int (whX (sg 45 (6 + j)) (dN (sg 45) j + 1)))) sg tu := by
  refine Kt.of2 RX5 rfl [(0, .ref (ad w 44)), (1, .int (nI j)), (2, .int (nI 1))] (by decide) rfl (Nat.le_of_ble_eq_true rfl) (fun z C E => ?_)
  refine g_iload_n C 1 rfl rfl dX5_drum_0 ?_
  refine g_callS1 [] C (c_X5_isDrum_t w tu sg j (by omega)) mt_X5_isDrum ml_X5_90 st_X5_isDrum (by decide) rfl (Nat.le_of_ble_eq_true rfl) dX5_drum_1 ?_
  refine g_eq (L' := [(0, .ref (ad w 44)), (1, .int (nI j)), (2, .int (nI 1))]) (S' := [.int (nI 1)]) rfl rfl rfl rfl ?_
  refine g_if_eq C (tgt := 28) (by decide) dX5_drum_4 (fun h4 => absurd h4 (by decide)) (fun h4 => ?_)
  refine g_iload_n C 2 rfl rfl dX5_drum_7 ?_
  refine g_i2l C dX5_drum_8 ?_
  refine g_lconst C (v := 0) (by decide) dX5_drum_9 ?_
  refine g_ldc2 C cn_X5_151 dX5_drum_10 ?_
  refine g_callS1 [] C (c_X5_in_t w tu sg (Int32.toInt64 (nI 1)) 0 2 (in_ok (n := 2) (by omega) (by decide))) mt_X5_in ml_X5_53 st_X5_in (by decide) rfl (Nat.le_of_ble_eq_true rfl) dX5_drum_13 ?_
  refine g_eq (L' := [(0, .ref (ad w 44)), (1, .int (nI j)), (2, .int (nI 1))]) (S' := [.int (nI 1)]) rfl rfl rfl rfl ?_
  refine g_if_eq C (tgt := 28) (by decide) dX5_drum_16 (fun h16 => absurd h16 (by decide)) (fun h16 => ?_)
  refine g_aload_n C 0 rfl rfl dX5_drum_19 ?_
  refine g_iload_n C 1 rfl rfl dX5_drum_20 ?_
  refine g_iload_n C 2 rfl rfl dX5_drum_21 ?_
  refine g_callV1 [] C (c_X5_drumTold_1 w tu sg j hj hok) mt_X5_drumTold e_44 rfl ml_X5_153 im_X5_drumTold se_X5_drumTold (by decide) rfl (Nat.le_of_ble_eq_true rfl) dX5_drum_22 ?_
  refine g_eq (L' := [(0, .ref (ad w 44)), (1, .int (nI j)), (2, .int (nI 1))]) (S' := [.int (whX (sg 45 (6 + j)) (dN (sg 45) j + 1))]) rfl rfl rfl rfl ?_
  refine g_goto C (tgt := 34) (by decide) dX5_drum_25 ?_
  exact g_iret C E dX5_drum_34 rfl Sq.rf rfl
set_option maxRecDepth 100000 in
set_option maxHeartbeats 400000 in
theorem c_X5_drumTold_2 (w : GW) (tu : Int64) (sg : Sg) (j : Nat) (hj : j < 6) (hok : ROk (sg 45)) : Kt w yX5_drumTold cX5_drumTold 3 (some .int) 0 [.ref (ad w 44), .int (nI j), .int (nI 2)] sg tu (some (.int (sg 45 (6 + j)))) sg tu := by
  refine Kt.of2 RX5 rfl [(0, .ref (ad w 44)), (1, .int (nI j)), (2, .int (nI 2))] (by decide) rfl (Nat.le_of_ble_eq_true rfl) (fun z C E => ?_)
  refine g_iload_n C 2 rfl rfl dX5_drumTold_0 ?_
  refine g_if_ne C (tgt := 15) (by decide) dX5_drumTold_1 (fun h1 => ?_) (fun h1 => absurd h1 (by decide))
  refine g_iload_n C 2 rfl rfl dX5_drumTold_15 ?_
  refine g_iconst C (v := (nI 1)) (by decide) dX5_drumTold_16 ?_
  refine g_icmpN_ne C 2 1 (by omega) (by omega) (tgt := 43) (by decide) dX5_drumTold_17 (fun h17 => ?_) (fun h17 => absurd h17 (by decide))
  refine g_aload_n C 0 rfl rfl dX5_drumTold_43 ?_
  refine g_getR C (j := 0) cls5 e_44 rfl (by decide) fl_X5_7 dX5_drumTold_44 ?_
  refine g_bipush C (v := (nI 6)) (by decide) dX5_drumTold_47 ?_
  refine g_iload_n C 1 rfl rfl dX5_drumTold_49 ?_
  refine g_iadd C dX5_drumTold_50 ?_
  refine g_top (y := (nI (6 + j))) (nI_add 6 j) ?_
  refine g_ialdN C (6 + j) e_45 (by omega) (by decide) dX5_drumTold_51 ?_
  exact g_iret C E dX5_drumTold_52 rfl Sq.rf rfl
set_option maxRecDepth 100000 in
set_option maxHeartbeats 400000 in
theorem c_X5_drum_2 (w : GW) (tu : Int64) (sg : Sg) (j : Nat) (hj : j < 6) (hok : ROk (sg 45)) : Kt w yX5_drum cX5_drum 3 (some .int) 2 [.ref (ad w 44), .int (nI j), .int (nI 2)] sg tu (some (.int (sg 45 (6 + j)))) sg tu := by
  refine Kt.of2 RX5 rfl [(0, .ref (ad w 44)), (1, .int (nI j)), (2, .int (nI 2))] (by decide) rfl (Nat.le_of_ble_eq_true rfl) (fun z C E => ?_)
  refine g_iload_n C 1 rfl rfl dX5_drum_0 ?_
  refine g_callS1 [] C (c_X5_isDrum_t w tu sg j (by omega)) mt_X5_isDrum ml_X5_90 st_X5_isDrum (by decide) rfl (Nat.le_of_ble_eq_true rfl) dX5_drum_1 ?_
  refine g_eq (L' := [(0, .ref (ad w 44)), (1, .int (nI j)), (2, .int (nI 2))]) (S' := [.int (nI 1)]) rfl rfl rfl rfl ?_
  refine g_if_eq C (tgt := 28) (by decide) dX5_drum_4 (fun h4 => absurd h4 (by decide)) (fun h4 => ?_)
  refine g_iload_n C 2 rfl rfl dX5_drum_7 ?_
  refine g_i2l C dX5_drum_8 ?_
  refine g_lconst C (v := 0) (by decide) dX5_drum_9 ?_
  refine g_ldc2 C cn_X5_151 dX5_drum_10 ?_
  refine g_callS1 [] C (c_X5_in_t w tu sg (Int32.toInt64 (nI 2)) 0 2 (in_ok (n := 2) (by omega) (by decide))) mt_X5_in ml_X5_53 st_X5_in (by decide) rfl (Nat.le_of_ble_eq_true rfl) dX5_drum_13 ?_
  refine g_eq (L' := [(0, .ref (ad w 44)), (1, .int (nI j)), (2, .int (nI 2))]) (S' := [.int (nI 1)]) rfl rfl rfl rfl ?_
  refine g_if_eq C (tgt := 28) (by decide) dX5_drum_16 (fun h16 => absurd h16 (by decide)) (fun h16 => ?_)
  refine g_aload_n C 0 rfl rfl dX5_drum_19 ?_
  refine g_iload_n C 1 rfl rfl dX5_drum_20 ?_
  refine g_iload_n C 2 rfl rfl dX5_drum_21 ?_
  refine g_callV1 [] C (c_X5_drumTold_2 w tu sg j hj hok) mt_X5_drumTold e_44 rfl ml_X5_153 im_X5_drumTold se_X5_drumTold (by decide) rfl (Nat.le_of_ble_eq_true rfl) dX5_drum_22 ?_
  refine g_eq (L' := [(0, .ref (ad w 44)), (1, .int (nI j)), (2, .int (nI 2))]) (S' := [.int (sg 45 (6 + j))]) rfl rfl rfl rfl ?_
  refine g_goto C (tgt := 34) (by decide) dX5_drum_25 ?_
  exact g_iret C E dX5_drum_34 rfl Sq.rf rfl
set_option maxRecDepth 100000 in
set_option maxHeartbeats 400000 in
theorem c_X5_drum_bad (w : GW) (tu : Int64) (sg : Sg) (x : Int32) (v : Int32) (h : ¬ ((0 ≤ Int32.toInt64 x ∧ Int32.toInt64 x ≤ 5) ∧ (0 ≤ Int32.toInt64 v ∧ Int32.toInt64 v ≤ 2))) : Kt w yX5_drum cX5_drum 3 (some .int) 2 [.ref (ad w 44), .int x, .int v] sg tu (some (.int (-2))) (us sg 48 (upd (sg 48) 0 ((sg 48 0) + nI 1))) tu := by
  refine Kt.of2 RX5 rfl [(0, .ref (ad w 44)), (1, .int x), (2, .int v)] (by decide) rfl (Nat.le_of_ble_eq_true rfl) (fun z C E => ?_)
  refine g_iload_n C 1 rfl rfl dX5_drum_0 ?_
  refine g_callS1 [] C (c_X5_isDrum w tu sg x ) mt_X5_isDrum ml_X5_90 st_X5_isDrum (by decide) rfl (Nat.le_of_ble_eq_true rfl) dX5_drum_1 ?_
  refine g_eq (L' := [(0, .ref (ad w 44)), (1, .int x), (2, .int v)]) (S' := [.int (bI (0 ≤ Int32.toInt64 x ∧ Int32.toInt64 x ≤ 5))]) rfl rfl rfl rfl ?_
  refine g_bif_eq C (tgt := 28) (by decide) dX5_drum_4 (fun h4 => ?_) (fun h4 => ?_)
  ·
    refine g_aload_n C 0 rfl rfl dX5_drum_28 ?_
    refine g_bipush C (v := (-2)) (by decide) dX5_drum_29 ?_
    refine g_callV1 [] C (c_X5_refuses_bad w tu sg  ) mt_X5_refuses e_44 rfl ml_X5_44 im_X5_refuses se_X5_refuses (by decide) rfl (Nat.le_of_ble_eq_true rfl) dX5_drum_31 ?_
    refine g_eq (sg' := (us sg 48 (upd (sg 48) 0 ((sg 48 0) + nI 1)))) (L' := [(0, .ref (ad w 44)), (1, .int x), (2, .int v)]) (S' := [.int (-2)]) rfl rfl rfl rfl ?_
    exact g_iret C E dX5_drum_34 rfl Sq.rf rfl
  ·
    refine g_iload_n C 2 rfl rfl dX5_drum_7 ?_
    refine g_i2l C dX5_drum_8 ?_
    refine g_lconst C (v := 0) (by decide) dX5_drum_9 ?_
    refine g_ldc2 C cn_X5_151 dX5_drum_10 ?_
    refine g_callS1 [] C (c_X5_in w tu sg (Int32.toInt64 v) 0 2 ) mt_X5_in ml_X5_53 st_X5_in (by decide) rfl (Nat.le_of_ble_eq_true rfl) dX5_drum_13 ?_
    refine g_eq (L' := [(0, .ref (ad w 44)), (1, .int x), (2, .int v)]) (S' := [.int (bI (0 ≤ (Int32.toInt64 v) ∧ (Int32.toInt64 v) ≤ 2))]) rfl rfl rfl rfl ?_
    refine g_bif_eq C (tgt := 28) (by decide) dX5_drum_16 (fun h16 => ?_) (fun h16 => absurd ⟨h4, h16⟩ h)
    refine g_aload_n C 0 rfl rfl dX5_drum_28 ?_
    refine g_bipush C (v := (-2)) (by decide) dX5_drum_29 ?_
    refine g_callV1 [] C (c_X5_refuses_bad w tu sg  ) mt_X5_refuses e_44 rfl ml_X5_44 im_X5_refuses se_X5_refuses (by decide) rfl (Nat.le_of_ble_eq_true rfl) dX5_drum_31 ?_
    refine g_eq (sg' := (us sg 48 (upd (sg 48) 0 ((sg 48 0) + nI 1)))) (L' := [(0, .ref (ad w 44)), (1, .int x), (2, .int v)]) (S' := [.int (-2)]) rfl rfl rfl rfl ?_
    exact g_iret C E dX5_drum_34 rfl Sq.rf rfl
set_option maxRecDepth 100000 in
set_option maxHeartbeats 400000 in
theorem c_X5_wheel_ok (w : GW) (tu : Int64) (sg : Sg) (k : Nat) (hk : k ≤ 11) : Kt w yX5_wheel cX5_wheel 2 (some .int) 1 [.ref (ad w 44), .int (nI k)] sg tu (some (.int (sg 45 (12 + k)))) sg tu := by
  refine Kt.of2 RX5 rfl [(0, .ref (ad w 44)), (1, .int (nI k))] (by decide) rfl (Nat.le_of_ble_eq_true rfl) (fun z C E => ?_)
  refine g_iload_n C 1 rfl rfl dX5_wheel_0 ?_
  refine g_i2l C dX5_wheel_1 ?_
  refine g_lconst C (v := 0) (by decide) dX5_wheel_2 ?_
  refine g_ldc2 C cn_X5_156 dX5_wheel_3 ?_
  refine g_callS1 [] C (c_X5_in_t w tu sg (Int32.toInt64 (nI k)) 0 11 (in_ok (n := 11) (by omega) (by decide))) mt_X5_in ml_X5_53 st_X5_in (by decide) rfl (Nat.le_of_ble_eq_true rfl) dX5_wheel_6 ?_
  refine g_eq (L' := [(0, .ref (ad w 44)), (1, .int (nI k))]) (S' := [.int (nI 1)]) rfl rfl rfl rfl ?_
  refine g_if_eq C (tgt := 24) (by decide) dX5_wheel_9 (fun h9 => absurd h9 (by decide)) (fun h9 => ?_)
  refine g_aload_n C 0 rfl rfl dX5_wheel_12 ?_
  refine g_getR C (j := 0) cls5 e_44 rfl (by decide) fl_X5_7 dX5_wheel_13 ?_
  refine g_bipush C (v := (nI 12)) (by decide) dX5_wheel_16 ?_
  refine g_iload_n C 1 rfl rfl dX5_wheel_18 ?_
  refine g_iadd C dX5_wheel_19 ?_
  refine g_top (y := (nI (12 + k))) (nI_add 12 k) ?_
  refine g_ialdN C (12 + k) e_45 (by omega) (by decide) dX5_wheel_20 ?_
  refine g_goto C (tgt := 30) (by decide) dX5_wheel_21 ?_
  exact g_iret C E dX5_wheel_30 rfl Sq.rf rfl
set_option maxRecDepth 100000 in
set_option maxHeartbeats 400000 in
theorem c_X5_wheel_bad (w : GW) (tu : Int64) (sg : Sg) (v : Int32) (h : ¬ (0 ≤ Int32.toInt64 v ∧ Int32.toInt64 v ≤ 11)) : Kt w yX5_wheel cX5_wheel 2 (some .int) 1 [.ref (ad w 44), .int v] sg tu (some (.int (-2))) (us sg 48 (upd (sg 48) 0 ((sg 48 0) + nI 1))) tu := by
  refine Kt.of2 RX5 rfl [(0, .ref (ad w 44)), (1, .int v)] (by decide) rfl (Nat.le_of_ble_eq_true rfl) (fun z C E => ?_)
  refine g_iload_n C 1 rfl rfl dX5_wheel_0 ?_
  refine g_i2l C dX5_wheel_1 ?_
  refine g_lconst C (v := 0) (by decide) dX5_wheel_2 ?_
  refine g_ldc2 C cn_X5_156 dX5_wheel_3 ?_
  refine g_callS1 [] C (c_X5_in w tu sg (Int32.toInt64 v) 0 11 ) mt_X5_in ml_X5_53 st_X5_in (by decide) rfl (Nat.le_of_ble_eq_true rfl) dX5_wheel_6 ?_
  refine g_eq (L' := [(0, .ref (ad w 44)), (1, .int v)]) (S' := [.int (bI (0 ≤ (Int32.toInt64 v) ∧ (Int32.toInt64 v) ≤ 11))]) rfl rfl rfl rfl ?_
  refine g_bif_eq C (tgt := 24) (by decide) dX5_wheel_9 (fun h9 => ?_) (fun h9 => absurd h9 h)
  refine g_aload_n C 0 rfl rfl dX5_wheel_24 ?_
  refine g_bipush C (v := (-2)) (by decide) dX5_wheel_25 ?_
  refine g_callV1 [] C (c_X5_refuses_bad w tu sg  ) mt_X5_refuses e_44 rfl ml_X5_44 im_X5_refuses se_X5_refuses (by decide) rfl (Nat.le_of_ble_eq_true rfl) dX5_wheel_27 ?_
  refine g_eq (sg' := (us sg 48 (upd (sg 48) 0 ((sg 48 0) + nI 1)))) (L' := [(0, .ref (ad w 44)), (1, .int v)]) (S' := [.int (-2)]) rfl rfl rfl rfl ?_
  exact g_iret C E dX5_wheel_30 rfl Sq.rf rfl
set_option maxRecDepth 100000 in
set_option maxHeartbeats 400000 in
theorem c_X5_counter_ok (w : GW) (tu : Int64) (sg : Sg) (k : Nat) (hk : k ≤ 6) : Kt w yX5_counter cX5_counter 2 (some .int) 1 [.ref (ad w 44), .int (nI k)] sg tu (some (.int (sg 45 (24 + k)))) sg tu := by
  refine Kt.of2 RX5 rfl [(0, .ref (ad w 44)), (1, .int (nI k))] (by decide) rfl (Nat.le_of_ble_eq_true rfl) (fun z C E => ?_)
  refine g_iload_n C 1 rfl rfl dX5_counter_0 ?_
  refine g_i2l C dX5_counter_1 ?_
  refine g_lconst C (v := 0) (by decide) dX5_counter_2 ?_
  refine g_ldc2 C cn_X5_99 dX5_counter_3 ?_
  refine g_callS1 [] C (c_X5_in_t w tu sg (Int32.toInt64 (nI k)) 0 6 (in_ok (n := 6) (by omega) (by decide))) mt_X5_in ml_X5_53 st_X5_in (by decide) rfl (Nat.le_of_ble_eq_true rfl) dX5_counter_6 ?_
  refine g_eq (L' := [(0, .ref (ad w 44)), (1, .int (nI k))]) (S' := [.int (nI 1)]) rfl rfl rfl rfl ?_
  refine g_if_eq C (tgt := 24) (by decide) dX5_counter_9 (fun h9 => absurd h9 (by decide)) (fun h9 => ?_)
  refine g_aload_n C 0 rfl rfl dX5_counter_12 ?_
  refine g_getR C (j := 0) cls5 e_44 rfl (by decide) fl_X5_7 dX5_counter_13 ?_
  refine g_bipush C (v := (nI 24)) (by decide) dX5_counter_16 ?_
  refine g_iload_n C 1 rfl rfl dX5_counter_18 ?_
  refine g_iadd C dX5_counter_19 ?_
  refine g_top (y := (nI (24 + k))) (nI_add 24 k) ?_
  refine g_ialdN C (24 + k) e_45 (by omega) (by decide) dX5_counter_20 ?_
  refine g_goto C (tgt := 30) (by decide) dX5_counter_21 ?_
  exact g_iret C E dX5_counter_30 rfl Sq.rf rfl
set_option maxRecDepth 100000 in
set_option maxHeartbeats 400000 in
theorem c_X5_counter_bad (w : GW) (tu : Int64) (sg : Sg) (v : Int32) (h : ¬ (0 ≤ Int32.toInt64 v ∧ Int32.toInt64 v ≤ 6)) : Kt w yX5_counter cX5_counter 2 (some .int) 1 [.ref (ad w 44), .int v] sg tu (some (.int (-2))) (us sg 48 (upd (sg 48) 0 ((sg 48 0) + nI 1))) tu := by
  refine Kt.of2 RX5 rfl [(0, .ref (ad w 44)), (1, .int v)] (by decide) rfl (Nat.le_of_ble_eq_true rfl) (fun z C E => ?_)
  refine g_iload_n C 1 rfl rfl dX5_counter_0 ?_
  refine g_i2l C dX5_counter_1 ?_
  refine g_lconst C (v := 0) (by decide) dX5_counter_2 ?_
  refine g_ldc2 C cn_X5_99 dX5_counter_3 ?_
  refine g_callS1 [] C (c_X5_in w tu sg (Int32.toInt64 v) 0 6 ) mt_X5_in ml_X5_53 st_X5_in (by decide) rfl (Nat.le_of_ble_eq_true rfl) dX5_counter_6 ?_
  refine g_eq (L' := [(0, .ref (ad w 44)), (1, .int v)]) (S' := [.int (bI (0 ≤ (Int32.toInt64 v) ∧ (Int32.toInt64 v) ≤ 6))]) rfl rfl rfl rfl ?_
  refine g_bif_eq C (tgt := 24) (by decide) dX5_counter_9 (fun h9 => ?_) (fun h9 => absurd h9 h)
  refine g_aload_n C 0 rfl rfl dX5_counter_24 ?_
  refine g_bipush C (v := (-2)) (by decide) dX5_counter_25 ?_
  refine g_callV1 [] C (c_X5_refuses_bad w tu sg  ) mt_X5_refuses e_44 rfl ml_X5_44 im_X5_refuses se_X5_refuses (by decide) rfl (Nat.le_of_ble_eq_true rfl) dX5_counter_27 ?_
  refine g_eq (sg' := (us sg 48 (upd (sg 48) 0 ((sg 48 0) + nI 1)))) (L' := [(0, .ref (ad w 44)), (1, .int v)]) (S' := [.int (-2)]) rfl rfl rfl rfl ?_
  exact g_iret C E dX5_counter_30 rfl Sq.rf rfl
/-- worn teeth of all drums -/
def wsX (f : Nat → Int32) : Nat → Int32
  | 0 => nI 0
  | d + 1 => wsX f d + wmX (f (6 + d)) 10
set_option maxRecDepth 100000 in
set_option maxHeartbeats 400000 in
theorem c_X5_countTold_0 (w : GW) (tu : Int64) (sg : Sg) : Kt w yX5_countTold cX5_countTold 4 (some .int) 1 [.ref (ad w 44), .int (nI 0)] sg tu (some (.int (nbX (sg 45) 0 6 (nI 0)))) sg tu := by
  refine Kt.of2 RX5 rfl [(0, .ref (ad w 44)), (1, .int (nI 0))] (by decide) rfl (Nat.le_of_ble_eq_true rfl) (fun z C E => ?_)
  refine g_iload_n C 1 rfl rfl dX5_countTold_0 ?_
  refine g_tabIn C (off := 43) (tgt := 44) dX5_countTold_1 (by decide) (by decide) (by decide) (by decide) ?_
  refine g_aload_n C 0 rfl rfl dX5_countTold_44 ?_
  refine g_getR C (j := 0) cls5 e_44 rfl (by decide) fl_X5_7 dX5_countTold_45 ?_
  refine g_iconst C (v := (nI 0)) (by decide) dX5_countTold_48 ?_
  refine g_bipush C (v := (nI 6)) (by decide) dX5_countTold_49 ?_
  refine g_callS1 [] C (c_X5_number_dig w tu sg  ) mt_X5_number ml_X5_106 st_X5_number (by decide) rfl (Nat.le_of_ble_eq_true rfl) dX5_countTold_51 ?_
  refine g_eq (L' := [(0, .ref (ad w 44)), (1, .int (nI 0))]) (S' := [.int (nbX (sg 45) 0 6 (nI 0))]) rfl rfl rfl rfl ?_
  exact g_iret C E dX5_countTold_54 rfl Sq.rf rfl
set_option maxRecDepth 100000 in
set_option maxHeartbeats 400000 in
theorem c_X5_count_0 (w : GW) (tu : Int64) (sg : Sg) : Kt w yX5_count cX5_count 2 (some .int) 2 [.ref (ad w 44), .int (nI 0)] sg tu (some (.int (nbX (sg 45) 0 6 (nI 0)))) sg tu := by
  refine Kt.of2 RX5 rfl [(0, .ref (ad w 44)), (1, .int (nI 0))] (by decide) rfl (Nat.le_of_ble_eq_true rfl) (fun z C E => ?_)
  refine g_iload_n C 1 rfl rfl dX5_count_0 ?_
  refine g_i2l C dX5_count_1 ?_
  refine g_lconst C (v := 0) (by decide) dX5_count_2 ?_
  refine g_ldc2 C cn_X5_162 dX5_count_3 ?_
  refine g_callS1 [] C (c_X5_in_t w tu sg (Int32.toInt64 (nI 0)) 0 7 (in_ok (n := 7) (by omega) (by decide))) mt_X5_in ml_X5_53 st_X5_in (by decide) rfl (Nat.le_of_ble_eq_true rfl) dX5_count_6 ?_
  refine g_eq (L' := [(0, .ref (ad w 44)), (1, .int (nI 0))]) (S' := [.int (nI 1)]) rfl rfl rfl rfl ?_
  refine g_if_eq C (tgt := 20) (by decide) dX5_count_9 (fun h9 => absurd h9 (by decide)) (fun h9 => ?_)
  refine g_aload_n C 0 rfl rfl dX5_count_12 ?_
  refine g_iload_n C 1 rfl rfl dX5_count_13 ?_
  refine g_callV1 [] C (c_X5_countTold_0 w tu sg  ) mt_X5_countTold e_44 rfl ml_X5_164 im_X5_countTold se_X5_countTold (by decide) rfl (Nat.le_of_ble_eq_true rfl) dX5_count_14 ?_
  refine g_eq (L' := [(0, .ref (ad w 44)), (1, .int (nI 0))]) (S' := [.int (nbX (sg 45) 0 6 (nI 0))]) rfl rfl rfl rfl ?_
  refine g_goto C (tgt := 26) (by decide) dX5_count_17 ?_
  exact g_iret C E dX5_count_26 rfl Sq.rf rfl
set_option maxRecDepth 100000 in
set_option maxHeartbeats 400000 in
theorem c_X5_countTold_1 (w : GW) (tu : Int64) (sg : Sg) (hok : ROk (sg 45)) : Kt w yX5_countTold cX5_countTold 4 (some .int) 2 [.ref (ad w 44), .int (nI 1)] sg tu (some (.int (nbX (fun d => whX ((sg 45) (6 + d)) (dN (sg 45) d + 1)) 0 6 (nI 0)))) (us sg 50 (fun d => whX ((sg 45) (6 + d)) (dN (sg 45) d + 1))) tu := by
  refine Kt.of2 RX5 rfl [(0, .ref (ad w 44)), (1, .int (nI 1))] (by decide) rfl (Nat.le_of_ble_eq_true rfl) (fun z C E => ?_)
  refine g_iload_n C 1 rfl rfl dX5_countTold_0 ?_
  refine g_tabIn C (off := 54) (tgt := 55) dX5_countTold_1 (by decide) (by decide) (by decide) (by decide) ?_
  refine g_aload_n C 0 rfl rfl dX5_countTold_55 ?_
  refine g_callV0 [] C (c_X5_laysGives w tu sg  (dN (sg 45)) hok.1) mt_X5_laysGives e_44 rfl ml_X5_67 im_X5_laysGives se_X5_laysGives (by decide) rfl (Nat.le_of_ble_eq_true rfl) dX5_countTold_56 ?_
  refine g_eq (sg' := (us sg 50 (fun d => whX ((sg 45) (6 + d)) ((dN (sg 45)) d + 1)))) (L' := [(0, .ref (ad w 44)), (1, .int (nI 1))]) (S' := []) rfl rfl rfl rfl ?_
  refine g_aload_n C 0 rfl rfl dX5_countTold_59 ?_
  refine g_getR C (j := 7) cls5 e_44 rfl (by decide) fl_X5_25 dX5_countTold_60 ?_
  refine g_iconst C (v := (nI 0)) (by decide) dX5_countTold_63 ?_
  refine g_bipush C (v := (nI 6)) (by decide) dX5_countTold_64 ?_
  refine g_callS1 [] C (c_X5_number_giv w tu (us sg 50 (fun d => whX ((sg 45) (6 + d)) ((dN (sg 45)) d + 1)))  ) mt_X5_number ml_X5_106 st_X5_number (by decide) rfl (Nat.le_of_ble_eq_true rfl) dX5_countTold_66 ?_
  refine g_eq (L' := [(0, .ref (ad w 44)), (1, .int (nI 1))]) (S' := [.int (nbX (fun d => whX ((sg 45) (6 + d)) ((dN (sg 45)) d + 1)) 0 6 (nI 0))]) rfl rfl rfl rfl ?_
  exact g_iret C E dX5_countTold_69 rfl Sq.rf rfl
set_option maxRecDepth 100000 in
set_option maxHeartbeats 400000 in
theorem c_X5_count_1 (w : GW) (tu : Int64) (sg : Sg) (hok : ROk (sg 45)) : Kt w yX5_count cX5_count 2 (some .int) 3 [.ref (ad w 44), .int (nI 1)] sg tu (some (.int (nbX (fun d => whX ((sg 45) (6 + d)) (dN (sg 45) d + 1)) 0 6 (nI 0)))) (us sg 50 (fun d => whX ((sg 45) (6 + d)) (dN (sg 45) d + 1))) tu := by
  refine Kt.of2 RX5 rfl [(0, .ref (ad w 44)), (1, .int (nI 1))] (by decide) rfl (Nat.le_of_ble_eq_true rfl) (fun z C E => ?_)
  refine g_iload_n C 1 rfl rfl dX5_count_0 ?_
  refine g_i2l C dX5_count_1 ?_
  refine g_lconst C (v := 0) (by decide) dX5_count_2 ?_
  refine g_ldc2 C cn_X5_162 dX5_count_3 ?_
  refine g_callS1 [] C (c_X5_in_t w tu sg (Int32.toInt64 (nI 1)) 0 7 (in_ok (n := 7) (by omega) (by decide))) mt_X5_in ml_X5_53 st_X5_in (by decide) rfl (Nat.le_of_ble_eq_true rfl) dX5_count_6 ?_
  refine g_eq (L' := [(0, .ref (ad w 44)), (1, .int (nI 1))]) (S' := [.int (nI 1)]) rfl rfl rfl rfl ?_
  refine g_if_eq C (tgt := 20) (by decide) dX5_count_9 (fun h9 => absurd h9 (by decide)) (fun h9 => ?_)
  refine g_aload_n C 0 rfl rfl dX5_count_12 ?_
  refine g_iload_n C 1 rfl rfl dX5_count_13 ?_
  refine g_callV1 [] C (c_X5_countTold_1 w tu sg  hok) mt_X5_countTold e_44 rfl ml_X5_164 im_X5_countTold se_X5_countTold (by decide) rfl (Nat.le_of_ble_eq_true rfl) dX5_count_14 ?_
  refine g_eq (sg' := (us sg 50 (fun d => whX ((sg 45) (6 + d)) (dN (sg 45) d + 1)))) (L' := [(0, .ref (ad w 44)), (1, .int (nI 1))]) (S' := [.int (nbX (fun d => whX ((sg 45) (6 + d)) (dN (sg 45) d + 1)) 0 6 (nI 0))]) rfl rfl rfl rfl ?_
  refine g_goto C (tgt := 26) (by decide) dX5_count_17 ?_
  exact g_iret C E dX5_count_26 rfl Sq.rf rfl
set_option maxRecDepth 100000 in
set_option maxHeartbeats 400000 in
theorem c_X5_countTold_2 (w : GW) (tu : Int64) (sg : Sg) : Kt w yX5_countTold cX5_countTold 4 (some .int) 1 [.ref (ad w 44), .int (nI 2)] sg tu (some (.int (nbX (sg 45) 24 7 (nI 0)))) sg tu := by
  refine Kt.of2 RX5 rfl [(0, .ref (ad w 44)), (1, .int (nI 2))] (by decide) rfl (Nat.le_of_ble_eq_true rfl) (fun z C E => ?_)
  refine g_iload_n C 1 rfl rfl dX5_countTold_0 ?_
  refine g_tabIn C (off := 69) (tgt := 70) dX5_countTold_1 (by decide) (by decide) (by decide) (by decide) ?_
  refine g_aload_n C 0 rfl rfl dX5_countTold_70 ?_
  refine g_getR C (j := 0) cls5 e_44 rfl (by decide) fl_X5_7 dX5_countTold_71 ?_
  refine g_bipush C (v := (nI 24)) (by decide) dX5_countTold_74 ?_
  refine g_bipush C (v := (nI 7)) (by decide) dX5_countTold_76 ?_
  refine g_callS1 [] C (c_X5_number_cnt w tu sg  ) mt_X5_number ml_X5_106 st_X5_number (by decide) rfl (Nat.le_of_ble_eq_true rfl) dX5_countTold_78 ?_
  refine g_eq (L' := [(0, .ref (ad w 44)), (1, .int (nI 2))]) (S' := [.int (nbX (sg 45) 24 7 (nI 0))]) rfl rfl rfl rfl ?_
  exact g_iret C E dX5_countTold_81 rfl Sq.rf rfl
set_option maxRecDepth 100000 in
set_option maxHeartbeats 400000 in
theorem c_X5_count_2 (w : GW) (tu : Int64) (sg : Sg) : Kt w yX5_count cX5_count 2 (some .int) 2 [.ref (ad w 44), .int (nI 2)] sg tu (some (.int (nbX (sg 45) 24 7 (nI 0)))) sg tu := by
  refine Kt.of2 RX5 rfl [(0, .ref (ad w 44)), (1, .int (nI 2))] (by decide) rfl (Nat.le_of_ble_eq_true rfl) (fun z C E => ?_)
  refine g_iload_n C 1 rfl rfl dX5_count_0 ?_
  refine g_i2l C dX5_count_1 ?_
  refine g_lconst C (v := 0) (by decide) dX5_count_2 ?_
  refine g_ldc2 C cn_X5_162 dX5_count_3 ?_
  refine g_callS1 [] C (c_X5_in_t w tu sg (Int32.toInt64 (nI 2)) 0 7 (in_ok (n := 7) (by omega) (by decide))) mt_X5_in ml_X5_53 st_X5_in (by decide) rfl (Nat.le_of_ble_eq_true rfl) dX5_count_6 ?_
  refine g_eq (L' := [(0, .ref (ad w 44)), (1, .int (nI 2))]) (S' := [.int (nI 1)]) rfl rfl rfl rfl ?_
  refine g_if_eq C (tgt := 20) (by decide) dX5_count_9 (fun h9 => absurd h9 (by decide)) (fun h9 => ?_)
  refine g_aload_n C 0 rfl rfl dX5_count_12 ?_
  refine g_iload_n C 1 rfl rfl dX5_count_13 ?_
  refine g_callV1 [] C (c_X5_countTold_2 w tu sg  ) mt_X5_countTold e_44 rfl ml_X5_164 im_X5_countTold se_X5_countTold (by decide) rfl (Nat.le_of_ble_eq_true rfl) dX5_count_14 ?_
  refine g_eq (L' := [(0, .ref (ad w 44)), (1, .int (nI 2))]) (S' := [.int (nbX (sg 45) 24 7 (nI 0))]) rfl rfl rfl rfl ?_
  refine g_goto C (tgt := 26) (by decide) dX5_count_17 ?_
  exact g_iret C E dX5_count_26 rfl Sq.rf rfl
set_option maxRecDepth 100000 in
set_option maxHeartbeats 400000 in
theorem c_X5_countTold_3 (w : GW) (tu : Int64) (sg : Sg) : Kt w yX5_countTold cX5_countTold 4 (some .int) 0 [.ref (ad w 44), .int (nI 3)] sg tu (some (.int (sg 45 31))) sg tu := by
  refine Kt.of2 RX5 rfl [(0, .ref (ad w 44)), (1, .int (nI 3))] (by decide) rfl (Nat.le_of_ble_eq_true rfl) (fun z C E => ?_)
  refine g_iload_n C 1 rfl rfl dX5_countTold_0 ?_
  refine g_tabIn C (off := 81) (tgt := 82) dX5_countTold_1 (by decide) (by decide) (by decide) (by decide) ?_
  refine g_aload_n C 0 rfl rfl dX5_countTold_82 ?_
  refine g_getR C (j := 0) cls5 e_44 rfl (by decide) fl_X5_7 dX5_countTold_83 ?_
  refine g_bipush C (v := (nI 31)) (by decide) dX5_countTold_86 ?_
  refine g_iload_n C 1 rfl rfl dX5_countTold_88 ?_
  refine g_iadd C dX5_countTold_89 ?_
  refine g_top (y := (nI 34)) (nI_add 31 3) ?_
  refine g_iconst C (v := (nI 3)) (by decide) dX5_countTold_90 ?_
  refine g_isub C dX5_countTold_91 ?_
  refine g_top (y := (nI 31)) (by decide) ?_
  refine g_ialdN C 31 e_45 (by decide) (by decide) dX5_countTold_92 ?_
  exact g_iret C E dX5_countTold_93 rfl Sq.rf rfl
set_option maxRecDepth 100000 in
set_option maxHeartbeats 400000 in
theorem c_X5_count_3 (w : GW) (tu : Int64) (sg : Sg) : Kt w yX5_count cX5_count 2 (some .int) 1 [.ref (ad w 44), .int (nI 3)] sg tu (some (.int (sg 45 31))) sg tu := by
  refine Kt.of2 RX5 rfl [(0, .ref (ad w 44)), (1, .int (nI 3))] (by decide) rfl (Nat.le_of_ble_eq_true rfl) (fun z C E => ?_)
  refine g_iload_n C 1 rfl rfl dX5_count_0 ?_
  refine g_i2l C dX5_count_1 ?_
  refine g_lconst C (v := 0) (by decide) dX5_count_2 ?_
  refine g_ldc2 C cn_X5_162 dX5_count_3 ?_
  refine g_callS1 [] C (c_X5_in_t w tu sg (Int32.toInt64 (nI 3)) 0 7 (in_ok (n := 7) (by omega) (by decide))) mt_X5_in ml_X5_53 st_X5_in (by decide) rfl (Nat.le_of_ble_eq_true rfl) dX5_count_6 ?_
  refine g_eq (L' := [(0, .ref (ad w 44)), (1, .int (nI 3))]) (S' := [.int (nI 1)]) rfl rfl rfl rfl ?_
  refine g_if_eq C (tgt := 20) (by decide) dX5_count_9 (fun h9 => absurd h9 (by decide)) (fun h9 => ?_)
  refine g_aload_n C 0 rfl rfl dX5_count_12 ?_
  refine g_iload_n C 1 rfl rfl dX5_count_13 ?_
  refine g_callV1 [] C (c_X5_countTold_3 w tu sg  ) mt_X5_countTold e_44 rfl ml_X5_164 im_X5_countTold se_X5_countTold (by decide) rfl (Nat.le_of_ble_eq_true rfl) dX5_count_14 ?_
  refine g_eq (L' := [(0, .ref (ad w 44)), (1, .int (nI 3))]) (S' := [.int (sg 45 31)]) rfl rfl rfl rfl ?_
  refine g_goto C (tgt := 26) (by decide) dX5_count_17 ?_
  exact g_iret C E dX5_count_26 rfl Sq.rf rfl
set_option maxRecDepth 100000 in
set_option maxHeartbeats 400000 in
theorem c_X5_countTold_4 (w : GW) (tu : Int64) (sg : Sg) : Kt w yX5_countTold cX5_countTold 4 (some .int) 0 [.ref (ad w 44), .int (nI 4)] sg tu (some (.int (sg 45 32))) sg tu := by
  refine Kt.of2 RX5 rfl [(0, .ref (ad w 44)), (1, .int (nI 4))] (by decide) rfl (Nat.le_of_ble_eq_true rfl) (fun z C E => ?_)
  refine g_iload_n C 1 rfl rfl dX5_countTold_0 ?_
  refine g_tabIn C (off := 81) (tgt := 82) dX5_countTold_1 (by decide) (by decide) (by decide) (by decide) ?_
  refine g_aload_n C 0 rfl rfl dX5_countTold_82 ?_
  refine g_getR C (j := 0) cls5 e_44 rfl (by decide) fl_X5_7 dX5_countTold_83 ?_
  refine g_bipush C (v := (nI 31)) (by decide) dX5_countTold_86 ?_
  refine g_iload_n C 1 rfl rfl dX5_countTold_88 ?_
  refine g_iadd C dX5_countTold_89 ?_
  refine g_top (y := (nI 35)) (nI_add 31 4) ?_
  refine g_iconst C (v := (nI 3)) (by decide) dX5_countTold_90 ?_
  refine g_isub C dX5_countTold_91 ?_
  refine g_top (y := (nI 32)) (by decide) ?_
  refine g_ialdN C 32 e_45 (by decide) (by decide) dX5_countTold_92 ?_
  exact g_iret C E dX5_countTold_93 rfl Sq.rf rfl
set_option maxRecDepth 100000 in
set_option maxHeartbeats 400000 in
theorem c_X5_count_4 (w : GW) (tu : Int64) (sg : Sg) : Kt w yX5_count cX5_count 2 (some .int) 1 [.ref (ad w 44), .int (nI 4)] sg tu (some (.int (sg 45 32))) sg tu := by
  refine Kt.of2 RX5 rfl [(0, .ref (ad w 44)), (1, .int (nI 4))] (by decide) rfl (Nat.le_of_ble_eq_true rfl) (fun z C E => ?_)
  refine g_iload_n C 1 rfl rfl dX5_count_0 ?_
  refine g_i2l C dX5_count_1 ?_
  refine g_lconst C (v := 0) (by decide) dX5_count_2 ?_
  refine g_ldc2 C cn_X5_162 dX5_count_3 ?_
  refine g_callS1 [] C (c_X5_in_t w tu sg (Int32.toInt64 (nI 4)) 0 7 (in_ok (n := 7) (by omega) (by decide))) mt_X5_in ml_X5_53 st_X5_in (by decide) rfl (Nat.le_of_ble_eq_true rfl) dX5_count_6 ?_
  refine g_eq (L' := [(0, .ref (ad w 44)), (1, .int (nI 4))]) (S' := [.int (nI 1)]) rfl rfl rfl rfl ?_
  refine g_if_eq C (tgt := 20) (by decide) dX5_count_9 (fun h9 => absurd h9 (by decide)) (fun h9 => ?_)
  refine g_aload_n C 0 rfl rfl dX5_count_12 ?_
  refine g_iload_n C 1 rfl rfl dX5_count_13 ?_
  refine g_callV1 [] C (c_X5_countTold_4 w tu sg  ) mt_X5_countTold e_44 rfl ml_X5_164 im_X5_countTold se_X5_countTold (by decide) rfl (Nat.le_of_ble_eq_true rfl) dX5_count_14 ?_
  refine g_eq (L' := [(0, .ref (ad w 44)), (1, .int (nI 4))]) (S' := [.int (sg 45 32)]) rfl rfl rfl rfl ?_
  refine g_goto C (tgt := 26) (by decide) dX5_count_17 ?_
  exact g_iret C E dX5_count_26 rfl Sq.rf rfl
set_option maxRecDepth 100000 in
set_option maxHeartbeats 400000 in
theorem c_X5_countTold_5 (w : GW) (tu : Int64) (sg : Sg) : Kt w yX5_countTold cX5_countTold 4 (some .int) 0 [.ref (ad w 44), .int (nI 5)] sg tu (some (.int (sg 45 33))) sg tu := by
  refine Kt.of2 RX5 rfl [(0, .ref (ad w 44)), (1, .int (nI 5))] (by decide) rfl (Nat.le_of_ble_eq_true rfl) (fun z C E => ?_)
  refine g_iload_n C 1 rfl rfl dX5_countTold_0 ?_
  refine g_tabIn C (off := 81) (tgt := 82) dX5_countTold_1 (by decide) (by decide) (by decide) (by decide) ?_
  refine g_aload_n C 0 rfl rfl dX5_countTold_82 ?_
  refine g_getR C (j := 0) cls5 e_44 rfl (by decide) fl_X5_7 dX5_countTold_83 ?_
  refine g_bipush C (v := (nI 31)) (by decide) dX5_countTold_86 ?_
  refine g_iload_n C 1 rfl rfl dX5_countTold_88 ?_
  refine g_iadd C dX5_countTold_89 ?_
  refine g_top (y := (nI 36)) (nI_add 31 5) ?_
  refine g_iconst C (v := (nI 3)) (by decide) dX5_countTold_90 ?_
  refine g_isub C dX5_countTold_91 ?_
  refine g_top (y := (nI 33)) (by decide) ?_
  refine g_ialdN C 33 e_45 (by decide) (by decide) dX5_countTold_92 ?_
  exact g_iret C E dX5_countTold_93 rfl Sq.rf rfl
set_option maxRecDepth 100000 in
set_option maxHeartbeats 400000 in
theorem c_X5_count_5 (w : GW) (tu : Int64) (sg : Sg) : Kt w yX5_count cX5_count 2 (some .int) 1 [.ref (ad w 44), .int (nI 5)] sg tu (some (.int (sg 45 33))) sg tu := by
  refine Kt.of2 RX5 rfl [(0, .ref (ad w 44)), (1, .int (nI 5))] (by decide) rfl (Nat.le_of_ble_eq_true rfl) (fun z C E => ?_)
  refine g_iload_n C 1 rfl rfl dX5_count_0 ?_
  refine g_i2l C dX5_count_1 ?_
  refine g_lconst C (v := 0) (by decide) dX5_count_2 ?_
  refine g_ldc2 C cn_X5_162 dX5_count_3 ?_
  refine g_callS1 [] C (c_X5_in_t w tu sg (Int32.toInt64 (nI 5)) 0 7 (in_ok (n := 7) (by omega) (by decide))) mt_X5_in ml_X5_53 st_X5_in (by decide) rfl (Nat.le_of_ble_eq_true rfl) dX5_count_6 ?_
  refine g_eq (L' := [(0, .ref (ad w 44)), (1, .int (nI 5))]) (S' := [.int (nI 1)]) rfl rfl rfl rfl ?_
  refine g_if_eq C (tgt := 20) (by decide) dX5_count_9 (fun h9 => absurd h9 (by decide)) (fun h9 => ?_)
  refine g_aload_n C 0 rfl rfl dX5_count_12 ?_
  refine g_iload_n C 1 rfl rfl dX5_count_13 ?_
  refine g_callV1 [] C (c_X5_countTold_5 w tu sg  ) mt_X5_countTold e_44 rfl ml_X5_164 im_X5_countTold se_X5_countTold (by decide) rfl (Nat.le_of_ble_eq_true rfl) dX5_count_14 ?_
  refine g_eq (L' := [(0, .ref (ad w 44)), (1, .int (nI 5))]) (S' := [.int (sg 45 33)]) rfl rfl rfl rfl ?_
  refine g_goto C (tgt := 26) (by decide) dX5_count_17 ?_
  exact g_iret C E dX5_count_26 rfl Sq.rf rfl
set_option maxRecDepth 100000 in
set_option maxHeartbeats 400000 in
theorem c_X5_countTold_6 (w : GW) (tu : Int64) (sg : Sg) : Kt w yX5_countTold cX5_countTold 4 (some .int) 0 [.ref (ad w 44), .int (nI 6)] sg tu (some (.int (sg 45 34))) sg tu := by
  refine Kt.of2 RX5 rfl [(0, .ref (ad w 44)), (1, .int (nI 6))] (by decide) rfl (Nat.le_of_ble_eq_true rfl) (fun z C E => ?_)
  refine g_iload_n C 1 rfl rfl dX5_countTold_0 ?_
  refine g_tabIn C (off := 81) (tgt := 82) dX5_countTold_1 (by decide) (by decide) (by decide) (by decide) ?_
  refine g_aload_n C 0 rfl rfl dX5_countTold_82 ?_
  refine g_getR C (j := 0) cls5 e_44 rfl (by decide) fl_X5_7 dX5_countTold_83 ?_
  refine g_bipush C (v := (nI 31)) (by decide) dX5_countTold_86 ?_
  refine g_iload_n C 1 rfl rfl dX5_countTold_88 ?_
  refine g_iadd C dX5_countTold_89 ?_
  refine g_top (y := (nI 37)) (nI_add 31 6) ?_
  refine g_iconst C (v := (nI 3)) (by decide) dX5_countTold_90 ?_
  refine g_isub C dX5_countTold_91 ?_
  refine g_top (y := (nI 34)) (by decide) ?_
  refine g_ialdN C 34 e_45 (by decide) (by decide) dX5_countTold_92 ?_
  exact g_iret C E dX5_countTold_93 rfl Sq.rf rfl
set_option maxRecDepth 100000 in
set_option maxHeartbeats 400000 in
theorem c_X5_count_6 (w : GW) (tu : Int64) (sg : Sg) : Kt w yX5_count cX5_count 2 (some .int) 1 [.ref (ad w 44), .int (nI 6)] sg tu (some (.int (sg 45 34))) sg tu := by
  refine Kt.of2 RX5 rfl [(0, .ref (ad w 44)), (1, .int (nI 6))] (by decide) rfl (Nat.le_of_ble_eq_true rfl) (fun z C E => ?_)
  refine g_iload_n C 1 rfl rfl dX5_count_0 ?_
  refine g_i2l C dX5_count_1 ?_
  refine g_lconst C (v := 0) (by decide) dX5_count_2 ?_
  refine g_ldc2 C cn_X5_162 dX5_count_3 ?_
  refine g_callS1 [] C (c_X5_in_t w tu sg (Int32.toInt64 (nI 6)) 0 7 (in_ok (n := 7) (by omega) (by decide))) mt_X5_in ml_X5_53 st_X5_in (by decide) rfl (Nat.le_of_ble_eq_true rfl) dX5_count_6 ?_
  refine g_eq (L' := [(0, .ref (ad w 44)), (1, .int (nI 6))]) (S' := [.int (nI 1)]) rfl rfl rfl rfl ?_
  refine g_if_eq C (tgt := 20) (by decide) dX5_count_9 (fun h9 => absurd h9 (by decide)) (fun h9 => ?_)
  refine g_aload_n C 0 rfl rfl dX5_count_12 ?_
  refine g_iload_n C 1 rfl rfl dX5_count_13 ?_
  refine g_callV1 [] C (c_X5_countTold_6 w tu sg  ) mt_X5_countTold e_44 rfl ml_X5_164 im_X5_countTold se_X5_countTold (by decide) rfl (Nat.le_of_ble_eq_true rfl) dX5_count_14 ?_
  refine g_eq (L' := [(0, .ref (ad w 44)), (1, .int (nI 6))]) (S' := [.int (sg 45 34)]) rfl rfl rfl rfl ?_
  refine g_goto C (tgt := 26) (by decide) dX5_count_17 ?_
  exact g_iret C E dX5_count_26 rfl Sq.rf rfl
set_option maxRecDepth 100000 in
set_option maxHeartbeats 400000 in
theorem c_X5_countTold_7 (w : GW) (tu : Int64) (sg : Sg) : Kt w yX5_countTold cX5_countTold 4 (some .int) 1 [.ref (ad w 44), .int (nI 7)] sg tu (some (.int (wsX (sg 45) 6))) sg tu := by
  refine Kt.of2 RX5 rfl [(0, .ref (ad w 44)), (1, .int (nI 7))] (by decide) rfl (Nat.le_of_ble_eq_true rfl) (fun z C E => ?_)
  refine g_iload_n C 1 rfl rfl dX5_countTold_0 ?_
  refine g_tabOut C (tgt := 94) dX5_countTold_1 (by decide) (by decide) ?_
  refine g_iconst C (v := (nI 0)) (by decide) dX5_countTold_94 ?_
  refine g_istore_n C (L' := [(2, .int (nI 0)), (0, .ref (ad w 44)), (1, .int (nI 7))]) rfl (by decide) rfl dX5_countTold_95 ?_
  refine g_iconst C (v := (nI 0)) (by decide) dX5_countTold_96 ?_
  refine g_istore_n C (L' := [(3, .int (nI 0)), (2, .int (nI 0)), (0, .ref (ad w 44)), (1, .int (nI 7))]) rfl (by decide) rfl dX5_countTold_97 ?_
  have lp : ∀ (nf i : Nat) (m : Int32), 6 < i + nf → i ≤ 6 → (m = wsX (sg 45) i) → G z w 4 sg tu 98 [(3, .int (nI i)), (2, .int m), (0, .ref (ad w 44)), (1, .int (nI 7))] [] := by
    intro nf
    induction nf with
    | zero => intro i m h1 h2 hI; exact absurd h1 (by omega)
    | succ nf ihlp =>
      intro i m h1 h2 hI
      refine g_iload_n C 0 rfl rfl dX5_countTold_98 ?_
      refine g_bipush C (v := (nI 6)) (by decide) dX5_countTold_99 ?_
      refine g_icmpN_ge C i 6 (by omega) (by omega) (tgt := 125) (by decide) dX5_countTold_101 (fun h101 => ?_) (fun h101 => ?_)
      ·
        have hiN : 6 = i := by omega
        subst hiN
        refine g_iload_n C 1 rfl rfl dX5_countTold_125 ?_
        exact g_iret C E dX5_countTold_126 hI Sq.rf rfl
      ·
        refine g_iload_n C 1 rfl rfl dX5_countTold_104 ?_
        refine g_aload_n C 2 rfl rfl dX5_countTold_105 ?_
        refine g_getR C (j := 0) cls5 e_44 rfl (by decide) fl_X5_7 dX5_countTold_106 ?_
        refine g_bipush C (v := (nI 6)) (by decide) dX5_countTold_109 ?_
        refine g_iload_n C 0 rfl rfl dX5_countTold_111 ?_
        refine g_iadd C dX5_countTold_112 ?_
        refine g_top (y := (nI (6 + i))) (nI_add 6 i) ?_
        refine g_ialdN C (6 + i) e_45 (by omega) (by decide) dX5_countTold_113 ?_
        refine g_callS1 [.int m] C (c_X5_wornMany w tu sg (sg 45 (6 + i)) ) mt_X5_wornMany ml_X5_103 st_X5_wornMany (by decide) rfl (Nat.le_of_ble_eq_true rfl) dX5_countTold_114 ?_
        refine g_eq (L' := [(3, .int (nI i)), (2, .int m), (0, .ref (ad w 44)), (1, .int (nI 7))]) (S' := [.int (wmX (sg 45 (6 + i)) 10), .int m]) rfl rfl rfl rfl ?_
        refine g_iadd C dX5_countTold_117 ?_
        refine g_istore_n C (L' := [(2, .int (m + (wmX (sg 45 (6 + i)) 10))), (3, .int (nI i)), (0, .ref (ad w 44)), (1, .int (nI 7))]) rfl (by decide) rfl dX5_countTold_118 ?_
        refine g_iinc C (n := 1) (v := (nI (i + 1))) (L' := [(3, .int (nI (i + 1))), (2, .int (m + (wmX (sg 45 (6 + i)) 10))), (0, .ref (ad w 44)), (1, .int (nI 7))]) 1 rfl (nI_add i 1) (by decide) rfl dX5_countTold_119 ?_
        refine g_goto C (tgt := 98) (by decide) dX5_countTold_122 ?_
        refine g_sub (L' := [(3, .int (nI (i + 1))), (2, .int (m + (wmX (sg 45 (6 + i)) 10))), (0, .ref (ad w 44)), (1, .int (nI 7))]) [0, 1, 2, 3] rfl ?_
        exact ihlp (i + 1) (m + (wmX (sg 45 (6 + i)) 10)) (by omega) (by omega) (by rw [hI]; rfl)
  exact lp (6 + 1) 0 (nI 0) (by omega) (by omega) rfl
set_option maxRecDepth 100000 in
set_option maxHeartbeats 400000 in
theorem c_X5_count_7 (w : GW) (tu : Int64) (sg : Sg) : Kt w yX5_count cX5_count 2 (some .int) 2 [.ref (ad w 44), .int (nI 7)] sg tu (some (.int (wsX (sg 45) 6))) sg tu := by
  refine Kt.of2 RX5 rfl [(0, .ref (ad w 44)), (1, .int (nI 7))] (by decide) rfl (Nat.le_of_ble_eq_true rfl) (fun z C E => ?_)
  refine g_iload_n C 1 rfl rfl dX5_count_0 ?_
  refine g_i2l C dX5_count_1 ?_
  refine g_lconst C (v := 0) (by decide) dX5_count_2 ?_
  refine g_ldc2 C cn_X5_162 dX5_count_3 ?_
  refine g_callS1 [] C (c_X5_in_t w tu sg (Int32.toInt64 (nI 7)) 0 7 (in_ok (n := 7) (by omega) (by decide))) mt_X5_in ml_X5_53 st_X5_in (by decide) rfl (Nat.le_of_ble_eq_true rfl) dX5_count_6 ?_
  refine g_eq (L' := [(0, .ref (ad w 44)), (1, .int (nI 7))]) (S' := [.int (nI 1)]) rfl rfl rfl rfl ?_
  refine g_if_eq C (tgt := 20) (by decide) dX5_count_9 (fun h9 => absurd h9 (by decide)) (fun h9 => ?_)
  refine g_aload_n C 0 rfl rfl dX5_count_12 ?_
  refine g_iload_n C 1 rfl rfl dX5_count_13 ?_
  refine g_callV1 [] C (c_X5_countTold_7 w tu sg  ) mt_X5_countTold e_44 rfl ml_X5_164 im_X5_countTold se_X5_countTold (by decide) rfl (Nat.le_of_ble_eq_true rfl) dX5_count_14 ?_
  refine g_eq (L' := [(0, .ref (ad w 44)), (1, .int (nI 7))]) (S' := [.int (wsX (sg 45) 6)]) rfl rfl rfl rfl ?_
  refine g_goto C (tgt := 26) (by decide) dX5_count_17 ?_
  exact g_iret C E dX5_count_26 rfl Sq.rf rfl
set_option maxRecDepth 100000 in
set_option maxHeartbeats 400000 in
theorem c_X5_count_bad (w : GW) (tu : Int64) (sg : Sg) (v : Int32) (h : ¬ (0 ≤ Int32.toInt64 v ∧ Int32.toInt64 v ≤ 7)) : Kt w yX5_count cX5_count 2 (some .int) 1 [.ref (ad w 44), .int v] sg tu (some (.int (-2))) (us sg 48 (upd (sg 48) 0 ((sg 48 0) + nI 1))) tu := by
  refine Kt.of2 RX5 rfl [(0, .ref (ad w 44)), (1, .int v)] (by decide) rfl (Nat.le_of_ble_eq_true rfl) (fun z C E => ?_)
  refine g_iload_n C 1 rfl rfl dX5_count_0 ?_
  refine g_i2l C dX5_count_1 ?_
  refine g_lconst C (v := 0) (by decide) dX5_count_2 ?_
  refine g_ldc2 C cn_X5_162 dX5_count_3 ?_
  refine g_callS1 [] C (c_X5_in w tu sg (Int32.toInt64 v) 0 7 ) mt_X5_in ml_X5_53 st_X5_in (by decide) rfl (Nat.le_of_ble_eq_true rfl) dX5_count_6 ?_
  refine g_eq (L' := [(0, .ref (ad w 44)), (1, .int v)]) (S' := [.int (bI (0 ≤ (Int32.toInt64 v) ∧ (Int32.toInt64 v) ≤ 7))]) rfl rfl rfl rfl ?_
  refine g_bif_eq C (tgt := 20) (by decide) dX5_count_9 (fun h9 => ?_) (fun h9 => absurd h9 h)
  refine g_aload_n C 0 rfl rfl dX5_count_20 ?_
  refine g_bipush C (v := (-2)) (by decide) dX5_count_21 ?_
  refine g_callV1 [] C (c_X5_refuses_bad w tu sg  ) mt_X5_refuses e_44 rfl ml_X5_44 im_X5_refuses se_X5_refuses (by decide) rfl (Nat.le_of_ble_eq_true rfl) dX5_count_23 ?_
  refine g_eq (sg' := (us sg 48 (upd (sg 48) 0 ((sg 48 0) + nI 1)))) (L' := [(0, .ref (ad w 44)), (1, .int v)]) (S' := [.int (-2)]) rfl rfl rfl rfl ?_
  exact g_iret C E dX5_count_26 rfl Sq.rf rfl
set_option maxRecDepth 100000 in
set_option maxHeartbeats 400000 in
theorem c_X5_toldAt_0 (w : GW) (tu : Int64) (sg : Sg) : Kt w yX5_toldAt cX5_toldAt 2 (some .int) 0 [.ref (ad w 44), .int (nI 0)] sg tu (some (.int (sg 48 0))) sg tu := by
  refine Kt.of2 RX5 rfl [(0, .ref (ad w 44)), (1, .int (nI 0))] (by decide) rfl (Nat.le_of_ble_eq_true rfl) (fun z C E => ?_)
  refine g_iload_n C 1 rfl rfl dX5_toldAt_0 ?_
  refine g_iconst C (v := (nI 3)) (by decide) dX5_toldAt_1 ?_
  refine g_icmpN_ge C 0 3 (by omega) (by omega) (tgt := 14) (by decide) dX5_toldAt_2 (fun h2 => absurd h2 (by decide)) (fun h2 => ?_)
  refine g_aload_n C 0 rfl rfl dX5_toldAt_5 ?_
  refine g_getR C (j := 4) cls5 e_44 rfl (by decide) fl_X5_19 dX5_toldAt_6 ?_
  refine g_iload_n C 1 rfl rfl dX5_toldAt_9 ?_
  refine g_ialdN C 0 e_48 (by decide) (by decide) dX5_toldAt_10 ?_
  refine g_goto C (tgt := 30) (by decide) dX5_toldAt_11 ?_
  exact g_iret C E dX5_toldAt_30 rfl Sq.rf rfl
set_option maxRecDepth 100000 in
set_option maxHeartbeats 400000 in
theorem c_X5_told_0 (w : GW) (tu : Int64) (sg : Sg) : Kt w yX5_told cX5_told 2 (some .int) 1 [.ref (ad w 44), .int (nI 0)] sg tu (some (.int (sg 48 0))) sg tu := by
  refine Kt.of2 RX5 rfl [(0, .ref (ad w 44)), (1, .int (nI 0))] (by decide) rfl (Nat.le_of_ble_eq_true rfl) (fun z C E => ?_)
  refine g_iload_n C 1 rfl rfl dX5_told_0 ?_
  refine g_i2l C dX5_told_1 ?_
  refine g_lconst C (v := 0) (by decide) dX5_told_2 ?_
  refine g_ldc2 C cn_X5_216 dX5_told_3 ?_
  refine g_callS1 [] C (c_X5_in_t w tu sg (Int32.toInt64 (nI 0)) 0 4 (in_ok (n := 4) (by omega) (by decide))) mt_X5_in ml_X5_53 st_X5_in (by decide) rfl (Nat.le_of_ble_eq_true rfl) dX5_told_6 ?_
  refine g_eq (L' := [(0, .ref (ad w 44)), (1, .int (nI 0))]) (S' := [.int (nI 1)]) rfl rfl rfl rfl ?_
  refine g_if_eq C (tgt := 20) (by decide) dX5_told_9 (fun h9 => absurd h9 (by decide)) (fun h9 => ?_)
  refine g_aload_n C 0 rfl rfl dX5_told_12 ?_
  refine g_iload_n C 1 rfl rfl dX5_told_13 ?_
  refine g_callV1 [] C (c_X5_toldAt_0 w tu sg  ) mt_X5_toldAt e_44 rfl ml_X5_218 im_X5_toldAt se_X5_toldAt (by decide) rfl (Nat.le_of_ble_eq_true rfl) dX5_told_14 ?_
  refine g_eq (L' := [(0, .ref (ad w 44)), (1, .int (nI 0))]) (S' := [.int (sg 48 0)]) rfl rfl rfl rfl ?_
  refine g_goto C (tgt := 26) (by decide) dX5_told_17 ?_
  exact g_iret C E dX5_told_26 rfl Sq.rf rfl
set_option maxRecDepth 100000 in
set_option maxHeartbeats 400000 in
theorem c_X5_toldAt_1 (w : GW) (tu : Int64) (sg : Sg) : Kt w yX5_toldAt cX5_toldAt 2 (some .int) 0 [.ref (ad w 44), .int (nI 1)] sg tu (some (.int (sg 48 1))) sg tu := by
  refine Kt.of2 RX5 rfl [(0, .ref (ad w 44)), (1, .int (nI 1))] (by decide) rfl (Nat.le_of_ble_eq_true rfl) (fun z C E => ?_)
  refine g_iload_n C 1 rfl rfl dX5_toldAt_0 ?_
  refine g_iconst C (v := (nI 3)) (by decide) dX5_toldAt_1 ?_
  refine g_icmpN_ge C 1 3 (by omega) (by omega) (tgt := 14) (by decide) dX5_toldAt_2 (fun h2 => absurd h2 (by decide)) (fun h2 => ?_)
  refine g_aload_n C 0 rfl rfl dX5_toldAt_5 ?_
  refine g_getR C (j := 4) cls5 e_44 rfl (by decide) fl_X5_19 dX5_toldAt_6 ?_
  refine g_iload_n C 1 rfl rfl dX5_toldAt_9 ?_
  refine g_ialdN C 1 e_48 (by decide) (by decide) dX5_toldAt_10 ?_
  refine g_goto C (tgt := 30) (by decide) dX5_toldAt_11 ?_
  exact g_iret C E dX5_toldAt_30 rfl Sq.rf rfl
set_option maxRecDepth 100000 in
set_option maxHeartbeats 400000 in
theorem c_X5_told_1 (w : GW) (tu : Int64) (sg : Sg) : Kt w yX5_told cX5_told 2 (some .int) 1 [.ref (ad w 44), .int (nI 1)] sg tu (some (.int (sg 48 1))) sg tu := by
  refine Kt.of2 RX5 rfl [(0, .ref (ad w 44)), (1, .int (nI 1))] (by decide) rfl (Nat.le_of_ble_eq_true rfl) (fun z C E => ?_)
  refine g_iload_n C 1 rfl rfl dX5_told_0 ?_
  refine g_i2l C dX5_told_1 ?_
  refine g_lconst C (v := 0) (by decide) dX5_told_2 ?_
  refine g_ldc2 C cn_X5_216 dX5_told_3 ?_
  refine g_callS1 [] C (c_X5_in_t w tu sg (Int32.toInt64 (nI 1)) 0 4 (in_ok (n := 4) (by omega) (by decide))) mt_X5_in ml_X5_53 st_X5_in (by decide) rfl (Nat.le_of_ble_eq_true rfl) dX5_told_6 ?_
  refine g_eq (L' := [(0, .ref (ad w 44)), (1, .int (nI 1))]) (S' := [.int (nI 1)]) rfl rfl rfl rfl ?_
  refine g_if_eq C (tgt := 20) (by decide) dX5_told_9 (fun h9 => absurd h9 (by decide)) (fun h9 => ?_)
  refine g_aload_n C 0 rfl rfl dX5_told_12 ?_
  refine g_iload_n C 1 rfl rfl dX5_told_13 ?_
  refine g_callV1 [] C (c_X5_toldAt_1 w tu sg  ) mt_X5_toldAt e_44 rfl ml_X5_218 im_X5_toldAt se_X5_toldAt (by decide) rfl (Nat.le_of_ble_eq_true rfl) dX5_told_14 ?_
  refine g_eq (L' := [(0, .ref (ad w 44)), (1, .int (nI 1))]) (S' := [.int (sg 48 1)]) rfl rfl rfl rfl ?_
  refine g_goto C (tgt := 26) (by decide) dX5_told_17 ?_
  exact g_iret C E dX5_told_26 rfl Sq.rf rfl
set_option maxRecDepth 100000 in
set_option maxHeartbeats 400000 in
theorem c_X5_toldAt_2 (w : GW) (tu : Int64) (sg : Sg) : Kt w yX5_toldAt cX5_toldAt 2 (some .int) 0 [.ref (ad w 44), .int (nI 2)] sg tu (some (.int (sg 48 2))) sg tu := by
  refine Kt.of2 RX5 rfl [(0, .ref (ad w 44)), (1, .int (nI 2))] (by decide) rfl (Nat.le_of_ble_eq_true rfl) (fun z C E => ?_)
  refine g_iload_n C 1 rfl rfl dX5_toldAt_0 ?_
  refine g_iconst C (v := (nI 3)) (by decide) dX5_toldAt_1 ?_
  refine g_icmpN_ge C 2 3 (by omega) (by omega) (tgt := 14) (by decide) dX5_toldAt_2 (fun h2 => absurd h2 (by decide)) (fun h2 => ?_)
  refine g_aload_n C 0 rfl rfl dX5_toldAt_5 ?_
  refine g_getR C (j := 4) cls5 e_44 rfl (by decide) fl_X5_19 dX5_toldAt_6 ?_
  refine g_iload_n C 1 rfl rfl dX5_toldAt_9 ?_
  refine g_ialdN C 2 e_48 (by decide) (by decide) dX5_toldAt_10 ?_
  refine g_goto C (tgt := 30) (by decide) dX5_toldAt_11 ?_
  exact g_iret C E dX5_toldAt_30 rfl Sq.rf rfl
set_option maxRecDepth 100000 in
set_option maxHeartbeats 400000 in
theorem c_X5_told_2 (w : GW) (tu : Int64) (sg : Sg) : Kt w yX5_told cX5_told 2 (some .int) 1 [.ref (ad w 44), .int (nI 2)] sg tu (some (.int (sg 48 2))) sg tu := by
  refine Kt.of2 RX5 rfl [(0, .ref (ad w 44)), (1, .int (nI 2))] (by decide) rfl (Nat.le_of_ble_eq_true rfl) (fun z C E => ?_)
  refine g_iload_n C 1 rfl rfl dX5_told_0 ?_
  refine g_i2l C dX5_told_1 ?_
  refine g_lconst C (v := 0) (by decide) dX5_told_2 ?_
  refine g_ldc2 C cn_X5_216 dX5_told_3 ?_
  refine g_callS1 [] C (c_X5_in_t w tu sg (Int32.toInt64 (nI 2)) 0 4 (in_ok (n := 4) (by omega) (by decide))) mt_X5_in ml_X5_53 st_X5_in (by decide) rfl (Nat.le_of_ble_eq_true rfl) dX5_told_6 ?_
  refine g_eq (L' := [(0, .ref (ad w 44)), (1, .int (nI 2))]) (S' := [.int (nI 1)]) rfl rfl rfl rfl ?_
  refine g_if_eq C (tgt := 20) (by decide) dX5_told_9 (fun h9 => absurd h9 (by decide)) (fun h9 => ?_)
  refine g_aload_n C 0 rfl rfl dX5_told_12 ?_
  refine g_iload_n C 1 rfl rfl dX5_told_13 ?_
  refine g_callV1 [] C (c_X5_toldAt_2 w tu sg  ) mt_X5_toldAt e_44 rfl ml_X5_218 im_X5_toldAt se_X5_toldAt (by decide) rfl (Nat.le_of_ble_eq_true rfl) dX5_told_14 ?_
  refine g_eq (L' := [(0, .ref (ad w 44)), (1, .int (nI 2))]) (S' := [.int (sg 48 2)]) rfl rfl rfl rfl ?_
  refine g_goto C (tgt := 26) (by decide) dX5_told_17 ?_
  exact g_iret C E dX5_told_26 rfl Sq.rf rfl
set_option maxRecDepth 100000 in
set_option maxHeartbeats 400000 in
theorem c_X5_toldAt_3 (w : GW) (tu : Int64) (sg : Sg) : Kt w yX5_toldAt cX5_toldAt 2 (some .int) 0 [.ref (ad w 44), .int (nI 3)] sg tu (some (.int (sg 44 6))) sg tu := by
  refine Kt.of2 RX5 rfl [(0, .ref (ad w 44)), (1, .int (nI 3))] (by decide) rfl (Nat.le_of_ble_eq_true rfl) (fun z C E => ?_)
  refine g_iload_n C 1 rfl rfl dX5_toldAt_0 ?_
  refine g_iconst C (v := (nI 3)) (by decide) dX5_toldAt_1 ?_
  refine g_icmpN_ge C 3 3 (by omega) (by omega) (tgt := 14) (by decide) dX5_toldAt_2 (fun h2 => ?_) (fun h2 => absurd h2 (by decide))
  refine g_iload_n C 1 rfl rfl dX5_toldAt_14 ?_
  refine g_iconst C (v := (nI 3)) (by decide) dX5_toldAt_15 ?_
  refine g_icmpN_ne C 3 3 (by omega) (by omega) (tgt := 26) (by decide) dX5_toldAt_16 (fun h16 => absurd h16 (by decide)) (fun h16 => ?_)
  refine g_aload_n C 0 rfl rfl dX5_toldAt_19 ?_
  refine g_getI C (j := 6) cls5 e_44 rfl (by decide) fl_X5_180 dX5_toldAt_20 ?_
  refine g_goto C (tgt := 30) (by decide) dX5_toldAt_23 ?_
  exact g_iret C E dX5_toldAt_30 rfl Sq.rf rfl
set_option maxRecDepth 100000 in
set_option maxHeartbeats 400000 in
theorem c_X5_told_3 (w : GW) (tu : Int64) (sg : Sg) : Kt w yX5_told cX5_told 2 (some .int) 1 [.ref (ad w 44), .int (nI 3)] sg tu (some (.int (sg 44 6))) sg tu := by
  refine Kt.of2 RX5 rfl [(0, .ref (ad w 44)), (1, .int (nI 3))] (by decide) rfl (Nat.le_of_ble_eq_true rfl) (fun z C E => ?_)
  refine g_iload_n C 1 rfl rfl dX5_told_0 ?_
  refine g_i2l C dX5_told_1 ?_
  refine g_lconst C (v := 0) (by decide) dX5_told_2 ?_
  refine g_ldc2 C cn_X5_216 dX5_told_3 ?_
  refine g_callS1 [] C (c_X5_in_t w tu sg (Int32.toInt64 (nI 3)) 0 4 (in_ok (n := 4) (by omega) (by decide))) mt_X5_in ml_X5_53 st_X5_in (by decide) rfl (Nat.le_of_ble_eq_true rfl) dX5_told_6 ?_
  refine g_eq (L' := [(0, .ref (ad w 44)), (1, .int (nI 3))]) (S' := [.int (nI 1)]) rfl rfl rfl rfl ?_
  refine g_if_eq C (tgt := 20) (by decide) dX5_told_9 (fun h9 => absurd h9 (by decide)) (fun h9 => ?_)
  refine g_aload_n C 0 rfl rfl dX5_told_12 ?_
  refine g_iload_n C 1 rfl rfl dX5_told_13 ?_
  refine g_callV1 [] C (c_X5_toldAt_3 w tu sg  ) mt_X5_toldAt e_44 rfl ml_X5_218 im_X5_toldAt se_X5_toldAt (by decide) rfl (Nat.le_of_ble_eq_true rfl) dX5_told_14 ?_
  refine g_eq (L' := [(0, .ref (ad w 44)), (1, .int (nI 3))]) (S' := [.int (sg 44 6)]) rfl rfl rfl rfl ?_
  refine g_goto C (tgt := 26) (by decide) dX5_told_17 ?_
  exact g_iret C E dX5_told_26 rfl Sq.rf rfl
set_option maxRecDepth 100000 in
set_option maxHeartbeats 400000 in
theorem c_X5_toldAt_4 (w : GW) (tu : Int64) (sg : Sg) : Kt w yX5_toldAt cX5_toldAt 2 (some .int) 0 [.ref (ad w 44), .int (nI 4)] sg tu (some (.int (sg 44 3))) sg tu := by
  refine Kt.of2 RX5 rfl [(0, .ref (ad w 44)), (1, .int (nI 4))] (by decide) rfl (Nat.le_of_ble_eq_true rfl) (fun z C E => ?_)
  refine g_iload_n C 1 rfl rfl dX5_toldAt_0 ?_
  refine g_iconst C (v := (nI 3)) (by decide) dX5_toldAt_1 ?_
  refine g_icmpN_ge C 4 3 (by omega) (by omega) (tgt := 14) (by decide) dX5_toldAt_2 (fun h2 => ?_) (fun h2 => absurd h2 (by decide))
  refine g_iload_n C 1 rfl rfl dX5_toldAt_14 ?_
  refine g_iconst C (v := (nI 3)) (by decide) dX5_toldAt_15 ?_
  refine g_icmpN_ne C 4 3 (by omega) (by omega) (tgt := 26) (by decide) dX5_toldAt_16 (fun h16 => ?_) (fun h16 => absurd h16 (by decide))
  refine g_aload_n C 0 rfl rfl dX5_toldAt_26 ?_
  refine g_getI C (j := 3) cls5 e_44 rfl (by decide) fl_X5_40 dX5_toldAt_27 ?_
  exact g_iret C E dX5_toldAt_30 rfl Sq.rf rfl
set_option maxRecDepth 100000 in
set_option maxHeartbeats 400000 in
theorem c_X5_told_4 (w : GW) (tu : Int64) (sg : Sg) : Kt w yX5_told cX5_told 2 (some .int) 1 [.ref (ad w 44), .int (nI 4)] sg tu (some (.int (sg 44 3))) sg tu := by
  refine Kt.of2 RX5 rfl [(0, .ref (ad w 44)), (1, .int (nI 4))] (by decide) rfl (Nat.le_of_ble_eq_true rfl) (fun z C E => ?_)
  refine g_iload_n C 1 rfl rfl dX5_told_0 ?_
  refine g_i2l C dX5_told_1 ?_
  refine g_lconst C (v := 0) (by decide) dX5_told_2 ?_
  refine g_ldc2 C cn_X5_216 dX5_told_3 ?_
  refine g_callS1 [] C (c_X5_in_t w tu sg (Int32.toInt64 (nI 4)) 0 4 (in_ok (n := 4) (by omega) (by decide))) mt_X5_in ml_X5_53 st_X5_in (by decide) rfl (Nat.le_of_ble_eq_true rfl) dX5_told_6 ?_
  refine g_eq (L' := [(0, .ref (ad w 44)), (1, .int (nI 4))]) (S' := [.int (nI 1)]) rfl rfl rfl rfl ?_
  refine g_if_eq C (tgt := 20) (by decide) dX5_told_9 (fun h9 => absurd h9 (by decide)) (fun h9 => ?_)
  refine g_aload_n C 0 rfl rfl dX5_told_12 ?_
  refine g_iload_n C 1 rfl rfl dX5_told_13 ?_
  refine g_callV1 [] C (c_X5_toldAt_4 w tu sg  ) mt_X5_toldAt e_44 rfl ml_X5_218 im_X5_toldAt se_X5_toldAt (by decide) rfl (Nat.le_of_ble_eq_true rfl) dX5_told_14 ?_
  refine g_eq (L' := [(0, .ref (ad w 44)), (1, .int (nI 4))]) (S' := [.int (sg 44 3)]) rfl rfl rfl rfl ?_
  refine g_goto C (tgt := 26) (by decide) dX5_told_17 ?_
  exact g_iret C E dX5_told_26 rfl Sq.rf rfl
set_option maxRecDepth 100000 in
set_option maxHeartbeats 400000 in
theorem c_X5_told_bad (w : GW) (tu : Int64) (sg : Sg) (v : Int32) (h : ¬ (0 ≤ Int32.toInt64 v ∧ Int32.toInt64 v ≤ 4)) : Kt w yX5_told cX5_told 2 (some .int) 1 [.ref (ad w 44), .int v] sg tu (some (.int (-2))) (us sg 48 (upd (sg 48) 0 ((sg 48 0) + nI 1))) tu := by
  refine Kt.of2 RX5 rfl [(0, .ref (ad w 44)), (1, .int v)] (by decide) rfl (Nat.le_of_ble_eq_true rfl) (fun z C E => ?_)
  refine g_iload_n C 1 rfl rfl dX5_told_0 ?_
  refine g_i2l C dX5_told_1 ?_
  refine g_lconst C (v := 0) (by decide) dX5_told_2 ?_
  refine g_ldc2 C cn_X5_216 dX5_told_3 ?_
  refine g_callS1 [] C (c_X5_in w tu sg (Int32.toInt64 v) 0 4 ) mt_X5_in ml_X5_53 st_X5_in (by decide) rfl (Nat.le_of_ble_eq_true rfl) dX5_told_6 ?_
  refine g_eq (L' := [(0, .ref (ad w 44)), (1, .int v)]) (S' := [.int (bI (0 ≤ (Int32.toInt64 v) ∧ (Int32.toInt64 v) ≤ 4))]) rfl rfl rfl rfl ?_
  refine g_bif_eq C (tgt := 20) (by decide) dX5_told_9 (fun h9 => ?_) (fun h9 => absurd h9 h)
  refine g_aload_n C 0 rfl rfl dX5_told_20 ?_
  refine g_bipush C (v := (-2)) (by decide) dX5_told_21 ?_
  refine g_callV1 [] C (c_X5_refuses_bad w tu sg  ) mt_X5_refuses e_44 rfl ml_X5_44 im_X5_refuses se_X5_refuses (by decide) rfl (Nat.le_of_ble_eq_true rfl) dX5_told_23 ?_
  refine g_eq (sg' := (us sg 48 (upd (sg 48) 0 ((sg 48 0) + nI 1)))) (L' := [(0, .ref (ad w 44)), (1, .int v)]) (S' := [.int (-2)]) rfl rfl rfl rfl ?_
  exact g_iret C E dX5_told_26 rfl Sq.rf rfl
set_option maxRecDepth 100000 in
set_option maxHeartbeats 400000 in
theorem c_X5_turns_0 (w : GW) (tu : Int64) (sg : Sg) (n : Nat) (hn : n ≤ 999999) : Kt w yX5_turns cX5_turns 3 (some .int) 1 [.ref (ad w 44), .int (nI n), .int (nI 0)] sg tu (some (.int (nI (smP 0 n 7)))) (us sg 52 (fun k => pI 0 (mkP 0 n k))) tu := by
  refine Kt.of2 RX5 rfl [(0, .ref (ad w 44)), (1, .int (nI n)), (2, .int (nI 0))] (by decide) rfl (Nat.le_of_ble_eq_true rfl) (fun z C E => ?_)
  refine g_iload_n C 1 rfl rfl dX5_turns_0 ?_
  refine g_i2l C dX5_turns_1 ?_
  refine g_lconst C (v := 0) (by decide) dX5_turns_2 ?_
  refine g_ldc2 C cn_X5_77 dX5_turns_3 ?_
  refine g_callS1 [] C (c_X5_in_t w tu sg (Int32.toInt64 (nI n)) 0 999999 (in_ok (n := 999999) (by omega) (by decide))) mt_X5_in ml_X5_53 st_X5_in (by decide) rfl (Nat.le_of_ble_eq_true rfl) dX5_turns_6 ?_
  refine g_eq (L' := [(0, .ref (ad w 44)), (1, .int (nI n)), (2, .int (nI 0))]) (S' := [.int (nI 1)]) rfl rfl rfl rfl ?_
  refine g_if_eq C (tgt := 31) (by decide) dX5_turns_9 (fun h9 => absurd h9 (by decide)) (fun h9 => ?_)
  refine g_iload_n C 2 rfl rfl dX5_turns_12 ?_
  refine g_i2l C dX5_turns_13 ?_
  refine g_lconst C (v := 0) (by decide) dX5_turns_14 ?_
  refine g_lconst C (v := 1) (by decide) dX5_turns_15 ?_
  refine g_callS1 [] C (c_X5_in_t w tu sg (Int32.toInt64 (nI 0)) 0 1 (in_ok (n := 1) (by omega) (by decide))) mt_X5_in ml_X5_53 st_X5_in (by decide) rfl (Nat.le_of_ble_eq_true rfl) dX5_turns_16 ?_
  refine g_eq (L' := [(0, .ref (ad w 44)), (1, .int (nI n)), (2, .int (nI 0))]) (S' := [.int (nI 1)]) rfl rfl rfl rfl ?_
  refine g_if_eq C (tgt := 31) (by decide) dX5_turns_19 (fun h19 => absurd h19 (by decide)) (fun h19 => ?_)
  refine g_aload_n C 0 rfl rfl dX5_turns_22 ?_
  refine g_iload_n C 1 rfl rfl dX5_turns_23 ?_
  refine g_iload_n C 2 rfl rfl dX5_turns_24 ?_
  refine g_callV1 [] C (c_X5_laysPlan_0 w tu sg n (by omega)) mt_X5_laysPlan e_44 rfl ml_X5_83 im_X5_laysPlan se_X5_laysPlan (by decide) rfl (Nat.le_of_ble_eq_true rfl) dX5_turns_25 ?_
  refine g_eq (sg' := (us sg 52 (fun k => pI 0 (mkP 0 n k)))) (L' := [(0, .ref (ad w 44)), (1, .int (nI n)), (2, .int (nI 0))]) (S' := [.int (nI (smP 0 n 7))]) rfl rfl rfl rfl ?_
  refine g_goto C (tgt := 37) (by decide) dX5_turns_28 ?_
  exact g_iret C E dX5_turns_37 rfl Sq.rf rfl
set_option maxRecDepth 100000 in
set_option maxHeartbeats 400000 in
theorem c_X5_turns_1 (w : GW) (tu : Int64) (sg : Sg) (n : Nat) (hn : n ≤ 999999) : Kt w yX5_turns cX5_turns 3 (some .int) 1 [.ref (ad w 44), .int (nI n), .int (nI 1)] sg tu (some (.int (nI (smP 1 n 7)))) (us sg 52 (fun k => pI 1 (mkP 1 n k))) tu := by
  refine Kt.of2 RX5 rfl [(0, .ref (ad w 44)), (1, .int (nI n)), (2, .int (nI 1))] (by decide) rfl (Nat.le_of_ble_eq_true rfl) (fun z C E => ?_)
  refine g_iload_n C 1 rfl rfl dX5_turns_0 ?_
  refine g_i2l C dX5_turns_1 ?_
  refine g_lconst C (v := 0) (by decide) dX5_turns_2 ?_
  refine g_ldc2 C cn_X5_77 dX5_turns_3 ?_
  refine g_callS1 [] C (c_X5_in_t w tu sg (Int32.toInt64 (nI n)) 0 999999 (in_ok (n := 999999) (by omega) (by decide))) mt_X5_in ml_X5_53 st_X5_in (by decide) rfl (Nat.le_of_ble_eq_true rfl) dX5_turns_6 ?_
  refine g_eq (L' := [(0, .ref (ad w 44)), (1, .int (nI n)), (2, .int (nI 1))]) (S' := [.int (nI 1)]) rfl rfl rfl rfl ?_
  refine g_if_eq C (tgt := 31) (by decide) dX5_turns_9 (fun h9 => absurd h9 (by decide)) (fun h9 => ?_)
  refine g_iload_n C 2 rfl rfl dX5_turns_12 ?_
  refine g_i2l C dX5_turns_13 ?_
  refine g_lconst C (v := 0) (by decide) dX5_turns_14 ?_
  refine g_lconst C (v := 1) (by decide) dX5_turns_15 ?_
  refine g_callS1 [] C (c_X5_in_t w tu sg (Int32.toInt64 (nI 1)) 0 1 (in_ok (n := 1) (by omega) (by decide))) mt_X5_in ml_X5_53 st_X5_in (by decide) rfl (Nat.le_of_ble_eq_true rfl) dX5_turns_16 ?_
  refine g_eq (L' := [(0, .ref (ad w 44)), (1, .int (nI n)), (2, .int (nI 1))]) (S' := [.int (nI 1)]) rfl rfl rfl rfl ?_
  refine g_if_eq C (tgt := 31) (by decide) dX5_turns_19 (fun h19 => absurd h19 (by decide)) (fun h19 => ?_)
  refine g_aload_n C 0 rfl rfl dX5_turns_22 ?_
  refine g_iload_n C 1 rfl rfl dX5_turns_23 ?_
  refine g_iload_n C 2 rfl rfl dX5_turns_24 ?_
  refine g_callV1 [] C (c_X5_laysPlan_1 w tu sg n (by omega)) mt_X5_laysPlan e_44 rfl ml_X5_83 im_X5_laysPlan se_X5_laysPlan (by decide) rfl (Nat.le_of_ble_eq_true rfl) dX5_turns_25 ?_
  refine g_eq (sg' := (us sg 52 (fun k => pI 1 (mkP 1 n k)))) (L' := [(0, .ref (ad w 44)), (1, .int (nI n)), (2, .int (nI 1))]) (S' := [.int (nI (smP 1 n 7))]) rfl rfl rfl rfl ?_
  refine g_goto C (tgt := 37) (by decide) dX5_turns_28 ?_
  exact g_iret C E dX5_turns_37 rfl Sq.rf rfl
set_option maxRecDepth 100000 in
set_option maxHeartbeats 400000 in
theorem c_X5_turns_bad (w : GW) (tu : Int64) (sg : Sg) (x : Int32) (v : Int32) (h : ¬ ((0 ≤ Int32.toInt64 x ∧ Int32.toInt64 x ≤ 999999) ∧ (0 ≤ Int32.toInt64 v ∧ Int32.toInt64 v ≤ 1))) : Kt w yX5_turns cX5_turns 3 (some .int) 1 [.ref (ad w 44), .int x, .int v] sg tu (some (.int (-2))) (us sg 48 (upd (sg 48) 0 ((sg 48 0) + nI 1))) tu := by
  refine Kt.of2 RX5 rfl [(0, .ref (ad w 44)), (1, .int x), (2, .int v)] (by decide) rfl (Nat.le_of_ble_eq_true rfl) (fun z C E => ?_)
  refine g_iload_n C 1 rfl rfl dX5_turns_0 ?_
  refine g_i2l C dX5_turns_1 ?_
  refine g_lconst C (v := 0) (by decide) dX5_turns_2 ?_
  refine g_ldc2 C cn_X5_77 dX5_turns_3 ?_
  refine g_callS1 [] C (c_X5_in w tu sg (Int32.toInt64 x) 0 999999 ) mt_X5_in ml_X5_53 st_X5_in (by decide) rfl (Nat.le_of_ble_eq_true rfl) dX5_turns_6 ?_
  refine g_eq (L' := [(0, .ref (ad w 44)), (1, .int x), (2, .int v)]) (S' := [.int (bI (0 ≤ (Int32.toInt64 x) ∧ (Int32.toInt64 x) ≤ 999999))]) rfl rfl rfl rfl ?_
  refine g_bif_eq C (tgt := 31) (by decide) dX5_turns_9 (fun h9 => ?_) (fun h9 => ?_)
  ·
    refine g_aload_n C 0 rfl rfl dX5_turns_31 ?_
    refine g_bipush C (v := (-2)) (by decide) dX5_turns_32 ?_
    refine g_callV1 [] C (c_X5_refuses_bad w tu sg  ) mt_X5_refuses e_44 rfl ml_X5_44 im_X5_refuses se_X5_refuses (by decide) rfl (Nat.le_of_ble_eq_true rfl) dX5_turns_34 ?_
    refine g_eq (sg' := (us sg 48 (upd (sg 48) 0 ((sg 48 0) + nI 1)))) (L' := [(0, .ref (ad w 44)), (1, .int x), (2, .int v)]) (S' := [.int (-2)]) rfl rfl rfl rfl ?_
    exact g_iret C E dX5_turns_37 rfl Sq.rf rfl
  ·
    refine g_iload_n C 2 rfl rfl dX5_turns_12 ?_
    refine g_i2l C dX5_turns_13 ?_
    refine g_lconst C (v := 0) (by decide) dX5_turns_14 ?_
    refine g_lconst C (v := 1) (by decide) dX5_turns_15 ?_
    refine g_callS1 [] C (c_X5_in w tu sg (Int32.toInt64 v) 0 1 ) mt_X5_in ml_X5_53 st_X5_in (by decide) rfl (Nat.le_of_ble_eq_true rfl) dX5_turns_16 ?_
    refine g_eq (L' := [(0, .ref (ad w 44)), (1, .int x), (2, .int v)]) (S' := [.int (bI (0 ≤ (Int32.toInt64 v) ∧ (Int32.toInt64 v) ≤ 1))]) rfl rfl rfl rfl ?_
    refine g_bif_eq C (tgt := 31) (by decide) dX5_turns_19 (fun h19 => ?_) (fun h19 => absurd ⟨h9, h19⟩ h)
    refine g_aload_n C 0 rfl rfl dX5_turns_31 ?_
    refine g_bipush C (v := (-2)) (by decide) dX5_turns_32 ?_
    refine g_callV1 [] C (c_X5_refuses_bad w tu sg  ) mt_X5_refuses e_44 rfl ml_X5_44 im_X5_refuses se_X5_refuses (by decide) rfl (Nat.le_of_ble_eq_true rfl) dX5_turns_34 ?_
    refine g_eq (sg' := (us sg 48 (upd (sg 48) 0 ((sg 48 0) + nI 1)))) (L' := [(0, .ref (ad w 44)), (1, .int x), (2, .int v)]) (S' := [.int (-2)]) rfl rfl rfl rfl ?_
    exact g_iret C E dX5_turns_37 rfl Sq.rf rfl
set_option maxRecDepth 100000 in
set_option maxHeartbeats 400000 in
theorem c_X5_type_bad (w : GW) (tu : Int64) (sg : Sg) (v : Int32) (h : ¬ (0 ≤ Int32.toInt64 v ∧ Int32.toInt64 v ≤ 127)) : Kt w yX5_type cX5_type 2 (some .int) 1 [.ref (ad w 44), .int v] sg tu (some (.int (-2))) (us sg 48 (upd (sg 48) 0 ((sg 48 0) + nI 1))) tu := by
  refine Kt.of2 RX5 rfl [(0, .ref (ad w 44)), (1, .int v)] (by decide) rfl (Nat.le_of_ble_eq_true rfl) (fun z C E => ?_)
  refine g_iload_n C 1 rfl rfl dX5_type_0 ?_
  refine g_i2l C dX5_type_1 ?_
  refine g_lconst C (v := 0) (by decide) dX5_type_2 ?_
  refine g_ldc2 C cn_X5_178 dX5_type_3 ?_
  refine g_callS1 [] C (c_X5_in w tu sg (Int32.toInt64 v) 0 127 ) mt_X5_in ml_X5_53 st_X5_in (by decide) rfl (Nat.le_of_ble_eq_true rfl) dX5_type_6 ?_
  refine g_eq (L' := [(0, .ref (ad w 44)), (1, .int v)]) (S' := [.int (bI (0 ≤ (Int32.toInt64 v) ∧ (Int32.toInt64 v) ≤ 127))]) rfl rfl rfl rfl ?_
  refine g_bif_ne C (tgt := 19) (by decide) dX5_type_9 (fun h9 => absurd h9 h) (fun h9 => ?_)
  refine g_aload_n C 0 rfl rfl dX5_type_12 ?_
  refine g_bipush C (v := (-2)) (by decide) dX5_type_13 ?_
  refine g_callV1 [] C (c_X5_refuses_bad w tu sg  ) mt_X5_refuses e_44 rfl ml_X5_44 im_X5_refuses se_X5_refuses (by decide) rfl (Nat.le_of_ble_eq_true rfl) dX5_type_15 ?_
  refine g_eq (sg' := (us sg 48 (upd (sg 48) 0 ((sg 48 0) + nI 1)))) (L' := [(0, .ref (ad w 44)), (1, .int v)]) (S' := [.int (-2)]) rfl rfl rfl rfl ?_
  exact g_iret C E dX5_type_18 rfl Sq.rf rfl
set_option maxRecDepth 100000 in
set_option maxHeartbeats 400000 in
theorem c_X5_type_full (w : GW) (tu : Int64) (sg : Sg) (c : Nat) (hc : c ≤ 127) (hby : sg 44 6 = nI 120) : Kt w yX5_type cX5_type 2 (some .int) 1 [.ref (ad w 44), .int (nI c)] sg tu (some (.int (-4))) (us sg 48 (upd (sg 48) 2 ((sg 48 2) + nI 1))) tu := by
  refine Kt.of2 RX5 rfl [(0, .ref (ad w 44)), (1, .int (nI c))] (by decide) rfl (Nat.le_of_ble_eq_true rfl) (fun z C E => ?_)
  refine g_iload_n C 1 rfl rfl dX5_type_0 ?_
  refine g_i2l C dX5_type_1 ?_
  refine g_lconst C (v := 0) (by decide) dX5_type_2 ?_
  refine g_ldc2 C cn_X5_178 dX5_type_3 ?_
  refine g_callS1 [] C (c_X5_in_t w tu sg (Int32.toInt64 (nI c)) 0 127 (in_ok (n := 127) (by omega) (by decide))) mt_X5_in ml_X5_53 st_X5_in (by decide) rfl (Nat.le_of_ble_eq_true rfl) dX5_type_6 ?_
  refine g_eq (L' := [(0, .ref (ad w 44)), (1, .int (nI c))]) (S' := [.int (nI 1)]) rfl rfl rfl rfl ?_
  refine g_if_ne C (tgt := 19) (by decide) dX5_type_9 (fun h9 => ?_) (fun h9 => absurd h9 (by decide))
  refine g_aload_n C 0 rfl rfl dX5_type_19 ?_
  refine g_getI C (j := 6) cls5 e_44 rfl (by decide) fl_X5_180 dX5_type_20 ?_
  refine g_top (y := (nI 120)) hby ?_
  refine g_bipush C (v := (nI 120)) (by decide) dX5_type_23 ?_
  refine g_icmpN_ne C 120 120 (by omega) (by omega) (tgt := 35) (by decide) dX5_type_25 (fun h25 => absurd h25 (by decide)) (fun h25 => ?_)
  refine g_aload_n C 0 rfl rfl dX5_type_28 ?_
  refine g_bipush C (v := (-4)) (by decide) dX5_type_29 ?_
  refine g_callV1 [] C (c_X5_refuses_full w tu sg  ) mt_X5_refuses e_44 rfl ml_X5_44 im_X5_refuses se_X5_refuses (by decide) rfl (Nat.le_of_ble_eq_true rfl) dX5_type_31 ?_
  refine g_eq (sg' := (us sg 48 (upd (sg 48) 2 ((sg 48 2) + nI 1)))) (L' := [(0, .ref (ad w 44)), (1, .int (nI c))]) (S' := [.int (-4)]) rfl rfl rfl rfl ?_
  exact g_iret C E dX5_type_34 rfl Sq.rf rfl
set_option maxRecDepth 100000 in
set_option maxHeartbeats 400000 in
theorem c_X5_type_ok (w : GW) (tu : Int64) (sg : Sg) (c : Nat) (by_ : Nat) (hc : c ≤ 127) (hby : sg 44 6 = nI by_) (hb : by_ < 120) : Kt w yX5_type cX5_type 2 (some .int) 1 [.ref (ad w 44), .int (nI c)] sg tu (some (.int (nI (by_ + 1)))) (us (us sg 49 (upd (sg 49) by_ (nI c))) 44 (upd (sg 44) 6 (nI (by_ + 1)))) tu := by
  refine Kt.of2 RX5 rfl [(0, .ref (ad w 44)), (1, .int (nI c))] (by decide) rfl (Nat.le_of_ble_eq_true rfl) (fun z C E => ?_)
  refine g_iload_n C 1 rfl rfl dX5_type_0 ?_
  refine g_i2l C dX5_type_1 ?_
  refine g_lconst C (v := 0) (by decide) dX5_type_2 ?_
  refine g_ldc2 C cn_X5_178 dX5_type_3 ?_
  refine g_callS1 [] C (c_X5_in_t w tu sg (Int32.toInt64 (nI c)) 0 127 (in_ok (n := 127) (by omega) (by decide))) mt_X5_in ml_X5_53 st_X5_in (by decide) rfl (Nat.le_of_ble_eq_true rfl) dX5_type_6 ?_
  refine g_eq (L' := [(0, .ref (ad w 44)), (1, .int (nI c))]) (S' := [.int (nI 1)]) rfl rfl rfl rfl ?_
  refine g_if_ne C (tgt := 19) (by decide) dX5_type_9 (fun h9 => ?_) (fun h9 => absurd h9 (by decide))
  refine g_aload_n C 0 rfl rfl dX5_type_19 ?_
  refine g_getI C (j := 6) cls5 e_44 rfl (by decide) fl_X5_180 dX5_type_20 ?_
  refine g_top (y := (nI by_)) hby ?_
  refine g_bipush C (v := (nI 120)) (by decide) dX5_type_23 ?_
  refine g_icmpN_ne C by_ 120 (by omega) (by omega) (tgt := 35) (by decide) dX5_type_25 (fun h25 => ?_) (fun h25 => absurd h25 (by omega))
  refine g_aload_n C 0 rfl rfl dX5_type_35 ?_
  refine g_getR C (j := 5) cls5 e_44 rfl (by decide) fl_X5_22 dX5_type_36 ?_
  refine g_aload_n C 0 rfl rfl dX5_type_39 ?_
  refine g_getI C (j := 6) cls5 e_44 rfl (by decide) fl_X5_180 dX5_type_40 ?_
  refine g_top (y := (nI by_)) hby ?_
  refine g_iload_n C 1 rfl rfl dX5_type_43 ?_
  refine g_iastN C by_ e_49 (by omega) (by decide) dX5_type_44 ?_
  refine g_sgE (sg' := (us sg 49 (upd (sg 49) by_ (nI c)))) rfl ?_
  refine g_aload_n C 0 rfl rfl dX5_type_45 ?_
  refine g_dup C rfl dX5_type_46 ?_
  refine g_getI C (j := 6) cls5 e_44 rfl (by decide) fl_X5_180 dX5_type_47 ?_
  refine g_top (y := (nI by_)) hby ?_
  refine g_iconst C (v := (nI 1)) (by decide) dX5_type_50 ?_
  refine g_iadd C dX5_type_51 ?_
  refine g_top (y := (nI (by_ + 1))) (nI_add by_ 1) ?_
  refine g_putI C (j := 6) cls5 e_44 rfl (by decide) rfl rfl fl_X5_180 dX5_type_52 ?_
  refine g_sgE (sg' := (us (us sg 49 (upd (sg 49) by_ (nI c))) 44 (upd (sg 44) 6 (nI (by_ + 1))))) rfl ?_
  refine g_aload_n C 0 rfl rfl dX5_type_55 ?_
  refine g_getI C (j := 6) cls5 e_44 rfl (by decide) fl_X5_180 dX5_type_56 ?_
  refine g_top (y := (nI (by_ + 1))) rfl ?_
  exact g_iret C E dX5_type_59 rfl Sq.rf rfl
