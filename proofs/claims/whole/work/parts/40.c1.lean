set_option maxRecDepth 100000 in
set_option maxHeartbeats 400000 in
theorem c_X4_within (w : GW) (tu : Int64) (sg : Sg) (a : Int64) (b : Int64) (c : Int64) : Kt w yX4_within cX4_within 6 (some .boolean) 0 [.long a, .long b, .long c] sg tu (some (.int (bI (b ≤ a ∧ a ≤ c)))) sg tu := by
  refine Kt.of2 RX4 rfl [(0, .long a), (2, .long b), (4, .long c)] (by decide) rfl (Nat.le_of_ble_eq_true rfl) (fun z C E => ?_)
  refine g_lload_n C 1 rfl rfl dX4_within_0 ?_
  refine g_lload_n C 0 rfl rfl dX4_within_1 ?_
  refine g_lcmp C dX4_within_2 ?_
  refine g_lif_gt C (tgt := 17) (by decide) dX4_within_3 (fun h3 => ?_) (fun h3 => ?_)
  ·
    refine g_iconst C (v := (nI 0)) (by decide) dX4_within_17 ?_
    exact g_zret C E dX4_within_18 (by decide +kernel) (bI_f (fun q => by have := Int64.not_le.mpr h3; exact this q.1)).symm Sq.rf rfl
  ·
    refine g_lload_n C 0 rfl rfl dX4_within_6 ?_
    refine g_lload C 2 rfl dX4_within_7 ?_
    refine g_lcmp C dX4_within_9 ?_
    refine g_lif_gt C (tgt := 17) (by decide) dX4_within_10 (fun h10 => ?_) (fun h10 => ?_)
    ·
      refine g_iconst C (v := (nI 0)) (by decide) dX4_within_17 ?_
      exact g_zret C E dX4_within_18 (by decide +kernel) (bI_f (fun q => by have := Int64.not_le.mpr h10; exact this q.2)).symm Sq.rf rfl
    ·
      refine g_iconst C (v := (nI 1)) (by decide) dX4_within_13 ?_
      refine g_goto C (tgt := 18) (by decide) dX4_within_14 ?_
      exact g_zret C E dX4_within_18 (by decide +kernel) (bI_t ⟨Int64.not_lt.mp h3, Int64.not_lt.mp h10⟩).symm Sq.rf rfl
theorem c_X4_within_t (w : GW) (tu : Int64) (sg : Sg) (a b c : Int64) (h : (b ≤ a ∧ a ≤ c)) : Kt w yX4_within cX4_within 6 (some .boolean) 0 [.long a, .long b, .long c] sg tu (some (.int (nI 1))) sg tu := by
  have h1 := c_X4_within w tu sg a b c
  rw [bI_t h] at h1
  exact h1
theorem c_X4_within_f (w : GW) (tu : Int64) (sg : Sg) (a b c : Int64) (h : ¬ (b ≤ a ∧ a ≤ c)) : Kt w yX4_within cX4_within 6 (some .boolean) 0 [.long a, .long b, .long c] sg tu (some (.int (nI 0))) sg tu := by
  have h1 := c_X4_within w tu sg a b c
  rw [bI_f h] at h1
  exact h1
def vlY (f : Nat → Int32) : Nat → Int64 → Int64
  | 0, v => v
  | r + 1, v => vlY f r (v * 10 + Int32.toInt64 (f r))
set_option maxRecDepth 100000 in
set_option maxHeartbeats 400000 in
theorem c_X4_number_dig (w : GW) (tu : Int64) (sg : Sg) : Kt w yX4_number cX4_number 4 (some .long) 0 [.ref (ad w 2)] sg tu (some (.long (vlY (sg 2) 6 0))) sg tu := by
  refine Kt.of2 RX4 rfl [(0, .ref (ad w 2))] (by decide) rfl (Nat.le_of_ble_eq_true rfl) (fun z C E => ?_)
  refine g_lconst C (v := 0) (by decide) dX4_number_0 ?_
  refine g_lstore_n C (L' := [(1, .long 0), (0, .ref (ad w 2))]) rfl (by decide) rfl dX4_number_1 ?_
  refine g_aload_n C 1 rfl rfl dX4_number_2 ?_
  refine g_alen C e_2 dX4_number_3 ?_
  refine g_iconst C (v := (nI 1)) (by decide) dX4_number_4 ?_
  refine g_isub C dX4_number_5 ?_
  refine g_top (y := (nI 5)) (by decide) ?_
  refine g_istore_n C (L' := [(3, .int (nI 5)), (1, .long 0), (0, .ref (ad w 2))]) rfl (by decide) rfl dX4_number_6 ?_
  have lp : ∀ (r : Nat) (v : Int64), r ≤ 6 → (vlY (sg 2) r v = vlY (sg 2) 6 0) → G z w 4 sg tu 7 [(3, .int (nI r + (-1))), (1, .long v), (0, .ref (ad w 2))] [] := by
    intro r
    induction r with
    | zero =>
      intro v h2 hI
      refine g_iload_n C 0 rfl rfl dX4_number_7 ?_
      refine g_if_lt C (tgt := 28) (by decide) dX4_number_8 (fun h8 => ?_) (fun h8 => absurd (by decide) h8)
      refine g_lload_n C 1 rfl rfl dX4_number_28 ?_
      exact g_lret C E dX4_number_29 hI Sq.rf rfl
    | succ r ih =>
      intro v h2 hI
      refine g_eq (L' := [(3, .int (nI r)), (1, .long v), (0, .ref (ad w 2))]) rfl rfl (by rw [pk_m1]) rfl ?_
      refine g_iload_n C 0 rfl rfl dX4_number_7 ?_
      refine g_if_lt C (tgt := 28) (by decide) dX4_number_8 (fun h8 => absurd h8 (nI_pos (by omega))) (fun h8 => ?_)
      refine g_lload_n C 1 rfl rfl dX4_number_11 ?_
      refine g_ldc2 C cn_X4_208 dX4_number_12 ?_
      refine g_lmul C dX4_number_15 ?_
      refine g_aload_n C 2 rfl rfl dX4_number_16 ?_
      refine g_iload_n C 0 rfl rfl dX4_number_17 ?_
      refine g_ialdN C r e_2 (by omega) (by decide) dX4_number_18 ?_
      refine g_i2l C dX4_number_19 ?_
      refine g_ladd C dX4_number_20 ?_
      refine g_lstore_n C (L' := [(1, .long ((v * 10) + (Int32.toInt64 (sg 2 r)))), (3, .int (nI r)), (0, .ref (ad w 2))]) rfl (by decide) rfl dX4_number_21 ?_
      refine g_iinc C (n := -1) (v := ((nI r) + (-1))) (L' := [(3, .int ((nI r) + (-1))), (1, .long ((v * 10) + (Int32.toInt64 (sg 2 r)))), (0, .ref (ad w 2))]) 1 rfl rfl (by decide) rfl dX4_number_22 ?_
      refine g_goto C (tgt := 7) (by decide) dX4_number_25 ?_
      refine g_sub (L' := [(3, .int ((nI r) + (-1))), (1, .long ((v * 10) + (Int32.toInt64 (sg 2 r)))), (0, .ref (ad w 2))]) [0, 1, 2] rfl ?_
      exact ih ((v * 10) + (Int32.toInt64 (sg 2 r))) (by omega) hI
  refine g_eq (L' := [(3, .int (nI 6 + (-1))), (1, .long 0), (0, .ref (ad w 2))]) rfl rfl rfl rfl ?_
  refine g_sub (L' := [(3, .int (nI 6 + (-1))), (1, .long 0), (0, .ref (ad w 2))]) [0, 1, 2] rfl ?_
  exact lp 6 0 (by omega) rfl
set_option maxRecDepth 100000 in
set_option maxHeartbeats 400000 in
theorem c_X4_number_whl (w : GW) (tu : Int64) (sg : Sg) : Kt w yX4_number cX4_number 4 (some .long) 0 [.ref (ad w 4)] sg tu (some (.long (vlY (sg 4) 12 0))) sg tu := by
  refine Kt.of2 RX4 rfl [(0, .ref (ad w 4))] (by decide) rfl (Nat.le_of_ble_eq_true rfl) (fun z C E => ?_)
  refine g_lconst C (v := 0) (by decide) dX4_number_0 ?_
  refine g_lstore_n C (L' := [(1, .long 0), (0, .ref (ad w 4))]) rfl (by decide) rfl dX4_number_1 ?_
  refine g_aload_n C 1 rfl rfl dX4_number_2 ?_
  refine g_alen C e_4 dX4_number_3 ?_
  refine g_iconst C (v := (nI 1)) (by decide) dX4_number_4 ?_
  refine g_isub C dX4_number_5 ?_
  refine g_top (y := (nI 11)) (by decide) ?_
  refine g_istore_n C (L' := [(3, .int (nI 11)), (1, .long 0), (0, .ref (ad w 4))]) rfl (by decide) rfl dX4_number_6 ?_
  have lp : ∀ (r : Nat) (v : Int64), r ≤ 12 → (vlY (sg 4) r v = vlY (sg 4) 12 0) → G z w 4 sg tu 7 [(3, .int (nI r + (-1))), (1, .long v), (0, .ref (ad w 4))] [] := by
    intro r
    induction r with
    | zero =>
      intro v h2 hI
      refine g_iload_n C 0 rfl rfl dX4_number_7 ?_
      refine g_if_lt C (tgt := 28) (by decide) dX4_number_8 (fun h8 => ?_) (fun h8 => absurd (by decide) h8)
      refine g_lload_n C 1 rfl rfl dX4_number_28 ?_
      exact g_lret C E dX4_number_29 hI Sq.rf rfl
    | succ r ih =>
      intro v h2 hI
      refine g_eq (L' := [(3, .int (nI r)), (1, .long v), (0, .ref (ad w 4))]) rfl rfl (by rw [pk_m1]) rfl ?_
      refine g_iload_n C 0 rfl rfl dX4_number_7 ?_
      refine g_if_lt C (tgt := 28) (by decide) dX4_number_8 (fun h8 => absurd h8 (nI_pos (by omega))) (fun h8 => ?_)
      refine g_lload_n C 1 rfl rfl dX4_number_11 ?_
      refine g_ldc2 C cn_X4_208 dX4_number_12 ?_
      refine g_lmul C dX4_number_15 ?_
      refine g_aload_n C 2 rfl rfl dX4_number_16 ?_
      refine g_iload_n C 0 rfl rfl dX4_number_17 ?_
      refine g_ialdN C r e_4 (by omega) (by decide) dX4_number_18 ?_
      refine g_i2l C dX4_number_19 ?_
      refine g_ladd C dX4_number_20 ?_
      refine g_lstore_n C (L' := [(1, .long ((v * 10) + (Int32.toInt64 (sg 4 r)))), (3, .int (nI r)), (0, .ref (ad w 4))]) rfl (by decide) rfl dX4_number_21 ?_
      refine g_iinc C (n := -1) (v := ((nI r) + (-1))) (L' := [(3, .int ((nI r) + (-1))), (1, .long ((v * 10) + (Int32.toInt64 (sg 4 r)))), (0, .ref (ad w 4))]) 1 rfl rfl (by decide) rfl dX4_number_22 ?_
      refine g_goto C (tgt := 7) (by decide) dX4_number_25 ?_
      refine g_sub (L' := [(3, .int ((nI r) + (-1))), (1, .long ((v * 10) + (Int32.toInt64 (sg 4 r)))), (0, .ref (ad w 4))]) [0, 1, 2] rfl ?_
      exact ih ((v * 10) + (Int32.toInt64 (sg 4 r))) (by omega) hI
  refine g_eq (L' := [(3, .int (nI 12 + (-1))), (1, .long 0), (0, .ref (ad w 4))]) rfl rfl rfl rfl ?_
  refine g_sub (L' := [(3, .int (nI 12 + (-1))), (1, .long 0), (0, .ref (ad w 4))]) [0, 1, 2] rfl ?_
  exact lp 12 0 (by omega) rfl
set_option maxRecDepth 100000 in
set_option maxHeartbeats 400000 in
theorem c_X4_number_cnt (w : GW) (tu : Int64) (sg : Sg) : Kt w yX4_number cX4_number 4 (some .long) 0 [.ref (ad w 5)] sg tu (some (.long (vlY (sg 5) 7 0))) sg tu := by
  refine Kt.of2 RX4 rfl [(0, .ref (ad w 5))] (by decide) rfl (Nat.le_of_ble_eq_true rfl) (fun z C E => ?_)
  refine g_lconst C (v := 0) (by decide) dX4_number_0 ?_
  refine g_lstore_n C (L' := [(1, .long 0), (0, .ref (ad w 5))]) rfl (by decide) rfl dX4_number_1 ?_
  refine g_aload_n C 1 rfl rfl dX4_number_2 ?_
  refine g_alen C e_5 dX4_number_3 ?_
  refine g_iconst C (v := (nI 1)) (by decide) dX4_number_4 ?_
  refine g_isub C dX4_number_5 ?_
  refine g_top (y := (nI 6)) (by decide) ?_
  refine g_istore_n C (L' := [(3, .int (nI 6)), (1, .long 0), (0, .ref (ad w 5))]) rfl (by decide) rfl dX4_number_6 ?_
  have lp : ∀ (r : Nat) (v : Int64), r ≤ 7 → (vlY (sg 5) r v = vlY (sg 5) 7 0) → G z w 4 sg tu 7 [(3, .int (nI r + (-1))), (1, .long v), (0, .ref (ad w 5))] [] := by
    intro r
    induction r with
    | zero =>
      intro v h2 hI
      refine g_iload_n C 0 rfl rfl dX4_number_7 ?_
      refine g_if_lt C (tgt := 28) (by decide) dX4_number_8 (fun h8 => ?_) (fun h8 => absurd (by decide) h8)
      refine g_lload_n C 1 rfl rfl dX4_number_28 ?_
      exact g_lret C E dX4_number_29 hI Sq.rf rfl
    | succ r ih =>
      intro v h2 hI
      refine g_eq (L' := [(3, .int (nI r)), (1, .long v), (0, .ref (ad w 5))]) rfl rfl (by rw [pk_m1]) rfl ?_
      refine g_iload_n C 0 rfl rfl dX4_number_7 ?_
      refine g_if_lt C (tgt := 28) (by decide) dX4_number_8 (fun h8 => absurd h8 (nI_pos (by omega))) (fun h8 => ?_)
      refine g_lload_n C 1 rfl rfl dX4_number_11 ?_
      refine g_ldc2 C cn_X4_208 dX4_number_12 ?_
      refine g_lmul C dX4_number_15 ?_
      refine g_aload_n C 2 rfl rfl dX4_number_16 ?_
      refine g_iload_n C 0 rfl rfl dX4_number_17 ?_
      refine g_ialdN C r e_5 (by omega) (by decide) dX4_number_18 ?_
      refine g_i2l C dX4_number_19 ?_
      refine g_ladd C dX4_number_20 ?_
      refine g_lstore_n C (L' := [(1, .long ((v * 10) + (Int32.toInt64 (sg 5 r)))), (3, .int (nI r)), (0, .ref (ad w 5))]) rfl (by decide) rfl dX4_number_21 ?_
      refine g_iinc C (n := -1) (v := ((nI r) + (-1))) (L' := [(3, .int ((nI r) + (-1))), (1, .long ((v * 10) + (Int32.toInt64 (sg 5 r)))), (0, .ref (ad w 5))]) 1 rfl rfl (by decide) rfl dX4_number_22 ?_
      refine g_goto C (tgt := 7) (by decide) dX4_number_25 ?_
      refine g_sub (L' := [(3, .int ((nI r) + (-1))), (1, .long ((v * 10) + (Int32.toInt64 (sg 5 r)))), (0, .ref (ad w 5))]) [0, 1, 2] rfl ?_
      exact ih ((v * 10) + (Int32.toInt64 (sg 5 r))) (by omega) hI
  refine g_eq (L' := [(3, .int (nI 7 + (-1))), (1, .long 0), (0, .ref (ad w 5))]) rfl rfl rfl rfl ?_
  refine g_sub (L' := [(3, .int (nI 7 + (-1))), (1, .long 0), (0, .ref (ad w 5))]) [0, 1, 2] rfl ?_
  exact lp 7 0 (by omega) rfl
set_option maxRecDepth 100000 in
set_option maxHeartbeats 400000 in
theorem c_X4_putFigures_dig (w : GW) (tu : Int64) (sg : Sg) (m : Nat) (hm : m ≤ 999999) : Kt w yX4_putFigures cX4_putFigures 8 (some .int) 0 [.ref (ad w 2), .long (lN m)] sg tu (some (.int (czX (sg 2) (fun k => nI (m / 10 ^ k % 10)) 0 6))) (us sg 2 (fun k => nI (m / 10 ^ k % 10))) tu := by
  refine Kt.of2 RX4 rfl [(0, .ref (ad w 2)), (1, .long (lN m))] (by decide) rfl (Nat.le_of_ble_eq_true rfl) (fun z C E => ?_)
  refine g_iconst C (v := (nI 0)) (by decide) dX4_putFigures_0 ?_
  refine g_istore_n C (L' := [(3, .int (nI 0)), (0, .ref (ad w 2)), (1, .long (lN m))]) rfl (by decide) rfl dX4_putFigures_1 ?_
  refine g_lload_n C 2 rfl rfl dX4_putFigures_2 ?_
  refine g_lstore C (L' := [(4, .long (lN m)), (3, .int (nI 0)), (0, .ref (ad w 2)), (1, .long (lN m))]) (by decide) rfl dX4_putFigures_3 ?_
  refine g_iconst C (v := (nI 0)) (by decide) dX4_putFigures_5 ?_
  refine g_istore C (L' := [(6, .int (nI 0)), (4, .long (lN m)), (3, .int (nI 0)), (0, .ref (ad w 2)), (1, .long (lN m))]) (by decide) rfl dX4_putFigures_6 ?_
  refine g_eq (L' := [(6, .int (nI 0)), (4, .long (lN (m / 10 ^ 0))), (3, .int (nI 0)), (0, .ref (ad w 2)), (1, .long (lN m))]) rfl rfl (by rw [Nat.pow_zero, Nat.div_one]) rfl ?_
  have lp : ∀ (nf i : Nat) (c : Int32), 6 < i + nf → i ≤ 6 → (c = czX (sg 2) (fun k => nI (m / 10 ^ k % 10)) 0 i) → G z w 8 (us sg 2 (fw 0 (fun k => nI (m / 10 ^ k % 10)) (sg 2) i)) tu 8 [(6, .int (nI i)), (4, .long (lN (m / 10 ^ i))), (3, .int c), (0, .ref (ad w 2)), (1, .long (lN m))] [] := by
    intro nf
    induction nf with
    | zero => intro i c h1 h2 hI; exact absurd h1 (by omega)
    | succ nf ihlp =>
      intro i c h1 h2 hI
      have hle : m / 10 ^ i ≤ 999999 := Nat.le_trans (Nat.div_le_self _ _) hm
      refine g_iload C 0 rfl dX4_putFigures_8 ?_
      refine g_aload_n C 3 rfl rfl dX4_putFigures_10 ?_
      refine g_alen C e_2 dX4_putFigures_11 ?_
      refine g_icmpN_ge C i 6 (by omega) (by omega) (tgt := 56) (by decide) dX4_putFigures_12 (fun h12 => ?_) (fun h12 => ?_)
      ·
        have hiN : 6 = i := by omega
        subst hiN
        refine g_iload_n C 2 rfl rfl dX4_putFigures_56 ?_
        exact g_iret C E dX4_putFigures_57 hI (Sq.us fun j hj => fw_in ⟨Nat.zero_le _, by rw [Nat.zero_add]; exact hj⟩) rfl
      ·
        refine g_lload C 1 rfl dX4_putFigures_15 ?_
        refine g_ldc2 C cn_X4_208 dX4_putFigures_17 ?_
        refine g_lrem C (by decide) dX4_putFigures_20 ?_
        refine g_topl (y := lN (m / 10 ^ i % 10)) (pk_lRem (by omega) (by decide) (by decide)) ?_
        refine g_l2i C dX4_putFigures_21 ?_
        refine g_top (y := (nI (m / 10 ^ i % 10))) (lN_i _) ?_
        refine g_istore C (L' := [(7, .int (nI (m / 10 ^ i % 10))), (6, .int (nI i)), (4, .long (lN (m / 10 ^ i))), (3, .int c), (0, .ref (ad w 2)), (1, .long (lN m))]) (by decide) rfl dX4_putFigures_22 ?_
        refine g_lload C 2 rfl dX4_putFigures_24 ?_
        refine g_ldc2 C cn_X4_208 dX4_putFigures_26 ?_
        refine g_ldiv C (by decide) dX4_putFigures_29 ?_
        refine g_topl (y := lN (m / 10 ^ i / 10)) (pk_lDiv (by omega) (by decide) (by decide)) ?_
        refine g_lstore C (L' := [(4, .long (lN (m / 10 ^ i / 10))), (7, .int (nI (m / 10 ^ i % 10))), (6, .int (nI i)), (3, .int c), (0, .ref (ad w 2)), (1, .long (lN m))]) (by decide) rfl dX4_putFigures_30 ?_
        refine g_aload_n C 4 rfl rfl dX4_putFigures_32 ?_
        refine g_iload C 2 rfl dX4_putFigures_33 ?_
        refine g_ialdN C i e_2 (by omega) (by decide) dX4_putFigures_35 ?_
        refine g_top (y := ((fw 0 (fun k => nI (m / 10 ^ k % 10)) (sg 2) i) i)) rfl ?_
        refine g_top (y := (sg 2 i)) (fw_out (by omega)) ?_
        refine g_iload C 1 rfl dX4_putFigures_36 ?_
        refine g_icmp_eq C (tgt := 44) (by decide) dX4_putFigures_38 (fun h38 => ?_) (fun h38 => ?_)
        ·
          refine g_aload_n C 4 rfl rfl dX4_putFigures_44 ?_
          refine g_iload C 2 rfl dX4_putFigures_45 ?_
          refine g_iload C 1 rfl dX4_putFigures_47 ?_
          refine g_iastN C i e_2 (by omega) (by decide) dX4_putFigures_49 ?_
          refine g_sgE (sg' := (us sg 2 (upd (fw 0 (fun k => nI (m / 10 ^ k % 10)) (sg 2) i) i (nI (m / 10 ^ i % 10))))) us_us ?_
          refine g_iinc C (n := 1) (v := (nI (i + 1))) (L' := [(6, .int (nI (i + 1))), (4, .long (lN (m / 10 ^ i / 10))), (7, .int (nI (m / 10 ^ i % 10))), (3, .int c), (0, .ref (ad w 2)), (1, .long (lN m))]) 2 rfl (nI_add i 1) (by decide) rfl dX4_putFigures_50 ?_
          refine g_goto C (tgt := 8) (by decide) dX4_putFigures_53 ?_
          refine g_sub (L' := [(6, .int (nI (i + 1))), (4, .long (lN (m / 10 ^ i / 10))), (3, .int c), (0, .ref (ad w 2)), (1, .long (lN m))]) [0, 1, 3, 4, 5] rfl ?_
          refine g_eq (L' := [(6, .int (nI (i + 1))), (4, .long (lN (m / 10 ^ (i + 1)))), (3, .int c), (0, .ref (ad w 2)), (1, .long (lN m))]) rfl rfl (by rw [dp10]) rfl ?_
          refine g_sgE (sg' := (us sg 2 (fw 0 (fun k => nI (m / 10 ^ k % 10)) (sg 2) (i + 1)))) (congrArg (us sg 2) (fw_s0 rfl)) ?_
          exact ihlp (i + 1) c (by omega) (by omega) (by rw [hI, czX_t (by rw [Nat.zero_add]; exact h38)]; exact (Int32.add_zero _).symm)
        ·
          refine g_iinc C (n := 1) (v := (c + 1)) (L' := [(3, .int (c + 1)), (4, .long (lN (m / 10 ^ i / 10))), (7, .int (nI (m / 10 ^ i % 10))), (6, .int (nI i)), (0, .ref (ad w 2)), (1, .long (lN m))]) 3 rfl rfl (by decide) rfl dX4_putFigures_41 ?_
          refine g_aload_n C 4 rfl rfl dX4_putFigures_44 ?_
          refine g_iload C 3 rfl dX4_putFigures_45 ?_
          refine g_iload C 2 rfl dX4_putFigures_47 ?_
          refine g_iastN C i e_2 (by omega) (by decide) dX4_putFigures_49 ?_
          refine g_sgE (sg' := (us sg 2 (upd (fw 0 (fun k => nI (m / 10 ^ k % 10)) (sg 2) i) i (nI (m / 10 ^ i % 10))))) us_us ?_
          refine g_iinc C (n := 1) (v := (nI (i + 1))) (L' := [(6, .int (nI (i + 1))), (3, .int (c + 1)), (4, .long (lN (m / 10 ^ i / 10))), (7, .int (nI (m / 10 ^ i % 10))), (0, .ref (ad w 2)), (1, .long (lN m))]) 3 rfl (nI_add i 1) (by decide) rfl dX4_putFigures_50 ?_
          refine g_goto C (tgt := 8) (by decide) dX4_putFigures_53 ?_
          refine g_sub (L' := [(6, .int (nI (i + 1))), (4, .long (lN (m / 10 ^ i / 10))), (3, .int (c + 1)), (0, .ref (ad w 2)), (1, .long (lN m))]) [0, 2, 1, 4, 5] rfl ?_
          refine g_eq (L' := [(6, .int (nI (i + 1))), (4, .long (lN (m / 10 ^ (i + 1)))), (3, .int (c + 1)), (0, .ref (ad w 2)), (1, .long (lN m))]) rfl rfl (by rw [dp10]) rfl ?_
          refine g_sgE (sg' := (us sg 2 (fw 0 (fun k => nI (m / 10 ^ k % 10)) (sg 2) (i + 1)))) (congrArg (us sg 2) (fw_s0 rfl)) ?_
          exact ihlp (i + 1) (c + 1) (by omega) (by omega) (by rw [hI, czX_f (by rw [Nat.zero_add]; exact h38)]; rfl)
  refine g_sgE (sg' := (us sg 2 (fw 0 (fun k => nI (m / 10 ^ k % 10)) (sg 2) 0))) (by rw [fw_0, us_id]) ?_
  refine g_sub (L' := [(6, .int (nI 0)), (4, .long (lN (m / 10 ^ 0))), (3, .int (nI 0)), (0, .ref (ad w 2)), (1, .long (lN m))]) [0, 1, 2, 3, 4] rfl ?_
  exact lp (6 + 1) 0 (nI 0) (by omega) (by omega) rfl
set_option maxRecDepth 100000 in
set_option maxHeartbeats 400000 in
theorem c_X4_putFigures_whl (w : GW) (tu : Int64) (sg : Sg) (m : Nat) (hm : m ≤ 999999999999) : Kt w yX4_putFigures cX4_putFigures 8 (some .int) 0 [.ref (ad w 4), .long (lN m)] sg tu (some (.int (czX (sg 4) (fun k => nI (m / 10 ^ k % 10)) 0 12))) (us sg 4 (fun k => nI (m / 10 ^ k % 10))) tu := by
  refine Kt.of2 RX4 rfl [(0, .ref (ad w 4)), (1, .long (lN m))] (by decide) rfl (Nat.le_of_ble_eq_true rfl) (fun z C E => ?_)
  refine g_iconst C (v := (nI 0)) (by decide) dX4_putFigures_0 ?_
  refine g_istore_n C (L' := [(3, .int (nI 0)), (0, .ref (ad w 4)), (1, .long (lN m))]) rfl (by decide) rfl dX4_putFigures_1 ?_
  refine g_lload_n C 2 rfl rfl dX4_putFigures_2 ?_
  refine g_lstore C (L' := [(4, .long (lN m)), (3, .int (nI 0)), (0, .ref (ad w 4)), (1, .long (lN m))]) (by decide) rfl dX4_putFigures_3 ?_
  refine g_iconst C (v := (nI 0)) (by decide) dX4_putFigures_5 ?_
  refine g_istore C (L' := [(6, .int (nI 0)), (4, .long (lN m)), (3, .int (nI 0)), (0, .ref (ad w 4)), (1, .long (lN m))]) (by decide) rfl dX4_putFigures_6 ?_
  refine g_eq (L' := [(6, .int (nI 0)), (4, .long (lN (m / 10 ^ 0))), (3, .int (nI 0)), (0, .ref (ad w 4)), (1, .long (lN m))]) rfl rfl (by rw [Nat.pow_zero, Nat.div_one]) rfl ?_
  have lp : ∀ (nf i : Nat) (c : Int32), 12 < i + nf → i ≤ 12 → (c = czX (sg 4) (fun k => nI (m / 10 ^ k % 10)) 0 i) → G z w 8 (us sg 4 (fw 0 (fun k => nI (m / 10 ^ k % 10)) (sg 4) i)) tu 8 [(6, .int (nI i)), (4, .long (lN (m / 10 ^ i))), (3, .int c), (0, .ref (ad w 4)), (1, .long (lN m))] [] := by
    intro nf
    induction nf with
    | zero => intro i c h1 h2 hI; exact absurd h1 (by omega)
    | succ nf ihlp =>
      intro i c h1 h2 hI
      have hle : m / 10 ^ i ≤ 999999999999 := Nat.le_trans (Nat.div_le_self _ _) hm
      refine g_iload C 0 rfl dX4_putFigures_8 ?_
      refine g_aload_n C 3 rfl rfl dX4_putFigures_10 ?_
      refine g_alen C e_4 dX4_putFigures_11 ?_
      refine g_icmpN_ge C i 12 (by omega) (by omega) (tgt := 56) (by decide) dX4_putFigures_12 (fun h12 => ?_) (fun h12 => ?_)
      ·
        have hiN : 12 = i := by omega
        subst hiN
        refine g_iload_n C 2 rfl rfl dX4_putFigures_56 ?_
        exact g_iret C E dX4_putFigures_57 hI (Sq.us fun j hj => fw_in ⟨Nat.zero_le _, by rw [Nat.zero_add]; exact hj⟩) rfl
      ·
        refine g_lload C 1 rfl dX4_putFigures_15 ?_
        refine g_ldc2 C cn_X4_208 dX4_putFigures_17 ?_
        refine g_lrem C (by decide) dX4_putFigures_20 ?_
        refine g_topl (y := lN (m / 10 ^ i % 10)) (pk_lRem (by omega) (by decide) (by decide)) ?_
        refine g_l2i C dX4_putFigures_21 ?_
        refine g_top (y := (nI (m / 10 ^ i % 10))) (lN_i _) ?_
        refine g_istore C (L' := [(7, .int (nI (m / 10 ^ i % 10))), (6, .int (nI i)), (4, .long (lN (m / 10 ^ i))), (3, .int c), (0, .ref (ad w 4)), (1, .long (lN m))]) (by decide) rfl dX4_putFigures_22 ?_
        refine g_lload C 2 rfl dX4_putFigures_24 ?_
        refine g_ldc2 C cn_X4_208 dX4_putFigures_26 ?_
        refine g_ldiv C (by decide) dX4_putFigures_29 ?_
        refine g_topl (y := lN (m / 10 ^ i / 10)) (pk_lDiv (by omega) (by decide) (by decide)) ?_
        refine g_lstore C (L' := [(4, .long (lN (m / 10 ^ i / 10))), (7, .int (nI (m / 10 ^ i % 10))), (6, .int (nI i)), (3, .int c), (0, .ref (ad w 4)), (1, .long (lN m))]) (by decide) rfl dX4_putFigures_30 ?_
        refine g_aload_n C 4 rfl rfl dX4_putFigures_32 ?_
        refine g_iload C 2 rfl dX4_putFigures_33 ?_
        refine g_ialdN C i e_4 (by omega) (by decide) dX4_putFigures_35 ?_
        refine g_top (y := ((fw 0 (fun k => nI (m / 10 ^ k % 10)) (sg 4) i) i)) rfl ?_
        refine g_top (y := (sg 4 i)) (fw_out (by omega)) ?_
        refine g_iload C 1 rfl dX4_putFigures_36 ?_
        refine g_icmp_eq C (tgt := 44) (by decide) dX4_putFigures_38 (fun h38 => ?_) (fun h38 => ?_)
        ·
          refine g_aload_n C 4 rfl rfl dX4_putFigures_44 ?_
          refine g_iload C 2 rfl dX4_putFigures_45 ?_
          refine g_iload C 1 rfl dX4_putFigures_47 ?_
          refine g_iastN C i e_4 (by omega) (by decide) dX4_putFigures_49 ?_
          refine g_sgE (sg' := (us sg 4 (upd (fw 0 (fun k => nI (m / 10 ^ k % 10)) (sg 4) i) i (nI (m / 10 ^ i % 10))))) us_us ?_
          refine g_iinc C (n := 1) (v := (nI (i + 1))) (L' := [(6, .int (nI (i + 1))), (4, .long (lN (m / 10 ^ i / 10))), (7, .int (nI (m / 10 ^ i % 10))), (3, .int c), (0, .ref (ad w 4)), (1, .long (lN m))]) 2 rfl (nI_add i 1) (by decide) rfl dX4_putFigures_50 ?_
          refine g_goto C (tgt := 8) (by decide) dX4_putFigures_53 ?_
          refine g_sub (L' := [(6, .int (nI (i + 1))), (4, .long (lN (m / 10 ^ i / 10))), (3, .int c), (0, .ref (ad w 4)), (1, .long (lN m))]) [0, 1, 3, 4, 5] rfl ?_
          refine g_eq (L' := [(6, .int (nI (i + 1))), (4, .long (lN (m / 10 ^ (i + 1)))), (3, .int c), (0, .ref (ad w 4)), (1, .long (lN m))]) rfl rfl (by rw [dp10]) rfl ?_
          refine g_sgE (sg' := (us sg 4 (fw 0 (fun k => nI (m / 10 ^ k % 10)) (sg 4) (i + 1)))) (congrArg (us sg 4) (fw_s0 rfl)) ?_
          exact ihlp (i + 1) c (by omega) (by omega) (by rw [hI, czX_t (by rw [Nat.zero_add]; exact h38)]; exact (Int32.add_zero _).symm)
        ·
          refine g_iinc C (n := 1) (v := (c + 1)) (L' := [(3, .int (c + 1)), (4, .long (lN (m / 10 ^ i / 10))), (7, .int (nI (m / 10 ^ i % 10))), (6, .int (nI i)), (0, .ref (ad w 4)), (1, .long (lN m))]) 3 rfl rfl (by decide) rfl dX4_putFigures_41 ?_
          refine g_aload_n C 4 rfl rfl dX4_putFigures_44 ?_
          refine g_iload C 3 rfl dX4_putFigures_45 ?_
          refine g_iload C 2 rfl dX4_putFigures_47 ?_
          refine g_iastN C i e_4 (by omega) (by decide) dX4_putFigures_49 ?_
          refine g_sgE (sg' := (us sg 4 (upd (fw 0 (fun k => nI (m / 10 ^ k % 10)) (sg 4) i) i (nI (m / 10 ^ i % 10))))) us_us ?_
          refine g_iinc C (n := 1) (v := (nI (i + 1))) (L' := [(6, .int (nI (i + 1))), (3, .int (c + 1)), (4, .long (lN (m / 10 ^ i / 10))), (7, .int (nI (m / 10 ^ i % 10))), (0, .ref (ad w 4)), (1, .long (lN m))]) 3 rfl (nI_add i 1) (by decide) rfl dX4_putFigures_50 ?_
          refine g_goto C (tgt := 8) (by decide) dX4_putFigures_53 ?_
          refine g_sub (L' := [(6, .int (nI (i + 1))), (4, .long (lN (m / 10 ^ i / 10))), (3, .int (c + 1)), (0, .ref (ad w 4)), (1, .long (lN m))]) [0, 2, 1, 4, 5] rfl ?_
          refine g_eq (L' := [(6, .int (nI (i + 1))), (4, .long (lN (m / 10 ^ (i + 1)))), (3, .int (c + 1)), (0, .ref (ad w 4)), (1, .long (lN m))]) rfl rfl (by rw [dp10]) rfl ?_
          refine g_sgE (sg' := (us sg 4 (fw 0 (fun k => nI (m / 10 ^ k % 10)) (sg 4) (i + 1)))) (congrArg (us sg 4) (fw_s0 rfl)) ?_
          exact ihlp (i + 1) (c + 1) (by omega) (by omega) (by rw [hI, czX_f (by rw [Nat.zero_add]; exact h38)]; rfl)
  refine g_sgE (sg' := (us sg 4 (fw 0 (fun k => nI (m / 10 ^ k % 10)) (sg 4) 0))) (by rw [fw_0, us_id]) ?_
  refine g_sub (L' := [(6, .int (nI 0)), (4, .long (lN (m / 10 ^ 0))), (3, .int (nI 0)), (0, .ref (ad w 4)), (1, .long (lN m))]) [0, 1, 2, 3, 4] rfl ?_
  exact lp (12 + 1) 0 (nI 0) (by omega) (by omega) rfl
def bcX (x : Int32) : Int32 := ((((((((x - (((Int32.toUInt32 x >>> (Int32.toUInt32 (nI 1) &&& Int32.toUInt32 31)).toInt32) &&& 1431655765)) &&& 858993459) + (((Int32.toUInt32 (x - (((Int32.toUInt32 x >>> (Int32.toUInt32 (nI 1) &&& Int32.toUInt32 31)).toInt32) &&& 1431655765)) >>> (Int32.toUInt32 (nI 2) &&& Int32.toUInt32 31)).toInt32) &&& 858993459)) + ((Int32.toUInt32 (((x - (((Int32.toUInt32 x >>> (Int32.toUInt32 (nI 1) &&& Int32.toUInt32 31)).toInt32) &&& 1431655765)) &&& 858993459) + (((Int32.toUInt32 (x - (((Int32.toUInt32 x >>> (Int32.toUInt32 (nI 1) &&& Int32.toUInt32 31)).toInt32) &&& 1431655765)) >>> (Int32.toUInt32 (nI 2) &&& Int32.toUInt32 31)).toInt32) &&& 858993459)) >>> (Int32.toUInt32 (nI 4) &&& Int32.toUInt32 31)).toInt32)) &&& 252645135) + ((Int32.toUInt32 (((((x - (((Int32.toUInt32 x >>> (Int32.toUInt32 (nI 1) &&& Int32.toUInt32 31)).toInt32) &&& 1431655765)) &&& 858993459) + (((Int32.toUInt32 (x - (((Int32.toUInt32 x >>> (Int32.toUInt32 (nI 1) &&& Int32.toUInt32 31)).toInt32) &&& 1431655765)) >>> (Int32.toUInt32 (nI 2) &&& Int32.toUInt32 31)).toInt32) &&& 858993459)) + ((Int32.toUInt32 (((x - (((Int32.toUInt32 x >>> (Int32.toUInt32 (nI 1) &&& Int32.toUInt32 31)).toInt32) &&& 1431655765)) &&& 858993459) + (((Int32.toUInt32 (x - (((Int32.toUInt32 x >>> (Int32.toUInt32 (nI 1) &&& Int32.toUInt32 31)).toInt32) &&& 1431655765)) >>> (Int32.toUInt32 (nI 2) &&& Int32.toUInt32 31)).toInt32) &&& 858993459)) >>> (Int32.toUInt32 (nI 4) &&& Int32.toUInt32 31)).toInt32)) &&& 252645135) >>> (Int32.toUInt32 (nI 8) &&& Int32.toUInt32 31)).toInt32)) + ((Int32.toUInt32 ((((((x - (((Int32.toUInt32 x >>> (Int32.toUInt32 (nI 1) &&& Int32.toUInt32 31)).toInt32) &&& 1431655765)) &&& 858993459) + (((Int32.toUInt32 (x - (((Int32.toUInt32 x >>> (Int32.toUInt32 (nI 1) &&& Int32.toUInt32 31)).toInt32) &&& 1431655765)) >>> (Int32.toUInt32 (nI 2) &&& Int32.toUInt32 31)).toInt32) &&& 858993459)) + ((Int32.toUInt32 (((x - (((Int32.toUInt32 x >>> (Int32.toUInt32 (nI 1) &&& Int32.toUInt32 31)).toInt32) &&& 1431655765)) &&& 858993459) + (((Int32.toUInt32 (x - (((Int32.toUInt32 x >>> (Int32.toUInt32 (nI 1) &&& Int32.toUInt32 31)).toInt32) &&& 1431655765)) >>> (Int32.toUInt32 (nI 2) &&& Int32.toUInt32 31)).toInt32) &&& 858993459)) >>> (Int32.toUInt32 (nI 4) &&& Int32.toUInt32 31)).toInt32)) &&& 252645135) + ((Int32.toUInt32 (((((x - (((Int32.toUInt32 x >>> (Int32.toUInt32 (nI 1) &&& Int32.toUInt32 31)).toInt32) &&& 1431655765)) &&& 858993459) + (((Int32.toUInt32 (x - (((Int32.toUInt32 x >>> (Int32.toUInt32 (nI 1) &&& Int32.toUInt32 31)).toInt32) &&& 1431655765)) >>> (Int32.toUInt32 (nI 2) &&& Int32.toUInt32 31)).toInt32) &&& 858993459)) + ((Int32.toUInt32 (((x - (((Int32.toUInt32 x >>> (Int32.toUInt32 (nI 1) &&& Int32.toUInt32 31)).toInt32) &&& 1431655765)) &&& 858993459) + (((Int32.toUInt32 (x - (((Int32.toUInt32 x >>> (Int32.toUInt32 (nI 1) &&& Int32.toUInt32 31)).toInt32) &&& 1431655765)) >>> (Int32.toUInt32 (nI 2) &&& Int32.toUInt32 31)).toInt32) &&& 858993459)) >>> (Int32.toUInt32 (nI 4) &&& Int32.toUInt32 31)).toInt32)) &&& 252645135) >>> (Int32.toUInt32 (nI 8) &&& Int32.toUInt32 31)).toInt32)) >>> (Int32.toUInt32 (nI 16) &&& Int32.toUInt32 31)).toInt32)) &&& (nI 63))
set_option maxRecDepth 100000 in
set_option maxHeartbeats 400000 in
theorem c_J6_bitCount_0f7a4 (w : GW) (tu : Int64) (sg : Sg) (x : Int32) : Kt w yJ6_bitCount_0f7a4 cJ6_bitCount_0f7a4 1 (some .int) 0 [.int x] sg tu (some (.int (bcX x))) sg tu := by
  refine Kt.of2 RJ6 rfl [(0, .int x)] (by decide) rfl (Nat.le_of_ble_eq_true rfl) (fun z C E => ?_)
  refine g_iload_n C 0 rfl rfl dJ6_bitCount_0f7a4_0 ?_
  refine g_iload_n C 0 rfl rfl dJ6_bitCount_0f7a4_1 ?_
  refine g_iconst C (v := (nI 1)) (by decide) dJ6_bitCount_0f7a4_2 ?_
  refine g_iushr C dJ6_bitCount_0f7a4_3 ?_
  refine g_ldcw C cn_J6_265 dJ6_bitCount_0f7a4_4 ?_
  refine g_iand C dJ6_bitCount_0f7a4_7 ?_
  refine g_isub C dJ6_bitCount_0f7a4_8 ?_
  refine g_istore_n C (L' := [(0, .int (x - (((Int32.toUInt32 x >>> (Int32.toUInt32 (nI 1) &&& Int32.toUInt32 31)).toInt32) &&& 1431655765)))]) rfl (by decide) rfl dJ6_bitCount_0f7a4_9 ?_
  refine g_iload_n C 0 rfl rfl dJ6_bitCount_0f7a4_10 ?_
  refine g_ldcw C cn_J6_266 dJ6_bitCount_0f7a4_11 ?_
  refine g_iand C dJ6_bitCount_0f7a4_14 ?_
  refine g_iload_n C 0 rfl rfl dJ6_bitCount_0f7a4_15 ?_
  refine g_iconst C (v := (nI 2)) (by decide) dJ6_bitCount_0f7a4_16 ?_
  refine g_iushr C dJ6_bitCount_0f7a4_17 ?_
  refine g_ldcw C cn_J6_266 dJ6_bitCount_0f7a4_18 ?_
  refine g_iand C dJ6_bitCount_0f7a4_21 ?_
  refine g_iadd C dJ6_bitCount_0f7a4_22 ?_
  refine g_istore_n C (L' := [(0, .int (((x - (((Int32.toUInt32 x >>> (Int32.toUInt32 (nI 1) &&& Int32.toUInt32 31)).toInt32) &&& 1431655765)) &&& 858993459) + (((Int32.toUInt32 (x - (((Int32.toUInt32 x >>> (Int32.toUInt32 (nI 1) &&& Int32.toUInt32 31)).toInt32) &&& 1431655765)) >>> (Int32.toUInt32 (nI 2) &&& Int32.toUInt32 31)).toInt32) &&& 858993459)))]) rfl (by decide) rfl dJ6_bitCount_0f7a4_23 ?_
  refine g_iload_n C 0 rfl rfl dJ6_bitCount_0f7a4_24 ?_
  refine g_iload_n C 0 rfl rfl dJ6_bitCount_0f7a4_25 ?_
  refine g_iconst C (v := (nI 4)) (by decide) dJ6_bitCount_0f7a4_26 ?_
  refine g_iushr C dJ6_bitCount_0f7a4_27 ?_
  refine g_iadd C dJ6_bitCount_0f7a4_28 ?_
  refine g_ldcw C cn_J6_267 dJ6_bitCount_0f7a4_29 ?_
  refine g_iand C dJ6_bitCount_0f7a4_32 ?_
  refine g_istore_n C (L' := [(0, .int (((((x - (((Int32.toUInt32 x >>> (Int32.toUInt32 (nI 1) &&& Int32.toUInt32 31)).toInt32) &&& 1431655765)) &&& 858993459) + (((Int32.toUInt32 (x - (((Int32.toUInt32 x >>> (Int32.toUInt32 (nI 1) &&& Int32.toUInt32 31)).toInt32) &&& 1431655765)) >>> (Int32.toUInt32 (nI 2) &&& Int32.toUInt32 31)).toInt32) &&& 858993459)) + ((Int32.toUInt32 (((x - (((Int32.toUInt32 x >>> (Int32.toUInt32 (nI 1) &&& Int32.toUInt32 31)).toInt32) &&& 1431655765)) &&& 858993459) + (((Int32.toUInt32 (x - (((Int32.toUInt32 x >>> (Int32.toUInt32 (nI 1) &&& Int32.toUInt32 31)).toInt32) &&& 1431655765)) >>> (Int32.toUInt32 (nI 2) &&& Int32.toUInt32 31)).toInt32) &&& 858993459)) >>> (Int32.toUInt32 (nI 4) &&& Int32.toUInt32 31)).toInt32)) &&& 252645135))]) rfl (by decide) rfl dJ6_bitCount_0f7a4_33 ?_
  refine g_iload_n C 0 rfl rfl dJ6_bitCount_0f7a4_34 ?_
  refine g_iload_n C 0 rfl rfl dJ6_bitCount_0f7a4_35 ?_
  refine g_bipush C (v := (nI 8)) (by decide) dJ6_bitCount_0f7a4_36 ?_
  refine g_iushr C dJ6_bitCount_0f7a4_38 ?_
  refine g_iadd C dJ6_bitCount_0f7a4_39 ?_
  refine g_istore_n C (L' := [(0, .int ((((((x - (((Int32.toUInt32 x >>> (Int32.toUInt32 (nI 1) &&& Int32.toUInt32 31)).toInt32) &&& 1431655765)) &&& 858993459) + (((Int32.toUInt32 (x - (((Int32.toUInt32 x >>> (Int32.toUInt32 (nI 1) &&& Int32.toUInt32 31)).toInt32) &&& 1431655765)) >>> (Int32.toUInt32 (nI 2) &&& Int32.toUInt32 31)).toInt32) &&& 858993459)) + ((Int32.toUInt32 (((x - (((Int32.toUInt32 x >>> (Int32.toUInt32 (nI 1) &&& Int32.toUInt32 31)).toInt32) &&& 1431655765)) &&& 858993459) + (((Int32.toUInt32 (x - (((Int32.toUInt32 x >>> (Int32.toUInt32 (nI 1) &&& Int32.toUInt32 31)).toInt32) &&& 1431655765)) >>> (Int32.toUInt32 (nI 2) &&& Int32.toUInt32 31)).toInt32) &&& 858993459)) >>> (Int32.toUInt32 (nI 4) &&& Int32.toUInt32 31)).toInt32)) &&& 252645135) + ((Int32.toUInt32 (((((x - (((Int32.toUInt32 x >>> (Int32.toUInt32 (nI 1) &&& Int32.toUInt32 31)).toInt32) &&& 1431655765)) &&& 858993459) + (((Int32.toUInt32 (x - (((Int32.toUInt32 x >>> (Int32.toUInt32 (nI 1) &&& Int32.toUInt32 31)).toInt32) &&& 1431655765)) >>> (Int32.toUInt32 (nI 2) &&& Int32.toUInt32 31)).toInt32) &&& 858993459)) + ((Int32.toUInt32 (((x - (((Int32.toUInt32 x >>> (Int32.toUInt32 (nI 1) &&& Int32.toUInt32 31)).toInt32) &&& 1431655765)) &&& 858993459) + (((Int32.toUInt32 (x - (((Int32.toUInt32 x >>> (Int32.toUInt32 (nI 1) &&& Int32.toUInt32 31)).toInt32) &&& 1431655765)) >>> (Int32.toUInt32 (nI 2) &&& Int32.toUInt32 31)).toInt32) &&& 858993459)) >>> (Int32.toUInt32 (nI 4) &&& Int32.toUInt32 31)).toInt32)) &&& 252645135) >>> (Int32.toUInt32 (nI 8) &&& Int32.toUInt32 31)).toInt32)))]) rfl (by decide) rfl dJ6_bitCount_0f7a4_40 ?_
  refine g_iload_n C 0 rfl rfl dJ6_bitCount_0f7a4_41 ?_
  refine g_iload_n C 0 rfl rfl dJ6_bitCount_0f7a4_42 ?_
  refine g_bipush C (v := (nI 16)) (by decide) dJ6_bitCount_0f7a4_43 ?_
  refine g_iushr C dJ6_bitCount_0f7a4_45 ?_
  refine g_iadd C dJ6_bitCount_0f7a4_46 ?_
  refine g_istore_n C (L' := [(0, .int (((((((x - (((Int32.toUInt32 x >>> (Int32.toUInt32 (nI 1) &&& Int32.toUInt32 31)).toInt32) &&& 1431655765)) &&& 858993459) + (((Int32.toUInt32 (x - (((Int32.toUInt32 x >>> (Int32.toUInt32 (nI 1) &&& Int32.toUInt32 31)).toInt32) &&& 1431655765)) >>> (Int32.toUInt32 (nI 2) &&& Int32.toUInt32 31)).toInt32) &&& 858993459)) + ((Int32.toUInt32 (((x - (((Int32.toUInt32 x >>> (Int32.toUInt32 (nI 1) &&& Int32.toUInt32 31)).toInt32) &&& 1431655765)) &&& 858993459) + (((Int32.toUInt32 (x - (((Int32.toUInt32 x >>> (Int32.toUInt32 (nI 1) &&& Int32.toUInt32 31)).toInt32) &&& 1431655765)) >>> (Int32.toUInt32 (nI 2) &&& Int32.toUInt32 31)).toInt32) &&& 858993459)) >>> (Int32.toUInt32 (nI 4) &&& Int32.toUInt32 31)).toInt32)) &&& 252645135) + ((Int32.toUInt32 (((((x - (((Int32.toUInt32 x >>> (Int32.toUInt32 (nI 1) &&& Int32.toUInt32 31)).toInt32) &&& 1431655765)) &&& 858993459) + (((Int32.toUInt32 (x - (((Int32.toUInt32 x >>> (Int32.toUInt32 (nI 1) &&& Int32.toUInt32 31)).toInt32) &&& 1431655765)) >>> (Int32.toUInt32 (nI 2) &&& Int32.toUInt32 31)).toInt32) &&& 858993459)) + ((Int32.toUInt32 (((x - (((Int32.toUInt32 x >>> (Int32.toUInt32 (nI 1) &&& Int32.toUInt32 31)).toInt32) &&& 1431655765)) &&& 858993459) + (((Int32.toUInt32 (x - (((Int32.toUInt32 x >>> (Int32.toUInt32 (nI 1) &&& Int32.toUInt32 31)).toInt32) &&& 1431655765)) >>> (Int32.toUInt32 (nI 2) &&& Int32.toUInt32 31)).toInt32) &&& 858993459)) >>> (Int32.toUInt32 (nI 4) &&& Int32.toUInt32 31)).toInt32)) &&& 252645135) >>> (Int32.toUInt32 (nI 8) &&& Int32.toUInt32 31)).toInt32)) + ((Int32.toUInt32 ((((((x - (((Int32.toUInt32 x >>> (Int32.toUInt32 (nI 1) &&& Int32.toUInt32 31)).toInt32) &&& 1431655765)) &&& 858993459) + (((Int32.toUInt32 (x - (((Int32.toUInt32 x >>> (Int32.toUInt32 (nI 1) &&& Int32.toUInt32 31)).toInt32) &&& 1431655765)) >>> (Int32.toUInt32 (nI 2) &&& Int32.toUInt32 31)).toInt32) &&& 858993459)) + ((Int32.toUInt32 (((x - (((Int32.toUInt32 x >>> (Int32.toUInt32 (nI 1) &&& Int32.toUInt32 31)).toInt32) &&& 1431655765)) &&& 858993459) + (((Int32.toUInt32 (x - (((Int32.toUInt32 x >>> (Int32.toUInt32 (nI 1) &&& Int32.toUInt32 31)).toInt32) &&& 1431655765)) >>> (Int32.toUInt32 (nI 2) &&& Int32.toUInt32 31)).toInt32) &&& 858993459)) >>> (Int32.toUInt32 (nI 4) &&& Int32.toUInt32 31)).toInt32)) &&& 252645135) + ((Int32.toUInt32 (((((x - (((Int32.toUInt32 x >>> (Int32.toUInt32 (nI 1) &&& Int32.toUInt32 31)).toInt32) &&& 1431655765)) &&& 858993459) + (((Int32.toUInt32 (x - (((Int32.toUInt32 x >>> (Int32.toUInt32 (nI 1) &&& Int32.toUInt32 31)).toInt32) &&& 1431655765)) >>> (Int32.toUInt32 (nI 2) &&& Int32.toUInt32 31)).toInt32) &&& 858993459)) + ((Int32.toUInt32 (((x - (((Int32.toUInt32 x >>> (Int32.toUInt32 (nI 1) &&& Int32.toUInt32 31)).toInt32) &&& 1431655765)) &&& 858993459) + (((Int32.toUInt32 (x - (((Int32.toUInt32 x >>> (Int32.toUInt32 (nI 1) &&& Int32.toUInt32 31)).toInt32) &&& 1431655765)) >>> (Int32.toUInt32 (nI 2) &&& Int32.toUInt32 31)).toInt32) &&& 858993459)) >>> (Int32.toUInt32 (nI 4) &&& Int32.toUInt32 31)).toInt32)) &&& 252645135) >>> (Int32.toUInt32 (nI 8) &&& Int32.toUInt32 31)).toInt32)) >>> (Int32.toUInt32 (nI 16) &&& Int32.toUInt32 31)).toInt32)))]) rfl (by decide) rfl dJ6_bitCount_0f7a4_47 ?_
  refine g_iload_n C 0 rfl rfl dJ6_bitCount_0f7a4_48 ?_
  refine g_bipush C (v := (nI 63)) (by decide) dJ6_bitCount_0f7a4_49 ?_
  refine g_iand C dJ6_bitCount_0f7a4_51 ?_
  exact g_iret C E dJ6_bitCount_0f7a4_52 rfl Sq.rf rfl
set_option maxRecDepth 100000 in
set_option maxHeartbeats 400000 in
theorem c_J7_fill_53178 (w : GW) (tu : Int64) (sg : Sg) : Kt w yJ7_fill_53178 cJ7_fill_53178 4 none 0 [.ref (ad w 5), .int (nI 0)] sg tu (none) (us sg 5 (fun _ => nI 0)) tu := by
  refine Kt.of2 RJ7 rfl [(0, .ref (ad w 5)), (1, .int (nI 0))] (by decide) rfl (Nat.le_of_ble_eq_true rfl) (fun z C E => ?_)
  refine g_iconst C (v := (nI 0)) (by decide) dJ7_fill_53178_0 ?_
  refine g_istore_n C (L' := [(2, .int (nI 0)), (0, .ref (ad w 5)), (1, .int (nI 0))]) rfl (by decide) rfl dJ7_fill_53178_1 ?_
  refine g_aload_n C 1 rfl rfl dJ7_fill_53178_2 ?_
  refine g_alen C e_5 dJ7_fill_53178_3 ?_
  refine g_istore_n C (L' := [(3, .int (nI 7)), (2, .int (nI 0)), (0, .ref (ad w 5)), (1, .int (nI 0))]) rfl (by decide) rfl dJ7_fill_53178_4 ?_
  have lp : ∀ (nf i : Nat), 7 < i + nf → i ≤ 7 → (True) → G z w 4 (us sg 5 (fw 0 (fun _ => nI 0) (sg 5) i)) tu 5 [(3, .int (nI 7)), (2, .int (nI i)), (0, .ref (ad w 5)), (1, .int (nI 0))] [] := by
    intro nf
    induction nf with
    | zero => intro i  h1 h2 hI; exact absurd h1 (by omega)
    | succ nf ihlp =>
      intro i  h1 h2 hI
      refine g_iload_n C 1 rfl rfl dJ7_fill_53178_5 ?_
      refine g_iload_n C 0 rfl rfl dJ7_fill_53178_6 ?_
      refine g_icmpN_ge C i 7 (by omega) (by omega) (tgt := 20) (by decide) dJ7_fill_53178_7 (fun h7 => ?_) (fun h7 => ?_)
      ·
        have hiN : 7 = i := by omega
        subst hiN
        exact g_vret C E dJ7_fill_53178_20 (Sq.us fun j hj => fw_in ⟨Nat.zero_le _, by rw [Nat.zero_add]; exact hj⟩) rfl
      ·
        refine g_aload_n C 2 rfl rfl dJ7_fill_53178_10 ?_
        refine g_iload_n C 1 rfl rfl dJ7_fill_53178_11 ?_
        refine g_iload_n C 3 rfl rfl dJ7_fill_53178_12 ?_
        refine g_iastN C i e_5 (by omega) (by decide) dJ7_fill_53178_13 ?_
        refine g_sgE (sg' := (us sg 5 (upd (fw 0 (fun _ => nI 0) (sg 5) i) i (nI 0)))) us_us ?_
        refine g_iinc C (n := 1) (v := (nI (i + 1))) (L' := [(2, .int (nI (i + 1))), (3, .int (nI 7)), (0, .ref (ad w 5)), (1, .int (nI 0))]) 1 rfl (nI_add i 1) (by decide) rfl dJ7_fill_53178_14 ?_
        refine g_goto C (tgt := 5) (by decide) dJ7_fill_53178_17 ?_
        refine g_sub (L' := [(3, .int (nI 7)), (2, .int (nI (i + 1))), (0, .ref (ad w 5)), (1, .int (nI 0))]) [1, 0, 2, 3] rfl ?_
        refine g_sgE (sg' := (us sg 5 (fw 0 (fun _ => nI 0) (sg 5) (i + 1)))) (congrArg (us sg 5) (fw_s0 rfl)) ?_
        exact ihlp (i + 1)  (by omega) (by omega) trivial
  refine g_sgE (sg' := (us sg 5 (fw 0 (fun _ => nI 0) (sg 5) 0))) (by rw [fw_0, us_id]) ?_
  exact lp (7 + 1) 0  (by omega) (by omega) trivial
set_option maxRecDepth 100000 in
set_option maxHeartbeats 400000 in
theorem c_X4_canMultiply_0 (w : GW) (tu : Int64) (sg : Sg) (n : Nat) (hn : n ≤ 999999) : Kt w yX4_canMultiply cX4_canMultiply 2 (some .boolean) 1 [.int (nI n), .int (nI 0)] sg tu (some (.int (nI 1))) sg tu := by
  refine Kt.of2 RX4 rfl [(0, .int (nI n)), (1, .int (nI 0))] (by decide) rfl (Nat.le_of_ble_eq_true rfl) (fun z C E => ?_)
  refine g_iload_n C 0 rfl rfl dX4_canMultiply_0 ?_
  refine g_i2l C dX4_canMultiply_1 ?_
  refine g_lconst C (v := 0) (by decide) dX4_canMultiply_2 ?_
  refine g_ldc2 C cn_X4_210 dX4_canMultiply_3 ?_
  refine g_callS1 [] C (c_X4_within_t w tu sg (Int32.toInt64 (nI n)) 0 999999 (in_ok (n := 999999) (by omega) (by decide))) mt_X4_within ml_X4_91 st_X4_within (by decide) rfl (Nat.le_of_ble_eq_true rfl) dX4_canMultiply_6 ?_
  refine g_eq (L' := [(0, .int (nI n)), (1, .int (nI 0))]) (S' := [.int (nI 1)]) rfl rfl rfl rfl ?_
  refine g_if_eq C (tgt := 26) (by decide) dX4_canMultiply_9 (fun h9 => absurd h9 (by decide)) (fun h9 => ?_)
  refine g_iload_n C 1 rfl rfl dX4_canMultiply_12 ?_
  refine g_i2l C dX4_canMultiply_13 ?_
  refine g_lconst C (v := 0) (by decide) dX4_canMultiply_14 ?_
  refine g_lconst C (v := 1) (by decide) dX4_canMultiply_15 ?_
  refine g_callS1 [] C (c_X4_within_t w tu sg (Int32.toInt64 (nI 0)) 0 1 (in_ok (n := 1) (by omega) (by decide))) mt_X4_within ml_X4_91 st_X4_within (by decide) rfl (Nat.le_of_ble_eq_true rfl) dX4_canMultiply_16 ?_
  refine g_eq (L' := [(0, .int (nI n)), (1, .int (nI 0))]) (S' := [.int (nI 1)]) rfl rfl rfl rfl ?_
  refine g_if_eq C (tgt := 26) (by decide) dX4_canMultiply_19 (fun h19 => absurd h19 (by decide)) (fun h19 => ?_)
  refine g_iconst C (v := (nI 1)) (by decide) dX4_canMultiply_22 ?_
  refine g_goto C (tgt := 27) (by decide) dX4_canMultiply_23 ?_
  exact g_zret C E dX4_canMultiply_27 (by decide +kernel) rfl Sq.rf rfl
set_option maxRecDepth 100000 in
set_option maxHeartbeats 400000 in
theorem c_X4_figuresToMultiply_0 (w : GW) (tu : Int64) (sg : Sg) : Kt w yX4_figuresToMultiply cX4_figuresToMultiply 1 (some .int) 0 [.int (nI 0)] sg tu (some (.int (nI 6))) sg tu := by
  refine Kt.of2 RX4 rfl [(0, .int (nI 0))] (by decide) rfl (Nat.le_of_ble_eq_true rfl) (fun z C E => ?_)
  refine g_iload_n C 0 rfl rfl dX4_figuresToMultiply_0 ?_
  refine g_iconst C (v := (nI 1)) (by decide) dX4_figuresToMultiply_1 ?_
  refine g_icmpN_ne C 0 1 (by omega) (by omega) (tgt := 10) (by decide) dX4_figuresToMultiply_2 (fun h2 => ?_) (fun h2 => absurd h2 (by decide))
  refine g_bipush C (v := (nI 6)) (by decide) dX4_figuresToMultiply_10 ?_
  exact g_iret C E dX4_figuresToMultiply_12 rfl Sq.rf rfl
set_option maxRecDepth 100000 in
set_option maxHeartbeats 400000 in
theorem c_X4_canMultiply_1 (w : GW) (tu : Int64) (sg : Sg) (n : Nat) (hn : n ≤ 999999) : Kt w yX4_canMultiply cX4_canMultiply 2 (some .boolean) 1 [.int (nI n), .int (nI 1)] sg tu (some (.int (nI 1))) sg tu := by
  refine Kt.of2 RX4 rfl [(0, .int (nI n)), (1, .int (nI 1))] (by decide) rfl (Nat.le_of_ble_eq_true rfl) (fun z C E => ?_)
  refine g_iload_n C 0 rfl rfl dX4_canMultiply_0 ?_
  refine g_i2l C dX4_canMultiply_1 ?_
  refine g_lconst C (v := 0) (by decide) dX4_canMultiply_2 ?_
  refine g_ldc2 C cn_X4_210 dX4_canMultiply_3 ?_
  refine g_callS1 [] C (c_X4_within_t w tu sg (Int32.toInt64 (nI n)) 0 999999 (in_ok (n := 999999) (by omega) (by decide))) mt_X4_within ml_X4_91 st_X4_within (by decide) rfl (Nat.le_of_ble_eq_true rfl) dX4_canMultiply_6 ?_
  refine g_eq (L' := [(0, .int (nI n)), (1, .int (nI 1))]) (S' := [.int (nI 1)]) rfl rfl rfl rfl ?_
  refine g_if_eq C (tgt := 26) (by decide) dX4_canMultiply_9 (fun h9 => absurd h9 (by decide)) (fun h9 => ?_)
  refine g_iload_n C 1 rfl rfl dX4_canMultiply_12 ?_
  refine g_i2l C dX4_canMultiply_13 ?_
  refine g_lconst C (v := 0) (by decide) dX4_canMultiply_14 ?_
  refine g_lconst C (v := 1) (by decide) dX4_canMultiply_15 ?_
  refine g_callS1 [] C (c_X4_within_t w tu sg (Int32.toInt64 (nI 1)) 0 1 (in_ok (n := 1) (by omega) (by decide))) mt_X4_within ml_X4_91 st_X4_within (by decide) rfl (Nat.le_of_ble_eq_true rfl) dX4_canMultiply_16 ?_
  refine g_eq (L' := [(0, .int (nI n)), (1, .int (nI 1))]) (S' := [.int (nI 1)]) rfl rfl rfl rfl ?_
  refine g_if_eq C (tgt := 26) (by decide) dX4_canMultiply_19 (fun h19 => absurd h19 (by decide)) (fun h19 => ?_)
  refine g_iconst C (v := (nI 1)) (by decide) dX4_canMultiply_22 ?_
  refine g_goto C (tgt := 27) (by decide) dX4_canMultiply_23 ?_
  exact g_zret C E dX4_canMultiply_27 (by decide +kernel) rfl Sq.rf rfl
set_option maxRecDepth 100000 in
set_option maxHeartbeats 400000 in
theorem c_X4_figuresToMultiply_1 (w : GW) (tu : Int64) (sg : Sg) : Kt w yX4_figuresToMultiply cX4_figuresToMultiply 1 (some .int) 0 [.int (nI 1)] sg tu (some (.int (nI 7))) sg tu := by
  refine Kt.of2 RX4 rfl [(0, .int (nI 1))] (by decide) rfl (Nat.le_of_ble_eq_true rfl) (fun z C E => ?_)
  refine g_iload_n C 0 rfl rfl dX4_figuresToMultiply_0 ?_
  refine g_iconst C (v := (nI 1)) (by decide) dX4_figuresToMultiply_1 ?_
  refine g_icmpN_ne C 1 1 (by omega) (by omega) (tgt := 10) (by decide) dX4_figuresToMultiply_2 (fun h2 => absurd h2 (by decide)) (fun h2 => ?_)
  refine g_bipush C (v := (nI 7)) (by decide) dX4_figuresToMultiply_5 ?_
  refine g_goto C (tgt := 12) (by decide) dX4_figuresToMultiply_7 ?_
  exact g_iret C E dX4_figuresToMultiply_12 rfl Sq.rf rfl
set_option maxRecDepth 100000 in
set_option maxHeartbeats 400000 in
theorem c_X4_canMultiply_bad (w : GW) (tu : Int64) (sg : Sg) (x : Int32) (v : Int32) (h : ¬ ((0 ≤ Int32.toInt64 x ∧ Int32.toInt64 x ≤ 999999) ∧ (0 ≤ Int32.toInt64 v ∧ Int32.toInt64 v ≤ 1))) : Kt w yX4_canMultiply cX4_canMultiply 2 (some .boolean) 1 [.int x, .int v] sg tu (some (.int (nI 0))) sg tu := by
  refine Kt.of2 RX4 rfl [(0, .int x), (1, .int v)] (by decide) rfl (Nat.le_of_ble_eq_true rfl) (fun z C E => ?_)
  refine g_iload_n C 0 rfl rfl dX4_canMultiply_0 ?_
  refine g_i2l C dX4_canMultiply_1 ?_
  refine g_lconst C (v := 0) (by decide) dX4_canMultiply_2 ?_
  refine g_ldc2 C cn_X4_210 dX4_canMultiply_3 ?_
  refine g_callS1 [] C (c_X4_within w tu sg (Int32.toInt64 x) 0 999999 ) mt_X4_within ml_X4_91 st_X4_within (by decide) rfl (Nat.le_of_ble_eq_true rfl) dX4_canMultiply_6 ?_
  refine g_eq (L' := [(0, .int x), (1, .int v)]) (S' := [.int (bI (0 ≤ (Int32.toInt64 x) ∧ (Int32.toInt64 x) ≤ 999999))]) rfl rfl rfl rfl ?_
  refine g_bif_eq C (tgt := 26) (by decide) dX4_canMultiply_9 (fun h9 => ?_) (fun h9 => ?_)
  ·
    refine g_iconst C (v := (nI 0)) (by decide) dX4_canMultiply_26 ?_
    exact g_zret C E dX4_canMultiply_27 (by decide +kernel) rfl Sq.rf rfl
  ·
    refine g_iload_n C 1 rfl rfl dX4_canMultiply_12 ?_
    refine g_i2l C dX4_canMultiply_13 ?_
    refine g_lconst C (v := 0) (by decide) dX4_canMultiply_14 ?_
    refine g_lconst C (v := 1) (by decide) dX4_canMultiply_15 ?_
    refine g_callS1 [] C (c_X4_within w tu sg (Int32.toInt64 v) 0 1 ) mt_X4_within ml_X4_91 st_X4_within (by decide) rfl (Nat.le_of_ble_eq_true rfl) dX4_canMultiply_16 ?_
    refine g_eq (L' := [(0, .int x), (1, .int v)]) (S' := [.int (bI (0 ≤ (Int32.toInt64 v) ∧ (Int32.toInt64 v) ≤ 1))]) rfl rfl rfl rfl ?_
    refine g_bif_eq C (tgt := 26) (by decide) dX4_canMultiply_19 (fun h19 => ?_) (fun h19 => absurd ⟨h9, h19⟩ h)
    refine g_iconst C (v := (nI 0)) (by decide) dX4_canMultiply_26 ?_
    exact g_zret C E dX4_canMultiply_27 (by decide +kernel) rfl Sq.rf rfl
set_option maxRecDepth 100000 in
set_option maxHeartbeats 400000 in
theorem c_X4_turnsForFigure_0 (w : GW) (tu : Int64) (sg : Sg) (m : Nat) (hm : m ≤ 999999) : Kt w yX4_turnsForFigure cX4_turnsForFigure 3 (some .int) 0 [.int (nI m), .int (nI 0)] sg tu (some (.int (pI 0 m))) sg tu := by
  refine Kt.of2 RX4 rfl [(0, .int (nI m)), (1, .int (nI 0))] (by decide) rfl (Nat.le_of_ble_eq_true rfl) (fun z C E => ?_)
  refine g_iload_n C 0 rfl rfl dX4_turnsForFigure_0 ?_
  refine g_bipush C (v := (nI 10)) (by decide) dX4_turnsForFigure_1 ?_
  refine g_irem C (by decide) dX4_turnsForFigure_3 ?_
  refine g_top (y := (nI (m % 10))) (pk_rem (show m < 2 ^ 31 by omega) (by decide) (by decide)) ?_
  refine g_istore_n C (L' := [(2, .int (nI (m % 10))), (0, .int (nI m)), (1, .int (nI 0))]) rfl (by decide) rfl dX4_turnsForFigure_4 ?_
  refine g_iload_n C 2 rfl rfl dX4_turnsForFigure_5 ?_
  refine g_iconst C (v := (nI 1)) (by decide) dX4_turnsForFigure_6 ?_
  refine g_icmpN_ne C 0 1 (by omega) (by omega) (tgt := 22) (by decide) dX4_turnsForFigure_7 (fun h7 => ?_) (fun h7 => absurd h7 (by decide))
  refine g_iload_n C 0 rfl rfl dX4_turnsForFigure_22 ?_
  exact g_iret C E dX4_turnsForFigure_23 (if_neg (by omega)).symm Sq.rf rfl
theorem lb_0 : ∀ m, m ≤ 999999 → (nI m - pI 0 m) / nI 10 = nI (nxP 0 m) := by
  intro m hm
  unfold pI nxP
  split
  · rename_i hc
    have e1 : nI m - (nI (m % 10) - nI 10) = nI (m - m % 10 + 10) := by
      rw [← nI_add, ← pk_sub (Nat.mod_le m 10)]
      simp only [Int32.sub_eq_add_neg, Int32.neg_add, Int32.neg_neg, Int32.add_assoc]
    rw [e1, pk_div (by omega) (by decide) (by decide)]
    congr 1
    omega
  · rw [pk_sub (Nat.mod_le m 10), pk_div (by omega) (by decide) (by decide)]
    congr 1
    omega
set_option maxRecDepth 100000 in
set_option maxHeartbeats 400000 in
theorem c_X4_leftBehindFigure_0 (w : GW) (tu : Int64) (sg : Sg) (m : Nat) (t : Int32) (hm : m ≤ 999999) (ht : t = pI 0 m) : Kt w yX4_leftBehindFigure cX4_leftBehindFigure 2 (some .int) 0 [.int (nI m), .int t] sg tu (some (.int (nI (nxP 0 m)))) sg tu := by
  refine Kt.of2 RX4 rfl [(0, .int (nI m)), (1, .int t)] (by decide) rfl (Nat.le_of_ble_eq_true rfl) (fun z C E => ?_)
  refine g_iload_n C 0 rfl rfl dX4_leftBehindFigure_0 ?_
  refine g_iload_n C 1 rfl rfl dX4_leftBehindFigure_1 ?_
  refine g_isub C dX4_leftBehindFigure_2 ?_
  refine g_bipush C (v := (nI 10)) (by decide) dX4_leftBehindFigure_3 ?_
  refine g_idiv C (by decide) dX4_leftBehindFigure_5 ?_
  refine g_top (y := (nI (nxP 0 m))) (by rw [ht]; exact lb_0 m hm) ?_
  exact g_iret C E dX4_leftBehindFigure_6 rfl Sq.rf rfl
set_option maxRecDepth 100000 in
set_option maxHeartbeats 400000 in
theorem c_X4_turnsForFigure_1 (w : GW) (tu : Int64) (sg : Sg) (m : Nat) (hm : m ≤ 999999) : Kt w yX4_turnsForFigure cX4_turnsForFigure 3 (some .int) 0 [.int (nI m), .int (nI 1)] sg tu (some (.int (pI 1 m))) sg tu := by
  refine Kt.of2 RX4 rfl [(0, .int (nI m)), (1, .int (nI 1))] (by decide) rfl (Nat.le_of_ble_eq_true rfl) (fun z C E => ?_)
  refine g_iload_n C 0 rfl rfl dX4_turnsForFigure_0 ?_
  refine g_bipush C (v := (nI 10)) (by decide) dX4_turnsForFigure_1 ?_
  refine g_irem C (by decide) dX4_turnsForFigure_3 ?_
  refine g_top (y := (nI (m % 10))) (pk_rem (show m < 2 ^ 31 by omega) (by decide) (by decide)) ?_
  refine g_istore_n C (L' := [(2, .int (nI (m % 10))), (0, .int (nI m)), (1, .int (nI 1))]) rfl (by decide) rfl dX4_turnsForFigure_4 ?_
  refine g_iload_n C 2 rfl rfl dX4_turnsForFigure_5 ?_
  refine g_iconst C (v := (nI 1)) (by decide) dX4_turnsForFigure_6 ?_
  refine g_icmpN_ne C 1 1 (by omega) (by omega) (tgt := 22) (by decide) dX4_turnsForFigure_7 (fun h7 => absurd h7 (by decide)) (fun h7 => ?_)
  refine g_iload_n C 0 rfl rfl dX4_turnsForFigure_10 ?_
  refine g_iconst C (v := (nI 5)) (by decide) dX4_turnsForFigure_11 ?_
  refine g_icmpN_le C (m % 10) 5 (by omega) (by omega) (tgt := 22) (by decide) dX4_turnsForFigure_12 (fun h12 => ?_) (fun h12 => ?_)
  ·
    refine g_iload_n C 0 rfl rfl dX4_turnsForFigure_22 ?_
    exact g_iret C E dX4_turnsForFigure_23 (if_neg (by omega)).symm Sq.rf rfl
  ·
    refine g_iload_n C 0 rfl rfl dX4_turnsForFigure_15 ?_
    refine g_bipush C (v := (nI 10)) (by decide) dX4_turnsForFigure_16 ?_
    refine g_isub C dX4_turnsForFigure_18 ?_
    refine g_goto C (tgt := 23) (by decide) dX4_turnsForFigure_19 ?_
    exact g_iret C E dX4_turnsForFigure_23 (if_pos ⟨rfl, h12⟩).symm Sq.rf rfl
theorem lb_1 : ∀ m, m ≤ 999999 → (nI m - pI 1 m) / nI 10 = nI (nxP 1 m) := by
  intro m hm
  unfold pI nxP
  split
  · rename_i hc
    have e1 : nI m - (nI (m % 10) - nI 10) = nI (m - m % 10 + 10) := by
      rw [← nI_add, ← pk_sub (Nat.mod_le m 10)]
      simp only [Int32.sub_eq_add_neg, Int32.neg_add, Int32.neg_neg, Int32.add_assoc]
    rw [e1, pk_div (by omega) (by decide) (by decide)]
    congr 1
    omega
  · rw [pk_sub (Nat.mod_le m 10), pk_div (by omega) (by decide) (by decide)]
    congr 1
    omega
set_option maxRecDepth 100000 in
set_option maxHeartbeats 400000 in
theorem c_X4_leftBehindFigure_1 (w : GW) (tu : Int64) (sg : Sg) (m : Nat) (t : Int32) (hm : m ≤ 999999) (ht : t = pI 1 m) : Kt w yX4_leftBehindFigure cX4_leftBehindFigure 2 (some .int) 0 [.int (nI m), .int t] sg tu (some (.int (nI (nxP 1 m)))) sg tu := by
  refine Kt.of2 RX4 rfl [(0, .int (nI m)), (1, .int t)] (by decide) rfl (Nat.le_of_ble_eq_true rfl) (fun z C E => ?_)
  refine g_iload_n C 0 rfl rfl dX4_leftBehindFigure_0 ?_
  refine g_iload_n C 1 rfl rfl dX4_leftBehindFigure_1 ?_
  refine g_isub C dX4_leftBehindFigure_2 ?_
  refine g_bipush C (v := (nI 10)) (by decide) dX4_leftBehindFigure_3 ?_
  refine g_idiv C (by decide) dX4_leftBehindFigure_5 ?_
  refine g_top (y := (nI (nxP 1 m))) (by rw [ht]; exact lb_1 m hm) ?_
  exact g_iret C E dX4_leftBehindFigure_6 rfl Sq.rf rfl
