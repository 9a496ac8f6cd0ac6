set_option maxRecDepth 100000 in
set_option maxHeartbeats 400000 in
theorem c_X5_laysAside (w : GW) (tu : Int64) (sg : Sg) : Kt w yX5_laysAside cX5_laysAside 2 none 0 [.ref (ad w 44)] sg tu (none) (us sg 46 (sg 45)) tu := by
  refine Kt.of2 RX5 rfl [(0, .ref (ad w 44))] (by decide) rfl (Nat.le_of_ble_eq_true rfl) (fun z C E => ?_)
  refine g_iconst C (v := (nI 0)) (by decide) dX5_laysAside_0 ?_
  refine g_istore_n C (L' := [(1, .int (nI 0)), (0, .ref (ad w 44))]) rfl (by decide) rfl dX5_laysAside_1 ?_
  have lp : ∀ (nf i : Nat), 35 < i + nf → i ≤ 35 → (True) → G z w 2 (us sg 46 (fw 0 (sg 45) (sg 46) i)) tu 2 [(1, .int (nI i)), (0, .ref (ad w 44))] [] := by
    intro nf
    induction nf with
    | zero => intro i  h1 h2 hI; exact absurd h1 (by omega)
    | succ nf ihlp =>
      intro i  h1 h2 hI
      refine g_iload_n C 0 rfl rfl dX5_laysAside_2 ?_
      refine g_bipush C (v := (nI 35)) (by decide) dX5_laysAside_3 ?_
      refine g_icmpN_ge C i 35 (by omega) (by omega) (tgt := 26) (by decide) dX5_laysAside_5 (fun h5 => ?_) (fun h5 => ?_)
      ·
        have hiN : 35 = i := by omega
        subst hiN
        exact g_vret C E dX5_laysAside_26 (Sq.us fun j hj => fw_in ⟨Nat.zero_le _, by rw [Nat.zero_add]; exact hj⟩) rfl
      ·
        refine g_aload_n C 1 rfl rfl dX5_laysAside_8 ?_
        refine g_getR C (j := 1) cls5 e_44 rfl (by decide) fl_X5_13 dX5_laysAside_9 ?_
        refine g_iload_n C 0 rfl rfl dX5_laysAside_12 ?_
        refine g_aload_n C 1 rfl rfl dX5_laysAside_13 ?_
        refine g_getR C (j := 0) cls5 e_44 rfl (by decide) fl_X5_7 dX5_laysAside_14 ?_
        refine g_iload_n C 0 rfl rfl dX5_laysAside_17 ?_
        refine g_ialdN C i e_45 (by omega) (by decide) dX5_laysAside_18 ?_
        refine g_top (y := (sg 45 i)) rfl ?_
        refine g_iastN C i e_46 (by omega) (by decide) dX5_laysAside_19 ?_
        refine g_sgE (sg' := (us sg 46 (upd (fw 0 (sg 45) (sg 46) i) i (sg 45 i)))) us_us ?_
        refine g_iinc C (n := 1) (v := (nI (i + 1))) (L' := [(1, .int (nI (i + 1))), (0, .ref (ad w 44))]) 0 rfl (nI_add i 1) (by decide) rfl dX5_laysAside_20 ?_
        refine g_goto C (tgt := 2) (by decide) dX5_laysAside_23 ?_
        refine g_sub (L' := [(1, .int (nI (i + 1))), (0, .ref (ad w 44))]) [0, 1] rfl ?_
        refine g_sgE (sg' := (us sg 46 (fw 0 (sg 45) (sg 46) (i + 1)))) (congrArg (us sg 46) (fw_s0 rfl)) ?_
        exact ihlp (i + 1)  (by omega) (by omega) trivial
  refine g_sgE (sg' := (us sg 46 (fw 0 (sg 45) (sg 46) 0))) (by rw [fw_0, us_id]) ?_
  exact lp (35 + 1) 0  (by omega) (by omega) trivial
set_option maxRecDepth 100000 in
set_option maxHeartbeats 400000 in
theorem c_X5_takesBack (w : GW) (tu : Int64) (sg : Sg) : Kt w yX5_takesBack cX5_takesBack 2 none 0 [.ref (ad w 44)] sg tu (none) (us sg 45 (sg 46)) tu := by
  refine Kt.of2 RX5 rfl [(0, .ref (ad w 44))] (by decide) rfl (Nat.le_of_ble_eq_true rfl) (fun z C E => ?_)
  refine g_iconst C (v := (nI 0)) (by decide) dX5_takesBack_0 ?_
  refine g_istore_n C (L' := [(1, .int (nI 0)), (0, .ref (ad w 44))]) rfl (by decide) rfl dX5_takesBack_1 ?_
  have lp : ∀ (nf i : Nat), 35 < i + nf → i ≤ 35 → (True) → G z w 2 (us sg 45 (fw 0 (sg 46) (sg 45) i)) tu 2 [(1, .int (nI i)), (0, .ref (ad w 44))] [] := by
    intro nf
    induction nf with
    | zero => intro i  h1 h2 hI; exact absurd h1 (by omega)
    | succ nf ihlp =>
      intro i  h1 h2 hI
      refine g_iload_n C 0 rfl rfl dX5_takesBack_2 ?_
      refine g_bipush C (v := (nI 35)) (by decide) dX5_takesBack_3 ?_
      refine g_icmpN_ge C i 35 (by omega) (by omega) (tgt := 26) (by decide) dX5_takesBack_5 (fun h5 => ?_) (fun h5 => ?_)
      ·
        have hiN : 35 = i := by omega
        subst hiN
        exact g_vret C E dX5_takesBack_26 (Sq.us fun j hj => fw_in ⟨Nat.zero_le _, by rw [Nat.zero_add]; exact hj⟩) rfl
      ·
        refine g_aload_n C 1 rfl rfl dX5_takesBack_8 ?_
        refine g_getR C (j := 0) cls5 e_44 rfl (by decide) fl_X5_7 dX5_takesBack_9 ?_
        refine g_iload_n C 0 rfl rfl dX5_takesBack_12 ?_
        refine g_aload_n C 1 rfl rfl dX5_takesBack_13 ?_
        refine g_getR C (j := 1) cls5 e_44 rfl (by decide) fl_X5_13 dX5_takesBack_14 ?_
        refine g_iload_n C 0 rfl rfl dX5_takesBack_17 ?_
        refine g_ialdN C i e_46 (by omega) (by decide) dX5_takesBack_18 ?_
        refine g_top (y := (sg 46 i)) rfl ?_
        refine g_iastN C i e_45 (by omega) (by decide) dX5_takesBack_19 ?_
        refine g_sgE (sg' := (us sg 45 (upd (fw 0 (sg 46) (sg 45) i) i (sg 46 i)))) us_us ?_
        refine g_iinc C (n := 1) (v := (nI (i + 1))) (L' := [(1, .int (nI (i + 1))), (0, .ref (ad w 44))]) 0 rfl (nI_add i 1) (by decide) rfl dX5_takesBack_20 ?_
        refine g_goto C (tgt := 2) (by decide) dX5_takesBack_23 ?_
        refine g_sub (L' := [(1, .int (nI (i + 1))), (0, .ref (ad w 44))]) [0, 1] rfl ?_
        refine g_sgE (sg' := (us sg 45 (fw 0 (sg 46) (sg 45) (i + 1)))) (congrArg (us sg 45) (fw_s0 rfl)) ?_
        exact ihlp (i + 1)  (by omega) (by omega) trivial
  refine g_sgE (sg' := (us sg 45 (fw 0 (sg 46) (sg 45) 0))) (by rw [fw_0, us_id]) ?_
  exact lp (35 + 1) 0  (by omega) (by omega) trivial
