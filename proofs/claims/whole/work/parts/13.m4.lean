set_option maxRecDepth 100000 in
set_option maxHeartbeats 400000 in
theorem c_X5_finished_ok (w : GW) (tu : Int64) (sg : Sg) (a : Int32) (st : Nat) (ha : (-2 : Int32) < a) (hst : sg 44 3 = nI st) (hs5 : st ≤ 5) : Kt w yX5_finished cX5_finished 2 (some .int) 1 [.ref (ad w 44), .int a] sg tu (some (.int a)) (us (us sg 47 (pastP (sg 47) (sg 46) st)) 44 (upd (sg 44) 3 (nI (stP st)))) tu := by
  refine Kt.of2 RX5 rfl [(0, .ref (ad w 44)), (1, .int a)] (by decide) rfl (Nat.le_of_ble_eq_true rfl) (fun z C E => ?_)
  refine g_iload_n C 1 rfl rfl dX5_finished_0 ?_
  refine g_bipush C (v := (-2)) (by decide) dX5_finished_1 ?_
  refine g_icmp_gt C (tgt := 12) (by decide) dX5_finished_3 (fun h3 => ?_) (fun h3 => absurd ha h3)
  refine g_aload_n C 0 rfl rfl dX5_finished_12 ?_
  refine g_callV0 [] C (c_X5_remembers w tu sg  st hst (by omega)) mt_X5_remembers e_44 rfl ml_X5_48 im_X5_remembers se_X5_remembers (by decide) rfl (Nat.le_of_ble_eq_true rfl) dX5_finished_13 ?_
  refine g_eq (sg' := (us (us sg 47 (pastP (sg 47) (sg 46) st)) 44 (upd (sg 44) 3 (nI (stP st))))) (L' := [(0, .ref (ad w 44)), (1, .int a)]) (S' := []) rfl rfl rfl rfl ?_
  refine g_iload_n C 1 rfl rfl dX5_finished_16 ?_
  exact g_iret C E dX5_finished_17 rfl Sq.rf rfl
set_option maxRecDepth 100000 in
set_option maxHeartbeats 400000 in
theorem c_X5_back_no (w : GW) (tu : Int64) (sg : Sg) (hst : sg 44 3 = nI 0) : Kt w yX5_back cX5_back 2 (some .int) 1 [.ref (ad w 44)] sg tu (some (.int (-3))) (us sg 48 (upd (sg 48) 1 ((sg 48 1) + nI 1))) tu := by
  refine Kt.of2 RX5 rfl [(0, .ref (ad w 44))] (by decide) rfl (Nat.le_of_ble_eq_true rfl) (fun z C E => ?_)
  refine g_aload_n C 0 rfl rfl dX5_back_0 ?_
  refine g_getI C (j := 3) cls5 e_44 rfl (by decide) fl_X5_40 dX5_back_1 ?_
  refine g_top (y := (nI 0)) hst ?_
  refine g_if_ne C (tgt := 14) (by decide) dX5_back_4 (fun h4 => absurd h4 (by decide)) (fun h4 => ?_)
  refine g_aload_n C 0 rfl rfl dX5_back_7 ?_
  refine g_bipush C (v := (-3)) (by decide) dX5_back_8 ?_
  refine g_callV1 [] C (c_X5_refuses_no w tu sg  ) mt_X5_refuses e_44 rfl ml_X5_44 im_X5_refuses se_X5_refuses (by decide) rfl (Nat.le_of_ble_eq_true rfl) dX5_back_10 ?_
  refine g_eq (sg' := (us sg 48 (upd (sg 48) 1 ((sg 48 1) + nI 1)))) (L' := [(0, .ref (ad w 44))]) (S' := [.int (-3)]) rfl rfl rfl rfl ?_
  exact g_iret C E dX5_back_13 rfl Sq.rf rfl
set_option maxRecDepth 100000 in
set_option maxHeartbeats 400000 in
theorem c_X5_back_ok (w : GW) (tu : Int64) (sg : Sg) (st : Nat) (hst : sg 44 3 = nI (st + 1)) (hs5 : st < 5) : Kt w yX5_back cX5_back 2 (some .int) 0 [.ref (ad w 44)] sg tu (some (.int (nI st))) (us (us sg 44 (upd (sg 44) 3 (nI st))) 45 (fun k => (sg 47) (35 * st + k))) tu := by
  refine Kt.of2 RX5 rfl [(0, .ref (ad w 44))] (by decide) rfl (Nat.le_of_ble_eq_true rfl) (fun z C E => ?_)
  refine g_aload_n C 0 rfl rfl dX5_back_0 ?_
  refine g_getI C (j := 3) cls5 e_44 rfl (by decide) fl_X5_40 dX5_back_1 ?_
  refine g_top (y := (nI (st + 1))) hst ?_
  refine g_ifN_ne C (st + 1) (by omega) (tgt := 14) (by decide) dX5_back_4 (fun h4 => ?_) (fun h4 => absurd h4 (by omega))
  refine g_aload_n C 0 rfl rfl dX5_back_14 ?_
  refine g_dup C rfl dX5_back_15 ?_
  refine g_getI C (j := 3) cls5 e_44 rfl (by decide) fl_X5_40 dX5_back_16 ?_
  refine g_top (y := (nI (st + 1))) hst ?_
  refine g_iconst C (v := (nI 1)) (by decide) dX5_back_19 ?_
  refine g_isub C dX5_back_20 ?_
  refine g_top (y := (nI st)) (by rw [nI_succ]; exact Int32.add_sub_cancel _ _) ?_
  refine g_putI C (j := 3) cls5 e_44 rfl (by decide) rfl rfl fl_X5_40 dX5_back_21 ?_
  refine g_sgE (sg' := (us sg 44 (upd (sg 44) 3 (nI st)))) rfl ?_
  refine g_iconst C (v := (nI 0)) (by decide) dX5_back_24 ?_
  refine g_istore_n C (L' := [(1, .int (nI 0)), (0, .ref (ad w 44))]) rfl (by decide) rfl dX5_back_25 ?_
  have lp : ∀ (nf i : Nat), 35 < i + nf → i ≤ 35 → (True) → G z w 2 (us (us sg 44 (upd (sg 44) 3 (nI st))) 45 (fw 0 (fun k => sg 47 (35 * st + k)) (sg 45) i)) tu 26 [(1, .int (nI i)), (0, .ref (ad w 44))] [] := by
    intro nf
    induction nf with
    | zero => intro i  h1 h2 hI; exact absurd h1 (by omega)
    | succ nf ihlp =>
      intro i  h1 h2 hI
      refine g_iload_n C 0 rfl rfl dX5_back_26 ?_
      refine g_bipush C (v := (nI 35)) (by decide) dX5_back_27 ?_
      refine g_icmpN_ge C i 35 (by omega) (by omega) (tgt := 58) (by decide) dX5_back_29 (fun h29 => ?_) (fun h29 => ?_)
      ·
        have hiN : 35 = i := by omega
        subst hiN
        refine g_aload_n C 1 rfl rfl dX5_back_58 ?_
        refine g_getI C (j := 3) cls5 e_44 rfl (by decide) fl_X5_40 dX5_back_59 ?_
        refine g_top (y := (nI st)) rfl ?_
        exact g_iret C E dX5_back_62 rfl (Sq.us fun j hj => fw_in ⟨Nat.zero_le _, by rw [Nat.zero_add]; exact hj⟩) rfl
      ·
        refine g_aload_n C 1 rfl rfl dX5_back_32 ?_
        refine g_getR C (j := 0) cls5 e_44 rfl (by decide) fl_X5_7 dX5_back_33 ?_
        refine g_iload_n C 0 rfl rfl dX5_back_36 ?_
        refine g_aload_n C 1 rfl rfl dX5_back_37 ?_
        refine g_getR C (j := 2) cls5 e_44 rfl (by decide) fl_X5_16 dX5_back_38 ?_
        refine g_bipush C (v := (nI 35)) (by decide) dX5_back_41 ?_
        refine g_aload_n C 1 rfl rfl dX5_back_43 ?_
        refine g_getI C (j := 3) cls5 e_44 rfl (by decide) fl_X5_40 dX5_back_44 ?_
        refine g_top (y := (nI st)) rfl ?_
        refine g_imul C dX5_back_47 ?_
        refine g_top (y := (nI (35 * st))) (pk_mul 35 st) ?_
        refine g_iload_n C 0 rfl rfl dX5_back_48 ?_
        refine g_iadd C dX5_back_49 ?_
        refine g_top (y := (nI ((35 * st) + i))) (nI_add (35 * st) i) ?_
        refine g_ialdN C ((35 * st) + i) e_47 (by omega) (by decide) dX5_back_50 ?_
        refine g_top (y := (sg 47 ((35 * st) + i))) rfl ?_
        refine g_iastN C i e_45 (by omega) (by decide) dX5_back_51 ?_
        refine g_sgE (sg' := (us (us sg 44 (upd (sg 44) 3 (nI st))) 45 (upd (fw 0 (fun k => sg 47 (35 * st + k)) (sg 45) i) i (sg 47 ((35 * st) + i))))) us_us ?_
        refine g_iinc C (n := 1) (v := (nI (i + 1))) (L' := [(1, .int (nI (i + 1))), (0, .ref (ad w 44))]) 0 rfl (nI_add i 1) (by decide) rfl dX5_back_52 ?_
        refine g_goto C (tgt := 26) (by decide) dX5_back_55 ?_
        refine g_sub (L' := [(1, .int (nI (i + 1))), (0, .ref (ad w 44))]) [0, 1] rfl ?_
        refine g_sgE (sg' := (us (us sg 44 (upd (sg 44) 3 (nI st))) 45 (fw 0 (fun k => sg 47 (35 * st + k)) (sg 45) (i + 1)))) (congrArg (us _ 45) (fw_s0 rfl)) ?_
        exact ihlp (i + 1)  (by omega) (by omega) trivial
  refine g_sgE (sg' := (us (us sg 44 (upd (sg 44) 3 (nI st))) 45 (fw 0 (fun k => sg 47 (35 * st + k)) (sg 45) 0))) (by rw [fw_0]; exact (us_id (sg := us _ 44 _)).symm) ?_
  exact lp (35 + 1) 0  (by omega) (by omega) trivial
set_option maxRecDepth 100000 in
set_option maxHeartbeats 400000 in
theorem c_X5_whole (w : GW) (tu : Int64) (sg : Sg) (g : Nat) (wn : Int32) (hg : g ≤ 9) : Kt w yX5_whole cX5_whole 4 (some .int) 0 [.int (nI g), .int wn] sg tu (some (.int (whX wn (g + 1)))) sg tu := by
  refine Kt.of2 RX5 rfl [(0, .int (nI g)), (1, .int wn)] (by decide) rfl (Nat.le_of_ble_eq_true rfl) (fun z C E => ?_)
  refine g_iconst C (v := (nI 0)) (by decide) dX5_whole_0 ?_
  refine g_istore_n C (L' := [(2, .int (nI 0)), (0, .int (nI g)), (1, .int wn)]) rfl (by decide) rfl dX5_whole_1 ?_
  refine g_iconst C (v := (nI 1)) (by decide) dX5_whole_2 ?_
  refine g_istore_n C (L' := [(3, .int (nI 1)), (2, .int (nI 0)), (0, .int (nI g)), (1, .int wn)]) rfl (by decide) rfl dX5_whole_3 ?_
  have lp : ∀ (nf i : Nat) (m : Int32), (g + 1) < i + nf → i ≤ (g + 1) → (1 ≤ i ∧ m = whX wn i) → G z w 4 sg tu 4 [(3, .int (nI i)), (2, .int m), (0, .int (nI g)), (1, .int wn)] [] := by
    intro nf
    induction nf with
    | zero => intro i m h1 h2 hI; exact absurd h1 (by omega)
    | succ nf ihlp =>
      intro i m h1 h2 hI
      refine g_iload_n C 0 rfl rfl dX5_whole_4 ?_
      refine g_iload_n C 2 rfl rfl dX5_whole_5 ?_
      refine g_icmpN_gt C i g (by omega) (by omega) (tgt := 25) (by decide) dX5_whole_6 (fun h6 => ?_) (fun h6 => ?_)
      ·
        have hiN : (g + 1) = i := by omega
        subst hiN
        refine g_iload_n C 1 rfl rfl dX5_whole_25 ?_
        exact g_iret C E dX5_whole_26 hI.2 Sq.rf rfl
      ·
        refine g_iload_n C 1 rfl rfl dX5_whole_9 ?_
        refine g_iload_n C 3 rfl rfl dX5_whole_10 ?_
        refine g_iload_n C 0 rfl rfl dX5_whole_11 ?_
        refine g_ishr C dX5_whole_12 ?_
        refine g_iconst C (v := (nI 1)) (by decide) dX5_whole_13 ?_
        refine g_iand C dX5_whole_14 ?_
        refine g_iconst C (v := (nI 1)) (by decide) dX5_whole_15 ?_
        refine g_ixor C dX5_whole_16 ?_
        refine g_iadd C dX5_whole_17 ?_
        refine g_istore_n C (L' := [(2, .int (m + (((wn >>> ((nI i) &&& 31)) &&& (nI 1)) ^^^ (nI 1)))), (3, .int (nI i)), (0, .int (nI g)), (1, .int wn)]) rfl (by decide) rfl dX5_whole_18 ?_
        refine g_iinc C (n := 1) (v := (nI (i + 1))) (L' := [(3, .int (nI (i + 1))), (2, .int (m + (((wn >>> ((nI i) &&& 31)) &&& (nI 1)) ^^^ (nI 1)))), (0, .int (nI g)), (1, .int wn)]) 1 rfl (nI_add i 1) (by decide) rfl dX5_whole_19 ?_
        refine g_goto C (tgt := 4) (by decide) dX5_whole_22 ?_
        refine g_sub (L' := [(3, .int (nI (i + 1))), (2, .int (m + (((wn >>> ((nI i) &&& 31)) &&& (nI 1)) ^^^ (nI 1)))), (0, .int (nI g)), (1, .int wn)]) [0, 1, 2, 3] rfl ?_
        exact ihlp (i + 1) (m + (((wn >>> ((nI i) &&& 31)) &&& (nI 1)) ^^^ (nI 1))) (by omega) (by omega) (⟨by omega, by rw [whX_s hI.1, hI.2]⟩)
  exact lp ((g + 1) + 1) 1 (nI 0) (by omega) (by omega) (⟨Nat.le_refl _, rfl⟩)
set_option maxRecDepth 100000 in
set_option maxHeartbeats 400000 in
theorem c_X5_wornMany (w : GW) (tu : Int64) (sg : Sg) (wn : Int32) : Kt w yX5_wornMany cX5_wornMany 3 (some .int) 0 [.int wn] sg tu (some (.int (wmX wn 10))) sg tu := by
  refine Kt.of2 RX5 rfl [(0, .int wn)] (by decide) rfl (Nat.le_of_ble_eq_true rfl) (fun z C E => ?_)
  refine g_iconst C (v := (nI 0)) (by decide) dX5_wornMany_0 ?_
  refine g_istore_n C (L' := [(1, .int (nI 0)), (0, .int wn)]) rfl (by decide) rfl dX5_wornMany_1 ?_
  refine g_iconst C (v := (nI 1)) (by decide) dX5_wornMany_2 ?_
  refine g_istore_n C (L' := [(2, .int (nI 1)), (1, .int (nI 0)), (0, .int wn)]) rfl (by decide) rfl dX5_wornMany_3 ?_
  have lp : ∀ (nf i : Nat) (m : Int32), 10 < i + nf → i ≤ 10 → (1 ≤ i ∧ m = wmX wn i) → G z w 3 sg tu 4 [(2, .int (nI i)), (1, .int m), (0, .int wn)] [] := by
    intro nf
    induction nf with
    | zero => intro i m h1 h2 hI; exact absurd h1 (by omega)
    | succ nf ihlp =>
      intro i m h1 h2 hI
      refine g_iload_n C 0 rfl rfl dX5_wornMany_4 ?_
      refine g_bipush C (v := (nI 10)) (by decide) dX5_wornMany_5 ?_
      refine g_icmpN_ge C i 10 (by omega) (by omega) (tgt := 24) (by decide) dX5_wornMany_7 (fun h7 => ?_) (fun h7 => ?_)
      ·
        have hiN : 10 = i := by omega
        subst hiN
        refine g_iload_n C 1 rfl rfl dX5_wornMany_24 ?_
        exact g_iret C E dX5_wornMany_25 hI.2 Sq.rf rfl
      ·
        refine g_iload_n C 1 rfl rfl dX5_wornMany_10 ?_
        refine g_iload_n C 2 rfl rfl dX5_wornMany_11 ?_
        refine g_iload_n C 0 rfl rfl dX5_wornMany_12 ?_
        refine g_ishr C dX5_wornMany_13 ?_
        refine g_iconst C (v := (nI 1)) (by decide) dX5_wornMany_14 ?_
        refine g_iand C dX5_wornMany_15 ?_
        refine g_iadd C dX5_wornMany_16 ?_
        refine g_istore_n C (L' := [(1, .int (m + ((wn >>> ((nI i) &&& 31)) &&& (nI 1)))), (2, .int (nI i)), (0, .int wn)]) rfl (by decide) rfl dX5_wornMany_17 ?_
        refine g_iinc C (n := 1) (v := (nI (i + 1))) (L' := [(2, .int (nI (i + 1))), (1, .int (m + ((wn >>> ((nI i) &&& 31)) &&& (nI 1)))), (0, .int wn)]) 1 rfl (nI_add i 1) (by decide) rfl dX5_wornMany_18 ?_
        refine g_goto C (tgt := 4) (by decide) dX5_wornMany_21 ?_
        refine g_sub (L' := [(2, .int (nI (i + 1))), (1, .int (m + ((wn >>> ((nI i) &&& 31)) &&& (nI 1)))), (0, .int wn)]) [0, 1, 2] rfl ?_
        exact ihlp (i + 1) (m + ((wn >>> ((nI i) &&& 31)) &&& (nI 1))) (by omega) (by omega) (⟨by omega, by rw [wmX_s hI.1, hI.2]⟩)
  exact lp (10 + 1) 1 (nI 0) (by omega) (by omega) (⟨Nat.le_refl _, rfl⟩)
set_option maxRecDepth 100000 in
set_option maxHeartbeats 400000 in
theorem c_X5_laysGives (w : GW) (tu : Int64) (sg : Sg) (dg : Nat → Nat) (hdg : ∀ d, d < 6 → sg 45 d = nI (dg d) ∧ dg d ≤ 9) : Kt w yX5_laysGives cX5_laysGives 2 none 1 [.ref (ad w 44)] sg tu (none) (us sg 50 (fun d => whX ((sg 45) (6 + d)) (dg d + 1))) tu := by
  refine Kt.of2 RX5 rfl [(0, .ref (ad w 44))] (by decide) rfl (Nat.le_of_ble_eq_true rfl) (fun z C E => ?_)
  refine g_iconst C (v := (nI 0)) (by decide) dX5_laysGives_0 ?_
  refine g_istore_n C (L' := [(1, .int (nI 0)), (0, .ref (ad w 44))]) rfl (by decide) rfl dX5_laysGives_1 ?_
  have lp : ∀ (nf i : Nat), 6 < i + nf → i ≤ 6 → (True) → G z w 2 (us sg 50 (fw 0 (fun d => whX ((sg 45) (6 + d)) (dg d + 1)) (sg 50) i)) tu 2 [(1, .int (nI i)), (0, .ref (ad w 44))] [] := by
    intro nf
    induction nf with
    | zero => intro i  h1 h2 hI; exact absurd h1 (by omega)
    | succ nf ihlp =>
      intro i  h1 h2 hI
      refine g_iload_n C 0 rfl rfl dX5_laysGives_2 ?_
      refine g_bipush C (v := (nI 6)) (by decide) dX5_laysGives_3 ?_
      refine g_icmpN_ge C i 6 (by omega) (by omega) (tgt := 40) (by decide) dX5_laysGives_5 (fun h5 => ?_) (fun h5 => ?_)
      ·
        have hiN : 6 = i := by omega
        subst hiN
        exact g_vret C E dX5_laysGives_40 (Sq.us fun j hj => fw_in ⟨Nat.zero_le _, by rw [Nat.zero_add]; exact hj⟩) rfl
      ·
        refine g_aload_n C 1 rfl rfl dX5_laysGives_8 ?_
        refine g_getR C (j := 7) cls5 e_44 rfl (by decide) fl_X5_25 dX5_laysGives_9 ?_
        refine g_iload_n C 0 rfl rfl dX5_laysGives_12 ?_
        refine g_aload_n C 1 rfl rfl dX5_laysGives_13 ?_
        refine g_getR C (j := 0) cls5 e_44 rfl (by decide) fl_X5_7 dX5_laysGives_14 ?_
        refine g_iconst C (v := (nI 0)) (by decide) dX5_laysGives_17 ?_
        refine g_iload_n C 0 rfl rfl dX5_laysGives_18 ?_
        refine g_iadd C dX5_laysGives_19 ?_
        refine g_top (y := (nI i)) (by rw [nI_add, Nat.zero_add]) ?_
        refine g_ialdN C i e_45 (by omega) (by decide) dX5_laysGives_20 ?_
        refine g_top (y := (sg 45 i)) rfl ?_
        refine g_top (y := (nI (dg i))) (hdg i (by omega)).1 ?_
        refine g_aload_n C 1 rfl rfl dX5_laysGives_21 ?_
        refine g_getR C (j := 0) cls5 e_44 rfl (by decide) fl_X5_7 dX5_laysGives_22 ?_
        refine g_bipush C (v := (nI 6)) (by decide) dX5_laysGives_25 ?_
        refine g_iload_n C 0 rfl rfl dX5_laysGives_27 ?_
        refine g_iadd C dX5_laysGives_28 ?_
        refine g_top (y := (nI (6 + i))) (nI_add 6 i) ?_
        refine g_ialdN C (6 + i) e_45 (by omega) (by decide) dX5_laysGives_29 ?_
        refine g_top (y := (sg 45 (6 + i))) rfl ?_
        refine g_callS1 [.int (nI i), .ref (ad w 50)] C (c_X5_whole w tu (us sg 50 (fw 0 (fun d => whX ((sg 45) (6 + d)) (dg d + 1)) (sg 50) i)) (dg i) (sg 45 (6 + i)) (hdg i (by omega)).2) mt_X5_whole ml_X5_57 st_X5_whole (by decide) rfl (Nat.le_of_ble_eq_true rfl) dX5_laysGives_30 ?_
        refine g_eq (L' := [(1, .int (nI i)), (0, .ref (ad w 44))]) (S' := [.int (whX (sg 45 (6 + i)) ((dg i) + 1)), .int (nI i), .ref (ad w 50)]) rfl rfl rfl rfl ?_
        refine g_iastN C i e_50 (by omega) (by decide) dX5_laysGives_33 ?_
        refine g_sgE (sg' := (us sg 50 (upd (fw 0 (fun d => whX ((sg 45) (6 + d)) (dg d + 1)) (sg 50) i) i (whX (sg 45 (6 + i)) ((dg i) + 1))))) us_us ?_
        refine g_iinc C (n := 1) (v := (nI (i + 1))) (L' := [(1, .int (nI (i + 1))), (0, .ref (ad w 44))]) 0 rfl (nI_add i 1) (by decide) rfl dX5_laysGives_34 ?_
        refine g_goto C (tgt := 2) (by decide) dX5_laysGives_37 ?_
        refine g_sub (L' := [(1, .int (nI (i + 1))), (0, .ref (ad w 44))]) [0, 1] rfl ?_
        refine g_sgE (sg' := (us sg 50 (fw 0 (fun d => whX ((sg 45) (6 + d)) (dg d + 1)) (sg 50) (i + 1)))) (congrArg (us sg 50) (fw_s0 rfl)) ?_
        exact ihlp (i + 1)  (by omega) (by omega) trivial
  refine g_sgE (sg' := (us sg 50 (fw 0 (fun d => whX ((sg 45) (6 + d)) (dg d + 1)) (sg 50) 0))) (by rw [fw_0, us_id]) ?_
  exact lp (6 + 1) 0  (by omega) (by omega) trivial
set_option maxRecDepth 100000 in
set_option maxHeartbeats 400000 in
theorem c_X5_clearsCounters (w : GW) (tu : Int64) (sg : Sg) : Kt w yX5_clearsCounters cX5_clearsCounters 2 none 0 [.ref (ad w 44)] sg tu (none) (us sg 45 (fw 24 (fun _ => nI 0) (sg 45) 7)) tu := by
  refine Kt.of2 RX5 rfl [(0, .ref (ad w 44))] (by decide) rfl (Nat.le_of_ble_eq_true rfl) (fun z C E => ?_)
  refine g_iconst C (v := (nI 0)) (by decide) dX5_clearsCounters_0 ?_
  refine g_istore_n C (L' := [(1, .int (nI 0)), (0, .ref (ad w 44))]) rfl (by decide) rfl dX5_clearsCounters_1 ?_
  have lp : ∀ (nf i : Nat), 7 < i + nf → i ≤ 7 → (True) → G z w 2 (us sg 45 (fw 24 (fun _ => nI 0) (sg 45) i)) tu 2 [(1, .int (nI i)), (0, .ref (ad w 44))] [] := by
    intro nf
    induction nf with
    | zero => intro i  h1 h2 hI; exact absurd h1 (by omega)
    | succ nf ihlp =>
      intro i  h1 h2 hI
      refine g_iload_n C 0 rfl rfl dX5_clearsCounters_2 ?_
      refine g_bipush C (v := (nI 7)) (by decide) dX5_clearsCounters_3 ?_
      refine g_icmpN_ge C i 7 (by omega) (by omega) (tgt := 24) (by decide) dX5_clearsCounters_5 (fun h5 => ?_) (fun h5 => ?_)
      ·
        have hiN : 7 = i := by omega
        subst hiN
        exact g_vret C E dX5_clearsCounters_24 Sq.rf rfl
      ·
        refine g_aload_n C 1 rfl rfl dX5_clearsCounters_8 ?_
        refine g_getR C (j := 0) cls5 e_44 rfl (by decide) fl_X5_7 dX5_clearsCounters_9 ?_
        refine g_bipush C (v := (nI 24)) (by decide) dX5_clearsCounters_12 ?_
        refine g_iload_n C 0 rfl rfl dX5_clearsCounters_14 ?_
        refine g_iadd C dX5_clearsCounters_15 ?_
        refine g_top (y := (nI (24 + i))) (nI_add 24 i) ?_
        refine g_iconst C (v := (nI 0)) (by decide) dX5_clearsCounters_16 ?_
        refine g_iastN C (24 + i) e_45 (by omega) (by decide) dX5_clearsCounters_17 ?_
        refine g_sgE (sg' := (us sg 45 (upd (fw 24 (fun _ => nI 0) (sg 45) i) (24 + i) (nI 0)))) us_us ?_
        refine g_iinc C (n := 1) (v := (nI (i + 1))) (L' := [(1, .int (nI (i + 1))), (0, .ref (ad w 44))]) 0 rfl (nI_add i 1) (by decide) rfl dX5_clearsCounters_18 ?_
        refine g_goto C (tgt := 2) (by decide) dX5_clearsCounters_21 ?_
        refine g_sub (L' := [(1, .int (nI (i + 1))), (0, .ref (ad w 44))]) [0, 1] rfl ?_
        refine g_sgE (sg' := (us sg 45 (fw 24 (fun _ => nI 0) (sg 45) (i + 1)))) (congrArg (us sg 45) (fw_s rfl)) ?_
        exact ihlp (i + 1)  (by omega) (by omega) trivial
  refine g_sgE (sg' := (us sg 45 (fw 24 (fun _ => nI 0) (sg 45) 0))) (by rw [fw_0, us_id]) ?_
  exact lp (7 + 1) 0  (by omega) (by omega) trivial
set_option maxRecDepth 100000 in
set_option maxHeartbeats 400000 in
theorem c_X5_clearsAll (w : GW) (tu : Int64) (sg : Sg) : Kt w yX5_clearsAll cX5_clearsAll 3 (some .int) 1 [.ref (ad w 44)] sg tu (some (.int (czX (sg 45) (fun _ => nI 0) 12 12))) (us sg 45 (fw 24 (fun _ => nI 0) (fw 12 (fun _ => nI 0) (sg 45) 12) 7)) tu := by
  refine Kt.of2 RX5 rfl [(0, .ref (ad w 44))] (by decide) rfl (Nat.le_of_ble_eq_true rfl) (fun z C E => ?_)
  refine g_iconst C (v := (nI 0)) (by decide) dX5_clearsAll_0 ?_
  refine g_istore_n C (L' := [(1, .int (nI 0)), (0, .ref (ad w 44))]) rfl (by decide) rfl dX5_clearsAll_1 ?_
  refine g_iconst C (v := (nI 0)) (by decide) dX5_clearsAll_2 ?_
  refine g_istore_n C (L' := [(2, .int (nI 0)), (1, .int (nI 0)), (0, .ref (ad w 44))]) rfl (by decide) rfl dX5_clearsAll_3 ?_
  have lp : ∀ (nf i : Nat) (m : Int32), 12 < i + nf → i ≤ 12 → (m = czX (sg 45) (fun _ => nI 0) 12 i) → G z w 3 (us sg 45 (fw 12 (fun _ => nI 0) (sg 45) i)) tu 4 [(2, .int (nI i)), (1, .int m), (0, .ref (ad w 44))] [] := by
    intro nf
    induction nf with
    | zero => intro i m h1 h2 hI; exact absurd h1 (by omega)
    | succ nf ihlp =>
      intro i m h1 h2 hI
      refine g_iload_n C 0 rfl rfl dX5_clearsAll_4 ?_
      refine g_bipush C (v := (nI 12)) (by decide) dX5_clearsAll_5 ?_
      refine g_icmpN_ge C i 12 (by omega) (by omega) (tgt := 46) (by decide) dX5_clearsAll_7 (fun h7 => ?_) (fun h7 => ?_)
      ·
        have hiN : 12 = i := by omega
        subst hiN
        refine g_aload_n C 2 rfl rfl dX5_clearsAll_46 ?_
        refine g_callV0 [] C (c_X5_clearsCounters w tu (us sg 45 (fw 12 (fun _ => nI 0) (sg 45) 12))  ) mt_X5_clearsCounters e_44 rfl ml_X5_74 im_X5_clearsCounters se_X5_clearsCounters (by decide) rfl (Nat.le_of_ble_eq_true rfl) dX5_clearsAll_47 ?_
        refine g_eq (sg' := (us (us sg 45 (fw 12 (fun _ => nI 0) (sg 45) 12)) 45 (fw 24 (fun _ => nI 0) (fw 12 (fun _ => nI 0) (sg 45) 12) 7))) (L' := [(2, .int (nI 12)), (1, .int m), (0, .ref (ad w 44))]) (S' := []) rfl rfl rfl rfl ?_
        refine g_sgE (sg' := (us sg 45 (fw 24 (fun _ => nI 0) (fw 12 (fun _ => nI 0) (sg 45) 12) 7))) us_us ?_
        refine g_iload_n C 1 rfl rfl dX5_clearsAll_50 ?_
        exact g_iret C E dX5_clearsAll_51 hI Sq.rf rfl
      ·
        refine g_iload_n C 1 rfl rfl dX5_clearsAll_10 ?_
        refine g_aload_n C 2 rfl rfl dX5_clearsAll_11 ?_
        refine g_getR C (j := 0) cls5 e_44 rfl (by decide) fl_X5_7 dX5_clearsAll_12 ?_
        refine g_bipush C (v := (nI 12)) (by decide) dX5_clearsAll_15 ?_
        refine g_iload_n C 0 rfl rfl dX5_clearsAll_17 ?_
        refine g_iadd C dX5_clearsAll_18 ?_
        refine g_top (y := (nI (12 + i))) (nI_add 12 i) ?_
        refine g_ialdN C (12 + i) e_45 (by omega) (by decide) dX5_clearsAll_19 ?_
        refine g_top (y := ((fw 12 (fun _ => nI 0) (sg 45) i) (12 + i))) rfl ?_
        refine g_top (y := (sg 45 (12 + i))) (fw_out (by omega)) ?_
        refine g_if_eq C (tgt := 27) (by decide) dX5_clearsAll_20 (fun h20 => ?_) (fun h20 => ?_)
        ·
          refine g_iconst C (v := (nI 0)) (by decide) dX5_clearsAll_27 ?_
          refine g_iadd C dX5_clearsAll_28 ?_
          refine g_istore_n C (L' := [(1, .int (m + (nI 0))), (2, .int (nI i)), (0, .ref (ad w 44))]) rfl (by decide) rfl dX5_clearsAll_29 ?_
          refine g_aload_n C 2 rfl rfl dX5_clearsAll_30 ?_
          refine g_getR C (j := 0) cls5 e_44 rfl (by decide) fl_X5_7 dX5_clearsAll_31 ?_
          refine g_bipush C (v := (nI 12)) (by decide) dX5_clearsAll_34 ?_
          refine g_iload_n C 1 rfl rfl dX5_clearsAll_36 ?_
          refine g_iadd C dX5_clearsAll_37 ?_
          refine g_top (y := (nI (12 + i))) (nI_add 12 i) ?_
          refine g_iconst C (v := (nI 0)) (by decide) dX5_clearsAll_38 ?_
          refine g_iastN C (12 + i) e_45 (by omega) (by decide) dX5_clearsAll_39 ?_
          refine g_sgE (sg' := (us sg 45 (upd (fw 12 (fun _ => nI 0) (sg 45) i) (12 + i) (nI 0)))) us_us ?_
          refine g_iinc C (n := 1) (v := (nI (i + 1))) (L' := [(2, .int (nI (i + 1))), (1, .int (m + (nI 0))), (0, .ref (ad w 44))]) 1 rfl (nI_add i 1) (by decide) rfl dX5_clearsAll_40 ?_
          refine g_goto C (tgt := 4) (by decide) dX5_clearsAll_43 ?_
          refine g_sub (L' := [(2, .int (nI (i + 1))), (1, .int (m + (nI 0))), (0, .ref (ad w 44))]) [0, 1, 2] rfl ?_
          refine g_sgE (sg' := (us sg 45 (fw 12 (fun _ => nI 0) (sg 45) (i + 1)))) (congrArg (us sg 45) (fw_s rfl)) ?_
          exact ihlp (i + 1) (m + (nI 0)) (by omega) (by omega) (by rw [hI, czX_t (by first | exact h20 | exact fun q => h20 q)])
        ·
          refine g_iconst C (v := (nI 1)) (by decide) dX5_clearsAll_23 ?_
          refine g_goto C (tgt := 28) (by decide) dX5_clearsAll_24 ?_
          refine g_iadd C dX5_clearsAll_28 ?_
          refine g_istore_n C (L' := [(1, .int (m + (nI 1))), (2, .int (nI i)), (0, .ref (ad w 44))]) rfl (by decide) rfl dX5_clearsAll_29 ?_
          refine g_aload_n C 2 rfl rfl dX5_clearsAll_30 ?_
          refine g_getR C (j := 0) cls5 e_44 rfl (by decide) fl_X5_7 dX5_clearsAll_31 ?_
          refine g_bipush C (v := (nI 12)) (by decide) dX5_clearsAll_34 ?_
          refine g_iload_n C 1 rfl rfl dX5_clearsAll_36 ?_
          refine g_iadd C dX5_clearsAll_37 ?_
          refine g_top (y := (nI (12 + i))) (nI_add 12 i) ?_
          refine g_iconst C (v := (nI 0)) (by decide) dX5_clearsAll_38 ?_
          refine g_iastN C (12 + i) e_45 (by omega) (by decide) dX5_clearsAll_39 ?_
          refine g_sgE (sg' := (us sg 45 (upd (fw 12 (fun _ => nI 0) (sg 45) i) (12 + i) (nI 0)))) us_us ?_
          refine g_iinc C (n := 1) (v := (nI (i + 1))) (L' := [(2, .int (nI (i + 1))), (1, .int (m + (nI 1))), (0, .ref (ad w 44))]) 1 rfl (nI_add i 1) (by decide) rfl dX5_clearsAll_40 ?_
          refine g_goto C (tgt := 4) (by decide) dX5_clearsAll_43 ?_
          refine g_sub (L' := [(2, .int (nI (i + 1))), (1, .int (m + (nI 1))), (0, .ref (ad w 44))]) [0, 1, 2] rfl ?_
          refine g_sgE (sg' := (us sg 45 (fw 12 (fun _ => nI 0) (sg 45) (i + 1)))) (congrArg (us sg 45) (fw_s rfl)) ?_
          exact ihlp (i + 1) (m + (nI 1)) (by omega) (by omega) (by rw [hI, czX_f (by first | exact h20 | exact fun q => h20 q)])
  refine g_sgE (sg' := (us sg 45 (fw 12 (fun _ => nI 0) (sg 45) 0))) (by rw [fw_0, us_id]) ?_
  exact lp (12 + 1) 0 (nI 0) (by omega) (by omega) rfl
set_option maxRecDepth 100000 in
set_option maxHeartbeats 400000 in
theorem c_X5_putDigit_ok (w : GW) (tu : Int64) (sg : Sg) (j : Nat) (n : Nat) (hj : j < 6) (hn : n ≤ 9) : Kt w yX5_putDigit cX5_putDigit 3 (some .int) 2 [.ref (ad w 44), .int (nI j), .int (nI n)] sg tu (some (.int (sg 45 j))) (us sg 45 (upd (sg 45) j (nI n))) tu := by
  refine Kt.of2 RX5 rfl [(0, .ref (ad w 44)), (1, .int (nI j)), (2, .int (nI n))] (by decide) rfl (Nat.le_of_ble_eq_true rfl) (fun z C E => ?_)
  refine g_iload_n C 1 rfl rfl dX5_putDigit_0 ?_
  refine g_callS1 [] C (c_X5_isDrum_t w tu sg j (by omega)) mt_X5_isDrum ml_X5_90 st_X5_isDrum (by decide) rfl (Nat.le_of_ble_eq_true rfl) dX5_putDigit_1 ?_
  refine g_eq (L' := [(0, .ref (ad w 44)), (1, .int (nI j)), (2, .int (nI n))]) (S' := [.int (nI 1)]) rfl rfl rfl rfl ?_
  refine g_if_eq C (tgt := 30) (by decide) dX5_putDigit_4 (fun h4 => absurd h4 (by decide)) (fun h4 => ?_)
  refine g_iload_n C 2 rfl rfl dX5_putDigit_7 ?_
  refine g_i2l C dX5_putDigit_8 ?_
  refine g_lconst C (v := 0) (by decide) dX5_putDigit_9 ?_
  refine g_ldc2 C cn_X5_94 dX5_putDigit_10 ?_
  refine g_callS1 [] C (c_X5_in_t w tu sg (Int32.toInt64 (nI n)) 0 9 (in_ok (n := 9) (by omega) (by decide))) mt_X5_in ml_X5_53 st_X5_in (by decide) rfl (Nat.le_of_ble_eq_true rfl) dX5_putDigit_13 ?_
  refine g_eq (L' := [(0, .ref (ad w 44)), (1, .int (nI j)), (2, .int (nI n))]) (S' := [.int (nI 1)]) rfl rfl rfl rfl ?_
  refine g_if_eq C (tgt := 30) (by decide) dX5_putDigit_16 (fun h16 => absurd h16 (by decide)) (fun h16 => ?_)
  refine g_aload_n C 0 rfl rfl dX5_putDigit_19 ?_
  refine g_iconst C (v := (nI 0)) (by decide) dX5_putDigit_20 ?_
  refine g_iload_n C 1 rfl rfl dX5_putDigit_21 ?_
  refine g_iadd C dX5_putDigit_22 ?_
  refine g_top (y := (nI j)) (by rw [nI_add, Nat.zero_add]) ?_
  refine g_iload_n C 2 rfl rfl dX5_putDigit_23 ?_
  refine g_callV1 [] C (c_X5_change w tu sg j (nI n) (by omega)) mt_X5_change e_44 rfl ml_X5_96 im_X5_change se_X5_change (by decide) rfl (Nat.le_of_ble_eq_true rfl) dX5_putDigit_24 ?_
  refine g_eq (sg' := (us sg 45 (upd (sg 45) j (nI n)))) (L' := [(0, .ref (ad w 44)), (1, .int (nI j)), (2, .int (nI n))]) (S' := [.int (sg 45 j)]) rfl rfl rfl rfl ?_
  refine g_goto C (tgt := 32) (by decide) dX5_putDigit_27 ?_
  exact g_iret C E dX5_putDigit_32 rfl Sq.rf rfl
set_option maxRecDepth 100000 in
set_option maxHeartbeats 400000 in
theorem c_X5_putDigit_bad (w : GW) (tu : Int64) (sg : Sg) (x : Int32) (v : Int32) (h : ¬ ((0 ≤ Int32.toInt64 x ∧ Int32.toInt64 x ≤ 5) ∧ (0 ≤ Int32.toInt64 v ∧ Int32.toInt64 v ≤ 9))) : Kt w yX5_putDigit cX5_putDigit 3 (some .int) 2 [.ref (ad w 44), .int x, .int v] sg tu (some (.int (-2))) sg tu := by
  refine Kt.of2 RX5 rfl [(0, .ref (ad w 44)), (1, .int x), (2, .int v)] (by decide) rfl (Nat.le_of_ble_eq_true rfl) (fun z C E => ?_)
  refine g_iload_n C 1 rfl rfl dX5_putDigit_0 ?_
  refine g_callS1 [] C (c_X5_isDrum w tu sg x ) mt_X5_isDrum ml_X5_90 st_X5_isDrum (by decide) rfl (Nat.le_of_ble_eq_true rfl) dX5_putDigit_1 ?_
  refine g_eq (L' := [(0, .ref (ad w 44)), (1, .int x), (2, .int v)]) (S' := [.int (bI (0 ≤ Int32.toInt64 x ∧ Int32.toInt64 x ≤ 5))]) rfl rfl rfl rfl ?_
  refine g_bif_eq C (tgt := 30) (by decide) dX5_putDigit_4 (fun h4 => ?_) (fun h4 => ?_)
  ·
    refine g_bipush C (v := (-2)) (by decide) dX5_putDigit_30 ?_
    exact g_iret C E dX5_putDigit_32 rfl Sq.rf rfl
  ·
    refine g_iload_n C 2 rfl rfl dX5_putDigit_7 ?_
    refine g_i2l C dX5_putDigit_8 ?_
    refine g_lconst C (v := 0) (by decide) dX5_putDigit_9 ?_
    refine g_ldc2 C cn_X5_94 dX5_putDigit_10 ?_
    refine g_callS1 [] C (c_X5_in w tu sg (Int32.toInt64 v) 0 9 ) mt_X5_in ml_X5_53 st_X5_in (by decide) rfl (Nat.le_of_ble_eq_true rfl) dX5_putDigit_13 ?_
    refine g_eq (L' := [(0, .ref (ad w 44)), (1, .int x), (2, .int v)]) (S' := [.int (bI (0 ≤ (Int32.toInt64 v) ∧ (Int32.toInt64 v) ≤ 9))]) rfl rfl rfl rfl ?_
    refine g_bif_eq C (tgt := 30) (by decide) dX5_putDigit_16 (fun h16 => ?_) (fun h16 => absurd ⟨h4, h16⟩ h)
    refine g_bipush C (v := (-2)) (by decide) dX5_putDigit_30 ?_
    exact g_iret C E dX5_putDigit_32 rfl Sq.rf rfl
set_option maxRecDepth 100000 in
set_option maxHeartbeats 400000 in
theorem c_X5_putShift_ok (w : GW) (tu : Int64) (sg : Sg) (n : Nat) (hn : n ≤ 6) : Kt w yX5_putShift cX5_putShift 2 (some .int) 1 [.ref (ad w 44), .int (nI n)] sg tu (some (.int (sg 45 31))) (us sg 45 (upd (sg 45) 31 (nI n))) tu := by
  refine Kt.of2 RX5 rfl [(0, .ref (ad w 44)), (1, .int (nI n))] (by decide) rfl (Nat.le_of_ble_eq_true rfl) (fun z C E => ?_)
  refine g_iload_n C 1 rfl rfl dX5_putShift_0 ?_
  refine g_i2l C dX5_putShift_1 ?_
  refine g_lconst C (v := 0) (by decide) dX5_putShift_2 ?_
  refine g_ldc2 C cn_X5_99 dX5_putShift_3 ?_
  refine g_callS1 [] C (c_X5_in_t w tu sg (Int32.toInt64 (nI n)) 0 6 (in_ok (n := 6) (by omega) (by decide))) mt_X5_in ml_X5_53 st_X5_in (by decide) rfl (Nat.le_of_ble_eq_true rfl) dX5_putShift_6 ?_
  refine g_eq (L' := [(0, .ref (ad w 44)), (1, .int (nI n))]) (S' := [.int (nI 1)]) rfl rfl rfl rfl ?_
  refine g_if_eq C (tgt := 22) (by decide) dX5_putShift_9 (fun h9 => absurd h9 (by decide)) (fun h9 => ?_)
  refine g_aload_n C 0 rfl rfl dX5_putShift_12 ?_
  refine g_bipush C (v := (nI 31)) (by decide) dX5_putShift_13 ?_
  refine g_iload_n C 1 rfl rfl dX5_putShift_15 ?_
  refine g_callV1 [] C (c_X5_change w tu sg 31 (nI n) (by omega)) mt_X5_change e_44 rfl ml_X5_96 im_X5_change se_X5_change (by decide) rfl (Nat.le_of_ble_eq_true rfl) dX5_putShift_16 ?_
  refine g_eq (sg' := (us sg 45 (upd (sg 45) 31 (nI n)))) (L' := [(0, .ref (ad w 44)), (1, .int (nI n))]) (S' := [.int (sg 45 31)]) rfl rfl rfl rfl ?_
  refine g_goto C (tgt := 24) (by decide) dX5_putShift_19 ?_
  exact g_iret C E dX5_putShift_24 rfl Sq.rf rfl
set_option maxRecDepth 100000 in
set_option maxHeartbeats 400000 in
theorem c_X5_putShift_bad (w : GW) (tu : Int64) (sg : Sg) (v : Int32) (h : ¬ (0 ≤ Int32.toInt64 v ∧ Int32.toInt64 v ≤ 6)) : Kt w yX5_putShift cX5_putShift 2 (some .int) 1 [.ref (ad w 44), .int v] sg tu (some (.int (-2))) sg tu := by
  refine Kt.of2 RX5 rfl [(0, .ref (ad w 44)), (1, .int v)] (by decide) rfl (Nat.le_of_ble_eq_true rfl) (fun z C E => ?_)
  refine g_iload_n C 1 rfl rfl dX5_putShift_0 ?_
  refine g_i2l C dX5_putShift_1 ?_
  refine g_lconst C (v := 0) (by decide) dX5_putShift_2 ?_
  refine g_ldc2 C cn_X5_99 dX5_putShift_3 ?_
  refine g_callS1 [] C (c_X5_in w tu sg (Int32.toInt64 v) 0 6 ) mt_X5_in ml_X5_53 st_X5_in (by decide) rfl (Nat.le_of_ble_eq_true rfl) dX5_putShift_6 ?_
  refine g_eq (L' := [(0, .ref (ad w 44)), (1, .int v)]) (S' := [.int (bI (0 ≤ (Int32.toInt64 v) ∧ (Int32.toInt64 v) ≤ 6))]) rfl rfl rfl rfl ?_
  refine g_bif_eq C (tgt := 22) (by decide) dX5_putShift_9 (fun h9 => ?_) (fun h9 => absurd h9 h)
  refine g_bipush C (v := (-2)) (by decide) dX5_putShift_22 ?_
  exact g_iret C E dX5_putShift_24 rfl Sq.rf rfl
set_option maxRecDepth 100000 in
set_option maxHeartbeats 400000 in
theorem c_X5_putReach_ok (w : GW) (tu : Int64) (sg : Sg) (n : Nat) (hn : n ≤ 12) : Kt w yX5_putReach cX5_putReach 2 (some .int) 1 [.ref (ad w 44), .int (nI n)] sg tu (some (.int (sg 45 32))) (us sg 45 (upd (sg 45) 32 (nI n))) tu := by
  refine Kt.of2 RX5 rfl [(0, .ref (ad w 44)), (1, .int (nI n))] (by decide) rfl (Nat.le_of_ble_eq_true rfl) (fun z C E => ?_)
  refine g_iload_n C 1 rfl rfl dX5_putReach_0 ?_
  refine g_i2l C dX5_putReach_1 ?_
  refine g_lconst C (v := 0) (by decide) dX5_putReach_2 ?_
  refine g_ldc2 C cn_X5_101 dX5_putReach_3 ?_
  refine g_callS1 [] C (c_X5_in_t w tu sg (Int32.toInt64 (nI n)) 0 12 (in_ok (n := 12) (by omega) (by decide))) mt_X5_in ml_X5_53 st_X5_in (by decide) rfl (Nat.le_of_ble_eq_true rfl) dX5_putReach_6 ?_
  refine g_eq (L' := [(0, .ref (ad w 44)), (1, .int (nI n))]) (S' := [.int (nI 1)]) rfl rfl rfl rfl ?_
  refine g_if_eq C (tgt := 22) (by decide) dX5_putReach_9 (fun h9 => absurd h9 (by decide)) (fun h9 => ?_)
  refine g_aload_n C 0 rfl rfl dX5_putReach_12 ?_
  refine g_bipush C (v := (nI 32)) (by decide) dX5_putReach_13 ?_
  refine g_iload_n C 1 rfl rfl dX5_putReach_15 ?_
  refine g_callV1 [] C (c_X5_change w tu sg 32 (nI n) (by omega)) mt_X5_change e_44 rfl ml_X5_96 im_X5_change se_X5_change (by decide) rfl (Nat.le_of_ble_eq_true rfl) dX5_putReach_16 ?_
  refine g_eq (sg' := (us sg 45 (upd (sg 45) 32 (nI n)))) (L' := [(0, .ref (ad w 44)), (1, .int (nI n))]) (S' := [.int (sg 45 32)]) rfl rfl rfl rfl ?_
  refine g_goto C (tgt := 24) (by decide) dX5_putReach_19 ?_
  exact g_iret C E dX5_putReach_24 rfl Sq.rf rfl
set_option maxRecDepth 100000 in
set_option maxHeartbeats 400000 in
theorem c_X5_putReach_bad (w : GW) (tu : Int64) (sg : Sg) (v : Int32) (h : ¬ (0 ≤ Int32.toInt64 v ∧ Int32.toInt64 v ≤ 12)) : Kt w yX5_putReach cX5_putReach 2 (some .int) 1 [.ref (ad w 44), .int v] sg tu (some (.int (-2))) sg tu := by
  refine Kt.of2 RX5 rfl [(0, .ref (ad w 44)), (1, .int v)] (by decide) rfl (Nat.le_of_ble_eq_true rfl) (fun z C E => ?_)
  refine g_iload_n C 1 rfl rfl dX5_putReach_0 ?_
  refine g_i2l C dX5_putReach_1 ?_
  refine g_lconst C (v := 0) (by decide) dX5_putReach_2 ?_
  refine g_ldc2 C cn_X5_101 dX5_putReach_3 ?_
  refine g_callS1 [] C (c_X5_in w tu sg (Int32.toInt64 v) 0 12 ) mt_X5_in ml_X5_53 st_X5_in (by decide) rfl (Nat.le_of_ble_eq_true rfl) dX5_putReach_6 ?_
  refine g_eq (L' := [(0, .ref (ad w 44)), (1, .int v)]) (S' := [.int (bI (0 ≤ (Int32.toInt64 v) ∧ (Int32.toInt64 v) ≤ 12))]) rfl rfl rfl rfl ?_
  refine g_bif_eq C (tgt := 22) (by decide) dX5_putReach_9 (fun h9 => ?_) (fun h9 => absurd h9 h)
  refine g_bipush C (v := (-2)) (by decide) dX5_putReach_22 ?_
  exact g_iret C E dX5_putReach_24 rfl Sq.rf rfl
set_option maxRecDepth 100000 in
set_option maxHeartbeats 400000 in
theorem c_X5_putWorn_ok (w : GW) (tu : Int64) (sg : Sg) (j : Nat) (t : Nat) (hj : j < 6) (ht1 : 1 ≤ t) (ht : t ≤ 9) : Kt w yX5_putWorn cX5_putWorn 3 (some .int) 2 [.ref (ad w 44), .int (nI j), .int (nI t)] sg tu (some (.int (wmX ((sg 45 (6 + j)) ^^^ (nI 1 <<< ((nI t) &&& 31))) 10))) (us sg 45 (upd (sg 45) (6 + j) ((sg 45 (6 + j)) ^^^ (nI 1 <<< ((nI t) &&& 31))))) tu := by
  refine Kt.of2 RX5 rfl [(0, .ref (ad w 44)), (1, .int (nI j)), (2, .int (nI t))] (by decide) rfl (Nat.le_of_ble_eq_true rfl) (fun z C E => ?_)
  refine g_iload_n C 1 rfl rfl dX5_putWorn_0 ?_
  refine g_callS1 [] C (c_X5_isDrum_t w tu sg j (by omega)) mt_X5_isDrum ml_X5_90 st_X5_isDrum (by decide) rfl (Nat.le_of_ble_eq_true rfl) dX5_putWorn_1 ?_
  refine g_eq (L' := [(0, .ref (ad w 44)), (1, .int (nI j)), (2, .int (nI t))]) (S' := [.int (nI 1)]) rfl rfl rfl rfl ?_
  refine g_if_eq C (tgt := 19) (by decide) dX5_putWorn_4 (fun h4 => absurd h4 (by decide)) (fun h4 => ?_)
  refine g_iload_n C 2 rfl rfl dX5_putWorn_7 ?_
  refine g_i2l C dX5_putWorn_8 ?_
  refine g_lconst C (v := 1) (by decide) dX5_putWorn_9 ?_
  refine g_ldc2 C cn_X5_94 dX5_putWorn_10 ?_
  refine g_callS1 [] C (c_X5_in_t w tu sg (Int32.toInt64 (nI t)) 1 9 (in_ok1 (n := 9) (by omega) (by omega) (by decide))) mt_X5_in ml_X5_53 st_X5_in (by decide) rfl (Nat.le_of_ble_eq_true rfl) dX5_putWorn_13 ?_
  refine g_eq (L' := [(0, .ref (ad w 44)), (1, .int (nI j)), (2, .int (nI t))]) (S' := [.int (nI 1)]) rfl rfl rfl rfl ?_
  refine g_if_ne C (tgt := 22) (by decide) dX5_putWorn_16 (fun h16 => ?_) (fun h16 => absurd h16 (by decide))
  refine g_aload_n C 0 rfl rfl dX5_putWorn_22 ?_
  refine g_getR C (j := 0) cls5 e_44 rfl (by decide) fl_X5_7 dX5_putWorn_23 ?_
  refine g_bipush C (v := (nI 6)) (by decide) dX5_putWorn_26 ?_
  refine g_iload_n C 1 rfl rfl dX5_putWorn_28 ?_
  refine g_iadd C dX5_putWorn_29 ?_
  refine g_top (y := (nI (6 + j))) (nI_add 6 j) ?_
  refine g_dup2 C rfl rfl dX5_putWorn_30 ?_
  refine g_ialdN C (6 + j) e_45 (by omega) (by decide) dX5_putWorn_31 ?_
  refine g_iconst C (v := (nI 1)) (by decide) dX5_putWorn_32 ?_
  refine g_iload_n C 2 rfl rfl dX5_putWorn_33 ?_
  refine g_ishl C dX5_putWorn_34 ?_
  refine g_ixor C dX5_putWorn_35 ?_
  refine g_iastN C (6 + j) e_45 (by omega) (by decide) dX5_putWorn_36 ?_
  refine g_sgE (sg' := (us sg 45 (upd (sg 45) (6 + j) ((sg 45 (6 + j)) ^^^ ((nI 1) <<< ((nI t) &&& 31)))))) rfl ?_
  refine g_aload_n C 0 rfl rfl dX5_putWorn_37 ?_
  refine g_getR C (j := 0) cls5 e_44 rfl (by decide) fl_X5_7 dX5_putWorn_38 ?_
  refine g_bipush C (v := (nI 6)) (by decide) dX5_putWorn_41 ?_
  refine g_iload_n C 1 rfl rfl dX5_putWorn_43 ?_
  refine g_iadd C dX5_putWorn_44 ?_
  refine g_top (y := (nI (6 + j))) (nI_add 6 j) ?_
  refine g_ialdN C (6 + j) e_45 (by omega) (by decide) dX5_putWorn_45 ?_
  refine g_top (y := ((sg 45 (6 + j)) ^^^ ((nI 1) <<< ((nI t) &&& 31)))) (show upd _ _ _ _ = _ from upd_same) ?_
  refine g_callS1 [] C (c_X5_wornMany w tu (us sg 45 (upd (sg 45) (6 + j) ((sg 45 (6 + j)) ^^^ ((nI 1) <<< ((nI t) &&& 31))))) ((sg 45 (6 + j)) ^^^ ((nI 1) <<< ((nI t) &&& 31))) ) mt_X5_wornMany ml_X5_103 st_X5_wornMany (by decide) rfl (Nat.le_of_ble_eq_true rfl) dX5_putWorn_46 ?_
  refine g_eq (L' := [(0, .ref (ad w 44)), (1, .int (nI j)), (2, .int (nI t))]) (S' := [.int (wmX ((sg 45 (6 + j)) ^^^ ((nI 1) <<< ((nI t) &&& 31))) 10)]) rfl rfl rfl rfl ?_
  exact g_iret C E dX5_putWorn_49 rfl Sq.rf rfl
set_option maxRecDepth 100000 in
set_option maxHeartbeats 400000 in
theorem c_X5_putWorn_bad (w : GW) (tu : Int64) (sg : Sg) (x : Int32) (v : Int32) (h : ¬ ((0 ≤ Int32.toInt64 x ∧ Int32.toInt64 x ≤ 5) ∧ (1 ≤ Int32.toInt64 v ∧ Int32.toInt64 v ≤ 9))) : Kt w yX5_putWorn cX5_putWorn 3 (some .int) 2 [.ref (ad w 44), .int x, .int v] sg tu (some (.int (-2))) sg tu := by
  refine Kt.of2 RX5 rfl [(0, .ref (ad w 44)), (1, .int x), (2, .int v)] (by decide) rfl (Nat.le_of_ble_eq_true rfl) (fun z C E => ?_)
  refine g_iload_n C 1 rfl rfl dX5_putWorn_0 ?_
  refine g_callS1 [] C (c_X5_isDrum w tu sg x ) mt_X5_isDrum ml_X5_90 st_X5_isDrum (by decide) rfl (Nat.le_of_ble_eq_true rfl) dX5_putWorn_1 ?_
  refine g_eq (L' := [(0, .ref (ad w 44)), (1, .int x), (2, .int v)]) (S' := [.int (bI (0 ≤ Int32.toInt64 x ∧ Int32.toInt64 x ≤ 5))]) rfl rfl rfl rfl ?_
  refine g_bif_eq C (tgt := 19) (by decide) dX5_putWorn_4 (fun h4 => ?_) (fun h4 => ?_)
  ·
    refine g_bipush C (v := (-2)) (by decide) dX5_putWorn_19 ?_
    exact g_iret C E dX5_putWorn_21 rfl Sq.rf rfl
  ·
    refine g_iload_n C 2 rfl rfl dX5_putWorn_7 ?_
    refine g_i2l C dX5_putWorn_8 ?_
    refine g_lconst C (v := 1) (by decide) dX5_putWorn_9 ?_
    refine g_ldc2 C cn_X5_94 dX5_putWorn_10 ?_
    refine g_callS1 [] C (c_X5_in w tu sg (Int32.toInt64 v) 1 9 ) mt_X5_in ml_X5_53 st_X5_in (by decide) rfl (Nat.le_of_ble_eq_true rfl) dX5_putWorn_13 ?_
    refine g_eq (L' := [(0, .ref (ad w 44)), (1, .int x), (2, .int v)]) (S' := [.int (bI (1 ≤ (Int32.toInt64 v) ∧ (Int32.toInt64 v) ≤ 9))]) rfl rfl rfl rfl ?_
    refine g_bif_ne C (tgt := 22) (by decide) dX5_putWorn_16 (fun h16 => absurd ⟨h4, h16⟩ h) (fun h16 => ?_)
    refine g_bipush C (v := (-2)) (by decide) dX5_putWorn_19 ?_
    exact g_iret C E dX5_putWorn_21 rfl Sq.rf rfl
set_option maxRecDepth 100000 in
set_option maxHeartbeats 400000 in
theorem c_X5_number_dig (w : GW) (tu : Int64) (sg : Sg) : Kt w yX5_number cX5_number 5 (some .int) 0 [.ref (ad w 45), .int (nI 0), .int (nI 6)] sg tu (some (.int (nbX (sg 45) 0 6 (nI 0)))) sg tu := by
  refine Kt.of2 RX5 rfl [(0, .ref (ad w 45)), (1, .int (nI 0)), (2, .int (nI 6))] (by decide) rfl (Nat.le_of_ble_eq_true rfl) (fun z C E => ?_)
  refine g_iconst C (v := (nI 0)) (by decide) dX5_number_0 ?_
  refine g_istore_n C (L' := [(3, .int (nI 0)), (0, .ref (ad w 45)), (1, .int (nI 0)), (2, .int (nI 6))]) rfl (by decide) rfl dX5_number_1 ?_
  refine g_iload_n C 3 rfl rfl dX5_number_2 ?_
  refine g_iconst C (v := (nI 1)) (by decide) dX5_number_3 ?_
  refine g_isub C dX5_number_4 ?_
  refine g_top (y := (nI 5)) (by decide) ?_
  refine g_istore C (L' := [(4, .int (nI 5)), (3, .int (nI 0)), (0, .ref (ad w 45)), (1, .int (nI 0)), (2, .int (nI 6))]) (by decide) rfl dX5_number_5 ?_
  have lp : ∀ (r : Nat) (v : Int32), r ≤ 6 → (nbX (sg 45) 0 r v = nbX (sg 45) 0 6 (nI 0)) → G z w 5 sg tu 7 [(4, .int (nI r + (-1))), (3, .int v), (0, .ref (ad w 45)), (1, .int (nI 0)), (2, .int (nI 6))] [] := by
    intro r
    induction r with
    | zero =>
      intro v h2 hI
      refine g_iload C 0 rfl dX5_number_7 ?_
      refine g_if_lt C (tgt := 30) (by decide) dX5_number_9 (fun h9 => ?_) (fun h9 => absurd (by decide) h9)
      refine g_iload_n C 1 rfl rfl dX5_number_30 ?_
      exact g_iret C E dX5_number_31 hI Sq.rf rfl
    | succ r ih =>
      intro v h2 hI
      refine g_eq (L' := [(4, .int (nI r)), (3, .int v), (0, .ref (ad w 45)), (1, .int (nI 0)), (2, .int (nI 6))]) rfl rfl (by rw [pk_m1]) rfl ?_
      refine g_iload C 0 rfl dX5_number_7 ?_
      refine g_if_lt C (tgt := 30) (by decide) dX5_number_9 (fun h9 => absurd h9 (nI_pos (by omega))) (fun h9 => ?_)
      refine g_bipush C (v := (nI 10)) (by decide) dX5_number_12 ?_
      refine g_iload_n C 1 rfl rfl dX5_number_14 ?_
      refine g_imul C dX5_number_15 ?_
      refine g_aload_n C 2 rfl rfl dX5_number_16 ?_
      refine g_iload_n C 3 rfl rfl dX5_number_17 ?_
      refine g_iload C 0 rfl dX5_number_18 ?_
      refine g_iadd C dX5_number_20 ?_
      refine g_top (y := (nI r)) (by rw [nI_add, Nat.zero_add]) ?_
      refine g_ialdN C r e_45 (by omega) (by decide) dX5_number_21 ?_
      refine g_iadd C dX5_number_22 ?_
      refine g_istore_n C (L' := [(3, .int (((nI 10) * v) + (sg 45 r))), (4, .int (nI r)), (0, .ref (ad w 45)), (1, .int (nI 0)), (2, .int (nI 6))]) rfl (by decide) rfl dX5_number_23 ?_
      refine g_iinc C (n := -1) (v := ((nI r) + (-1))) (L' := [(4, .int ((nI r) + (-1))), (3, .int (((nI 10) * v) + (sg 45 r))), (0, .ref (ad w 45)), (1, .int (nI 0)), (2, .int (nI 6))]) 1 rfl rfl (by decide) rfl dX5_number_24 ?_
      refine g_goto C (tgt := 7) (by decide) dX5_number_27 ?_
      refine g_sub (L' := [(4, .int ((nI r) + (-1))), (3, .int (((nI 10) * v) + (sg 45 r))), (0, .ref (ad w 45)), (1, .int (nI 0)), (2, .int (nI 6))]) [0, 1, 2, 3, 4] rfl ?_
      exact ih (((nI 10) * v) + (sg 45 r)) (by omega) (by have h9 := hI; unfold nbX at h9; rw [Nat.zero_add] at h9; exact h9)
  refine g_eq (L' := [(4, .int (nI 6 + (-1))), (3, .int (nI 0)), (0, .ref (ad w 45)), (1, .int (nI 0)), (2, .int (nI 6))]) rfl rfl rfl rfl ?_
  refine g_sub (L' := [(4, .int (nI 6 + (-1))), (3, .int (nI 0)), (0, .ref (ad w 45)), (1, .int (nI 0)), (2, .int (nI 6))]) [0, 1, 2, 3, 4] rfl ?_
  exact lp 6 (nI 0) (by omega) rfl
set_option maxRecDepth 100000 in
set_option maxHeartbeats 400000 in
theorem c_X5_number_cnt (w : GW) (tu : Int64) (sg : Sg) : Kt w yX5_number cX5_number 5 (some .int) 0 [.ref (ad w 45), .int (nI 24), .int (nI 7)] sg tu (some (.int (nbX (sg 45) 24 7 (nI 0)))) sg tu := by
  refine Kt.of2 RX5 rfl [(0, .ref (ad w 45)), (1, .int (nI 24)), (2, .int (nI 7))] (by decide) rfl (Nat.le_of_ble_eq_true rfl) (fun z C E => ?_)
  refine g_iconst C (v := (nI 0)) (by decide) dX5_number_0 ?_
  refine g_istore_n C (L' := [(3, .int (nI 0)), (0, .ref (ad w 45)), (1, .int (nI 24)), (2, .int (nI 7))]) rfl (by decide) rfl dX5_number_1 ?_
  refine g_iload_n C 3 rfl rfl dX5_number_2 ?_
  refine g_iconst C (v := (nI 1)) (by decide) dX5_number_3 ?_
  refine g_isub C dX5_number_4 ?_
  refine g_top (y := (nI 6)) (by decide) ?_
  refine g_istore C (L' := [(4, .int (nI 6)), (3, .int (nI 0)), (0, .ref (ad w 45)), (1, .int (nI 24)), (2, .int (nI 7))]) (by decide) rfl dX5_number_5 ?_
  have lp : ∀ (r : Nat) (v : Int32), r ≤ 7 → (nbX (sg 45) 24 r v = nbX (sg 45) 24 7 (nI 0)) → G z w 5 sg tu 7 [(4, .int (nI r + (-1))), (3, .int v), (0, .ref (ad w 45)), (1, .int (nI 24)), (2, .int (nI 7))] [] := by
    intro r
    induction r with
    | zero =>
      intro v h2 hI
      refine g_iload C 0 rfl dX5_number_7 ?_
      refine g_if_lt C (tgt := 30) (by decide) dX5_number_9 (fun h9 => ?_) (fun h9 => absurd (by decide) h9)
      refine g_iload_n C 1 rfl rfl dX5_number_30 ?_
      exact g_iret C E dX5_number_31 hI Sq.rf rfl
    | succ r ih =>
      intro v h2 hI
      refine g_eq (L' := [(4, .int (nI r)), (3, .int v), (0, .ref (ad w 45)), (1, .int (nI 24)), (2, .int (nI 7))]) rfl rfl (by rw [pk_m1]) rfl ?_
      refine g_iload C 0 rfl dX5_number_7 ?_
      refine g_if_lt C (tgt := 30) (by decide) dX5_number_9 (fun h9 => absurd h9 (nI_pos (by omega))) (fun h9 => ?_)
      refine g_bipush C (v := (nI 10)) (by decide) dX5_number_12 ?_
      refine g_iload_n C 1 rfl rfl dX5_number_14 ?_
      refine g_imul C dX5_number_15 ?_
      refine g_aload_n C 2 rfl rfl dX5_number_16 ?_
      refine g_iload_n C 3 rfl rfl dX5_number_17 ?_
      refine g_iload C 0 rfl dX5_number_18 ?_
      refine g_iadd C dX5_number_20 ?_
      refine g_top (y := (nI (24 + r))) (nI_add 24 r) ?_
      refine g_ialdN C (24 + r) e_45 (by omega) (by decide) dX5_number_21 ?_
      refine g_iadd C dX5_number_22 ?_
      refine g_istore_n C (L' := [(3, .int (((nI 10) * v) + (sg 45 (24 + r)))), (4, .int (nI r)), (0, .ref (ad w 45)), (1, .int (nI 24)), (2, .int (nI 7))]) rfl (by decide) rfl dX5_number_23 ?_
      refine g_iinc C (n := -1) (v := ((nI r) + (-1))) (L' := [(4, .int ((nI r) + (-1))), (3, .int (((nI 10) * v) + (sg 45 (24 + r)))), (0, .ref (ad w 45)), (1, .int (nI 24)), (2, .int (nI 7))]) 1 rfl rfl (by decide) rfl dX5_number_24 ?_
      refine g_goto C (tgt := 7) (by decide) dX5_number_27 ?_
      refine g_sub (L' := [(4, .int ((nI r) + (-1))), (3, .int (((nI 10) * v) + (sg 45 (24 + r)))), (0, .ref (ad w 45)), (1, .int (nI 24)), (2, .int (nI 7))]) [0, 1, 2, 3, 4] rfl ?_
      exact ih (((nI 10) * v) + (sg 45 (24 + r))) (by omega) hI
  refine g_eq (L' := [(4, .int (nI 7 + (-1))), (3, .int (nI 0)), (0, .ref (ad w 45)), (1, .int (nI 24)), (2, .int (nI 7))]) rfl rfl rfl rfl ?_
  refine g_sub (L' := [(4, .int (nI 7 + (-1))), (3, .int (nI 0)), (0, .ref (ad w 45)), (1, .int (nI 24)), (2, .int (nI 7))]) [0, 1, 2, 3, 4] rfl ?_
  exact lp 7 (nI 0) (by omega) rfl
set_option maxRecDepth 100000 in
set_option maxHeartbeats 400000 in
theorem c_X5_number_giv (w : GW) (tu : Int64) (sg : Sg) : Kt w yX5_number cX5_number 5 (some .int) 0 [.ref (ad w 50), .int (nI 0), .int (nI 6)] sg tu (some (.int (nbX (sg 50) 0 6 (nI 0)))) sg tu := by
  refine Kt.of2 RX5 rfl [(0, .ref (ad w 50)), (1, .int (nI 0)), (2, .int (nI 6))] (by decide) rfl (Nat.le_of_ble_eq_true rfl) (fun z C E => ?_)
  refine g_iconst C (v := (nI 0)) (by decide) dX5_number_0 ?_
  refine g_istore_n C (L' := [(3, .int (nI 0)), (0, .ref (ad w 50)), (1, .int (nI 0)), (2, .int (nI 6))]) rfl (by decide) rfl dX5_number_1 ?_
  refine g_iload_n C 3 rfl rfl dX5_number_2 ?_
  refine g_iconst C (v := (nI 1)) (by decide) dX5_number_3 ?_
  refine g_isub C dX5_number_4 ?_
  refine g_top (y := (nI 5)) (by decide) ?_
  refine g_istore C (L' := [(4, .int (nI 5)), (3, .int (nI 0)), (0, .ref (ad w 50)), (1, .int (nI 0)), (2, .int (nI 6))]) (by decide) rfl dX5_number_5 ?_
  have lp : ∀ (r : Nat) (v : Int32), r ≤ 6 → (nbX (sg 50) 0 r v = nbX (sg 50) 0 6 (nI 0)) → G z w 5 sg tu 7 [(4, .int (nI r + (-1))), (3, .int v), (0, .ref (ad w 50)), (1, .int (nI 0)), (2, .int (nI 6))] [] := by
    intro r
    induction r with
    | zero =>
      intro v h2 hI
      refine g_iload C 0 rfl dX5_number_7 ?_
      refine g_if_lt C (tgt := 30) (by decide) dX5_number_9 (fun h9 => ?_) (fun h9 => absurd (by decide) h9)
      refine g_iload_n C 1 rfl rfl dX5_number_30 ?_
      exact g_iret C E dX5_number_31 hI Sq.rf rfl
    | succ r ih =>
      intro v h2 hI
      refine g_eq (L' := [(4, .int (nI r)), (3, .int v), (0, .ref (ad w 50)), (1, .int (nI 0)), (2, .int (nI 6))]) rfl rfl (by rw [pk_m1]) rfl ?_
      refine g_iload C 0 rfl dX5_number_7 ?_
      refine g_if_lt C (tgt := 30) (by decide) dX5_number_9 (fun h9 => absurd h9 (nI_pos (by omega))) (fun h9 => ?_)
      refine g_bipush C (v := (nI 10)) (by decide) dX5_number_12 ?_
      refine g_iload_n C 1 rfl rfl dX5_number_14 ?_
      refine g_imul C dX5_number_15 ?_
      refine g_aload_n C 2 rfl rfl dX5_number_16 ?_
      refine g_iload_n C 3 rfl rfl dX5_number_17 ?_
      refine g_iload C 0 rfl dX5_number_18 ?_
      refine g_iadd C dX5_number_20 ?_
      refine g_top (y := (nI r)) (by rw [nI_add, Nat.zero_add]) ?_
      refine g_ialdN C r e_50 (by omega) (by decide) dX5_number_21 ?_
      refine g_iadd C dX5_number_22 ?_
      refine g_istore_n C (L' := [(3, .int (((nI 10) * v) + (sg 50 r))), (4, .int (nI r)), (0, .ref (ad w 50)), (1, .int (nI 0)), (2, .int (nI 6))]) rfl (by decide) rfl dX5_number_23 ?_
      refine g_iinc C (n := -1) (v := ((nI r) + (-1))) (L' := [(4, .int ((nI r) + (-1))), (3, .int (((nI 10) * v) + (sg 50 r))), (0, .ref (ad w 50)), (1, .int (nI 0)), (2, .int (nI 6))]) 1 rfl rfl (by decide) rfl dX5_number_24 ?_
      refine g_goto C (tgt := 7) (by decide) dX5_number_27 ?_
      refine g_sub (L' := [(4, .int ((nI r) + (-1))), (3, .int (((nI 10) * v) + (sg 50 r))), (0, .ref (ad w 50)), (1, .int (nI 0)), (2, .int (nI 6))]) [0, 1, 2, 3, 4] rfl ?_
      exact ih (((nI 10) * v) + (sg 50 r)) (by omega) (by have h9 := hI; unfold nbX at h9; rw [Nat.zero_add] at h9; exact h9)
  refine g_eq (L' := [(4, .int (nI 6 + (-1))), (3, .int (nI 0)), (0, .ref (ad w 50)), (1, .int (nI 0)), (2, .int (nI 6))]) rfl rfl rfl rfl ?_
  refine g_sub (L' := [(4, .int (nI 6 + (-1))), (3, .int (nI 0)), (0, .ref (ad w 50)), (1, .int (nI 0)), (2, .int (nI 6))]) [0, 1, 2, 3, 4] rfl ?_
  exact lp 6 (nI 0) (by omega) rfl
