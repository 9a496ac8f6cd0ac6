set_option maxRecDepth 100000 in
set_option maxHeartbeats 400000 in
theorem c_X5_refuses_bad (w : GW) (tu : Int64) (sg : Sg) : Kt w yX5_refuses cX5_refuses 2 (some .int) 0 [.ref (ad w 44), .int (-2)] sg tu (some (.int (-2))) (us sg 48 (upd (sg 48) 0 ((sg 48 0) + nI 1))) tu := by
  refine Kt.of2 RX5 rfl [(0, .ref (ad w 44)), (1, .int (-2))] (by decide) rfl (Nat.le_of_ble_eq_true rfl) (fun z C E => ?_)
  refine g_aload_n C 0 rfl rfl dX5_refuses_0 ?_
  refine g_getR C (j := 4) cls5 e_44 rfl (by decide) fl_X5_19 dX5_refuses_1 ?_
  refine g_bipush C (v := (-2)) (by decide) dX5_refuses_4 ?_
  refine g_iload_n C 1 rfl rfl dX5_refuses_6 ?_
  refine g_isub C dX5_refuses_7 ?_
  refine g_top (y := (nI 0)) (by decide) ?_
  refine g_dup2 C rfl rfl dX5_refuses_8 ?_
  refine g_ialdN C 0 e_48 (by decide) (by decide) dX5_refuses_9 ?_
  refine g_iconst C (v := (nI 1)) (by decide) dX5_refuses_10 ?_
  refine g_iadd C dX5_refuses_11 ?_
  refine g_iastN C 0 e_48 (by decide) (by decide) dX5_refuses_12 ?_
  refine g_sgE (sg' := (us sg 48 (upd (sg 48) 0 ((sg 48 0) + (nI 1))))) rfl ?_
  refine g_iload_n C 1 rfl rfl dX5_refuses_13 ?_
  exact g_iret C E dX5_refuses_14 rfl Sq.rf rfl
set_option maxRecDepth 100000 in
set_option maxHeartbeats 400000 in
theorem c_X5_refuses_no (w : GW) (tu : Int64) (sg : Sg) : Kt w yX5_refuses cX5_refuses 2 (some .int) 0 [.ref (ad w 44), .int (-3)] sg tu (some (.int (-3))) (us sg 48 (upd (sg 48) 1 ((sg 48 1) + nI 1))) tu := by
  refine Kt.of2 RX5 rfl [(0, .ref (ad w 44)), (1, .int (-3))] (by decide) rfl (Nat.le_of_ble_eq_true rfl) (fun z C E => ?_)
  refine g_aload_n C 0 rfl rfl dX5_refuses_0 ?_
  refine g_getR C (j := 4) cls5 e_44 rfl (by decide) fl_X5_19 dX5_refuses_1 ?_
  refine g_bipush C (v := (-2)) (by decide) dX5_refuses_4 ?_
  refine g_iload_n C 1 rfl rfl dX5_refuses_6 ?_
  refine g_isub C dX5_refuses_7 ?_
  refine g_top (y := (nI 1)) (by decide) ?_
  refine g_dup2 C rfl rfl dX5_refuses_8 ?_
  refine g_ialdN C 1 e_48 (by decide) (by decide) dX5_refuses_9 ?_
  refine g_iconst C (v := (nI 1)) (by decide) dX5_refuses_10 ?_
  refine g_iadd C dX5_refuses_11 ?_
  refine g_iastN C 1 e_48 (by decide) (by decide) dX5_refuses_12 ?_
  refine g_sgE (sg' := (us sg 48 (upd (sg 48) 1 ((sg 48 1) + (nI 1))))) rfl ?_
  refine g_iload_n C 1 rfl rfl dX5_refuses_13 ?_
  exact g_iret C E dX5_refuses_14 rfl Sq.rf rfl
set_option maxRecDepth 100000 in
set_option maxHeartbeats 400000 in
theorem c_X5_refuses_full (w : GW) (tu : Int64) (sg : Sg) : Kt w yX5_refuses cX5_refuses 2 (some .int) 0 [.ref (ad w 44), .int (-4)] sg tu (some (.int (-4))) (us sg 48 (upd (sg 48) 2 ((sg 48 2) + nI 1))) tu := by
  refine Kt.of2 RX5 rfl [(0, .ref (ad w 44)), (1, .int (-4))] (by decide) rfl (Nat.le_of_ble_eq_true rfl) (fun z C E => ?_)
  refine g_aload_n C 0 rfl rfl dX5_refuses_0 ?_
  refine g_getR C (j := 4) cls5 e_44 rfl (by decide) fl_X5_19 dX5_refuses_1 ?_
  refine g_bipush C (v := (-2)) (by decide) dX5_refuses_4 ?_
  refine g_iload_n C 1 rfl rfl dX5_refuses_6 ?_
  refine g_isub C dX5_refuses_7 ?_
  refine g_top (y := (nI 2)) (by decide) ?_
  refine g_dup2 C rfl rfl dX5_refuses_8 ?_
  refine g_ialdN C 2 e_48 (by decide) (by decide) dX5_refuses_9 ?_
  refine g_iconst C (v := (nI 1)) (by decide) dX5_refuses_10 ?_
  refine g_iadd C dX5_refuses_11 ?_
  refine g_iastN C 2 e_48 (by decide) (by decide) dX5_refuses_12 ?_
  refine g_sgE (sg' := (us sg 48 (upd (sg 48) 2 ((sg 48 2) + (nI 1))))) rfl ?_
  refine g_iload_n C 1 rfl rfl dX5_refuses_13 ?_
  exact g_iret C E dX5_refuses_14 rfl Sq.rf rfl
set_option maxRecDepth 100000 in
set_option maxHeartbeats 400000 in
theorem c_X5_finished_bad (w : GW) (tu : Int64) (sg : Sg) : Kt w yX5_finished cX5_finished 2 (some .int) 1 [.ref (ad w 44), .int (-2)] sg tu (some (.int (-2))) (us sg 48 (upd (sg 48) 0 ((sg 48 0) + nI 1))) tu := by
  refine Kt.of2 RX5 rfl [(0, .ref (ad w 44)), (1, .int (-2))] (by decide) rfl (Nat.le_of_ble_eq_true rfl) (fun z C E => ?_)
  refine g_iload_n C 1 rfl rfl dX5_finished_0 ?_
  refine g_bipush C (v := (-2)) (by decide) dX5_finished_1 ?_
  refine g_icmp_gt C (tgt := 12) (by decide) dX5_finished_3 (fun h3 => absurd h3 (by decide)) (fun h3 => ?_)
  refine g_aload_n C 0 rfl rfl dX5_finished_6 ?_
  refine g_iload_n C 1 rfl rfl dX5_finished_7 ?_
  refine g_callV1 [] C (c_X5_refuses_bad w tu sg  ) mt_X5_refuses e_44 rfl ml_X5_44 im_X5_refuses se_X5_refuses (by decide) rfl (Nat.le_of_ble_eq_true rfl) dX5_finished_8 ?_
  refine g_eq (sg' := (us sg 48 (upd (sg 48) 0 ((sg 48 0) + nI 1)))) (L' := [(0, .ref (ad w 44)), (1, .int (-2))]) (S' := [.int (-2)]) rfl rfl rfl rfl ?_
  exact g_iret C E dX5_finished_11 rfl Sq.rf rfl
set_option maxRecDepth 100000 in
set_option maxHeartbeats 400000 in
theorem c_X5_finished_no (w : GW) (tu : Int64) (sg : Sg) : Kt w yX5_finished cX5_finished 2 (some .int) 1 [.ref (ad w 44), .int (-3)] sg tu (some (.int (-3))) (us sg 48 (upd (sg 48) 1 ((sg 48 1) + nI 1))) tu := by
  refine Kt.of2 RX5 rfl [(0, .ref (ad w 44)), (1, .int (-3))] (by decide) rfl (Nat.le_of_ble_eq_true rfl) (fun z C E => ?_)
  refine g_iload_n C 1 rfl rfl dX5_finished_0 ?_
  refine g_bipush C (v := (-2)) (by decide) dX5_finished_1 ?_
  refine g_icmp_gt C (tgt := 12) (by decide) dX5_finished_3 (fun h3 => absurd h3 (by decide)) (fun h3 => ?_)
  refine g_aload_n C 0 rfl rfl dX5_finished_6 ?_
  refine g_iload_n C 1 rfl rfl dX5_finished_7 ?_
  refine g_callV1 [] C (c_X5_refuses_no w tu sg  ) mt_X5_refuses e_44 rfl ml_X5_44 im_X5_refuses se_X5_refuses (by decide) rfl (Nat.le_of_ble_eq_true rfl) dX5_finished_8 ?_
  refine g_eq (sg' := (us sg 48 (upd (sg 48) 1 ((sg 48 1) + nI 1)))) (L' := [(0, .ref (ad w 44)), (1, .int (-3))]) (S' := [.int (-3)]) rfl rfl rfl rfl ?_
  exact g_iret C E dX5_finished_11 rfl Sq.rf rfl
set_option maxRecDepth 100000 in
set_option maxHeartbeats 400000 in
theorem c_X5_remembers (w : GW) (tu : Int64) (sg : Sg) (st : Nat) (hst : sg 44 3 = nI st) (hs5 : st ≤ 5) : Kt w yX5_remembers cX5_remembers 2 none 0 [.ref (ad w 44)] sg tu (none) (us (us sg 47 (pastP (sg 47) (sg 46) st)) 44 (upd (sg 44) 3 (nI (stP st)))) tu := by
  refine Kt.of2 RX5 rfl [(0, .ref (ad w 44))] (by decide) rfl (Nat.le_of_ble_eq_true rfl) (fun z C E => ?_)
  refine g_aload_n C 0 rfl rfl dX5_remembers_0 ?_
  refine g_getI C (j := 3) cls5 e_44 rfl (by decide) fl_X5_40 dX5_remembers_1 ?_
  refine g_top (y := (nI st)) hst ?_
  refine g_iconst C (v := (nI 5)) (by decide) dX5_remembers_4 ?_
  refine g_icmpN_ne C st 5 (by omega) (by omega) (tgt := 48) (by decide) dX5_remembers_5 (fun h5 => ?_) (fun h5 => ?_)
  ·
    refine g_iconst C (v := (nI 0)) (by decide) dX5_remembers_48 ?_
    refine g_istore_n C (L' := [(1, .int (nI 0)), (0, .ref (ad w 44))]) rfl (by decide) rfl dX5_remembers_49 ?_
    have lpb : ∀ (nf i : Nat), 35 < i + nf → i ≤ 35 → (True) → G z w 2 (us sg 47 (fw (35 * st) (fun j => sg 46 (j - 35 * st)) (sg 47) i)) tu 50 [(1, .int (nI i)), (0, .ref (ad w 44))] [] := by
      intro nf
      induction nf with
      | zero => intro i  h1 h2 hI; exact absurd h1 (by omega)
      | succ nf ihlpb =>
        intro i  h1 h2 hI
        refine g_iload_n C 0 rfl rfl dX5_remembers_50 ?_
        refine g_bipush C (v := (nI 35)) (by decide) dX5_remembers_51 ?_
        refine g_icmpN_ge C i 35 (by omega) (by omega) (tgt := 82) (by decide) dX5_remembers_53 (fun h53 => ?_) (fun h53 => ?_)
        ·
          have hiN : 35 = i := by omega
          subst hiN
          refine g_aload_n C 1 rfl rfl dX5_remembers_82 ?_
          refine g_dup C rfl dX5_remembers_83 ?_
          refine g_getI C (j := 3) cls5 e_44 rfl (by decide) fl_X5_40 dX5_remembers_84 ?_
          refine g_top (y := (nI st)) hst ?_
          refine g_iconst C (v := (nI 1)) (by decide) dX5_remembers_87 ?_
          refine g_iadd C dX5_remembers_88 ?_
          refine g_top (y := (nI (st + 1))) (nI_add st 1) ?_
          refine g_putI C (j := 3) cls5 e_44 rfl (by decide) rfl rfl fl_X5_40 dX5_remembers_89 ?_
          refine g_sgE (sg' := (us (us sg 47 (fw (35 * st) (fun j => sg 46 (j - 35 * st)) (sg 47) 35)) 44 (upd (sg 44) 3 (nI (st + 1))))) rfl ?_
          exact g_vret C E dX5_remembers_92 (by
        intro k j hj
        by_cases h47 : k = 47
        · subst h47
          show fw (35 * st) (fun j => sg 46 (j - 35 * st)) (sg 47) 35 j = pastP (sg 47) (sg 46) st j
          unfold pastP fw
          rw [if_neg h5]
        · by_cases h44 : k = 44
          · subst h44
            show upd (sg 44) 3 (nI (st + 1)) j = upd (sg 44) 3 (nI (stP st)) j
            rw [show stP st = st + 1 from if_neg h5]
          · simp [us, h47, h44]) rfl
        ·
          refine g_aload_n C 1 rfl rfl dX5_remembers_56 ?_
          refine g_getR C (j := 2) cls5 e_44 rfl (by decide) fl_X5_16 dX5_remembers_57 ?_
          refine g_bipush C (v := (nI 35)) (by decide) dX5_remembers_60 ?_
          refine g_aload_n C 1 rfl rfl dX5_remembers_62 ?_
          refine g_getI C (j := 3) cls5 e_44 rfl (by decide) fl_X5_40 dX5_remembers_63 ?_
          refine g_top (y := (nI st)) hst ?_
          refine g_imul C dX5_remembers_66 ?_
          refine g_top (y := (nI (35 * st))) (pk_mul 35 st) ?_
          refine g_iload_n C 0 rfl rfl dX5_remembers_67 ?_
          refine g_iadd C dX5_remembers_68 ?_
          refine g_top (y := (nI ((35 * st) + i))) (nI_add (35 * st) i) ?_
          refine g_aload_n C 1 rfl rfl dX5_remembers_69 ?_
          refine g_getR C (j := 1) cls5 e_44 rfl (by decide) fl_X5_13 dX5_remembers_70 ?_
          refine g_iload_n C 0 rfl rfl dX5_remembers_73 ?_
          refine g_ialdN C i e_46 (by omega) (by decide) dX5_remembers_74 ?_
          refine g_top (y := (sg 46 i)) rfl ?_
          refine g_iastN C ((35 * st) + i) e_47 (by omega) (by decide) dX5_remembers_75 ?_
          refine g_sgE (sg' := (us sg 47 (upd (fw (35 * st) (fun j => sg 46 (j - 35 * st)) (sg 47) i) ((35 * st) + i) (sg 46 i)))) us_us ?_
          refine g_iinc C (n := 1) (v := (nI (i + 1))) (L' := [(1, .int (nI (i + 1))), (0, .ref (ad w 44))]) 0 rfl (nI_add i 1) (by decide) rfl dX5_remembers_76 ?_
          refine g_goto C (tgt := 50) (by decide) dX5_remembers_79 ?_
          refine g_sub (L' := [(1, .int (nI (i + 1))), (0, .ref (ad w 44))]) [0, 1] rfl ?_
          refine g_sgE (sg' := (us sg 47 (fw (35 * st) (fun j => sg 46 (j - 35 * st)) (sg 47) (i + 1)))) (congrArg (us sg 47) (fw_s (by rw [Nat.add_sub_cancel_left]))) ?_
          exact ihlpb (i + 1)  (by omega) (by omega) trivial
    refine g_sgE (sg' := (us sg 47 (fw (35 * st) (fun j => sg 46 (j - 35 * st)) (sg 47) 0))) (by rw [fw_0, us_id]) ?_
    exact lpb (35 + 1) 0  (by omega) (by omega) trivial
  ·
    subst h5
    refine g_iconst C (v := (nI 0)) (by decide) dX5_remembers_8 ?_
    refine g_istore_n C (L' := [(1, .int (nI 0)), (0, .ref (ad w 44))]) rfl (by decide) rfl dX5_remembers_9 ?_
    have lpa : ∀ (nf i : Nat), 140 < i + nf → i ≤ 140 → (True) → G z w 2 (us sg 47 (fw 0 (fun j => sg 47 (j + 35)) (sg 47) i)) tu 10 [(1, .int (nI i)), (0, .ref (ad w 44))] [] := by
      intro nf
      induction nf with
      | zero => intro i  h1 h2 hI; exact absurd h1 (by omega)
      | succ nf ihlpa =>
        intro i  h1 h2 hI
        refine g_iload_n C 0 rfl rfl dX5_remembers_10 ?_
        refine g_sipush C (v := (nI 140)) (by decide) dX5_remembers_11 ?_
        refine g_icmpN_ge C i 140 (by omega) (by omega) (tgt := 38) (by decide) dX5_remembers_14 (fun h14 => ?_) (fun h14 => ?_)
        ·
          have hiN : 140 = i := by omega
          subst hiN
          refine g_aload_n C 1 rfl rfl dX5_remembers_38 ?_
          refine g_dup C rfl dX5_remembers_39 ?_
          refine g_getI C (j := 3) cls5 e_44 rfl (by decide) fl_X5_40 dX5_remembers_40 ?_
          refine g_top (y := (nI 5)) hst ?_
          refine g_iconst C (v := (nI 1)) (by decide) dX5_remembers_43 ?_
          refine g_isub C dX5_remembers_44 ?_
          refine g_top (y := (nI 4)) (by decide) ?_
          refine g_putI C (j := 3) cls5 e_44 rfl (by decide) rfl rfl fl_X5_40 dX5_remembers_45 ?_
          refine g_sgE (sg' := (us (us sg 47 (fw 0 (fun j => sg 47 (j + 35)) (sg 47) 140)) 44 (upd (sg 44) 3 (nI 4)))) rfl ?_
          refine g_iconst C (v := (nI 0)) (by decide) dX5_remembers_48 ?_
          refine g_istore_n C (L' := [(1, .int (nI 0)), (0, .ref (ad w 44))]) rfl (by decide) rfl dX5_remembers_49 ?_
          have lpb : ∀ (nf i : Nat), 35 < i + nf → i ≤ 35 → (True) → G z w 2 (us (us (us sg 47 (fw 0 (fun j => sg 47 (j + 35)) (sg 47) 140)) 44 (upd (sg 44) 3 (nI 4))) 47 (fw 140 (fun j => sg 46 (j - 140)) (fw 0 (fun j => sg 47 (j + 35)) (sg 47) 140) i)) tu 50 [(1, .int (nI i)), (0, .ref (ad w 44))] [] := by
            intro nf
            induction nf with
            | zero => intro i  h1 h2 hI; exact absurd h1 (by omega)
            | succ nf ihlpb =>
              intro i  h1 h2 hI
              refine g_iload_n C 0 rfl rfl dX5_remembers_50 ?_
              refine g_bipush C (v := (nI 35)) (by decide) dX5_remembers_51 ?_
              refine g_icmpN_ge C i 35 (by omega) (by omega) (tgt := 82) (by decide) dX5_remembers_53 (fun h53 => ?_) (fun h53 => ?_)
              ·
                have hiN : 35 = i := by omega
                subst hiN
                refine g_aload_n C 1 rfl rfl dX5_remembers_82 ?_
                refine g_dup C rfl dX5_remembers_83 ?_
                refine g_getI C (j := 3) cls5 e_44 rfl (by decide) fl_X5_40 dX5_remembers_84 ?_
                refine g_top (y := (nI 4)) rfl ?_
                refine g_iconst C (v := (nI 1)) (by decide) dX5_remembers_87 ?_
                refine g_iadd C dX5_remembers_88 ?_
                refine g_top (y := (nI 5)) (nI_add 4 1) ?_
                refine g_putI C (j := 3) cls5 e_44 rfl (by decide) rfl rfl fl_X5_40 dX5_remembers_89 ?_
                refine g_sgE (sg' := (us (us (us (us sg 47 (fw 0 (fun j => sg 47 (j + 35)) (sg 47) 140)) 44 (upd (sg 44) 3 (nI 4))) 47 (fw 140 (fun j => sg 46 (j - 140)) (fw 0 (fun j => sg 47 (j + 35)) (sg 47) 140) 35)) 44 (upd (upd (sg 44) 3 (nI 4)) 3 (nI 5)))) rfl ?_
                exact g_vret C E dX5_remembers_92 (by
        intro k j hj
        by_cases h47 : k = 47
        · subst h47
          show fw 140 (fun j => sg 46 (j - 140)) (fw 0 (fun j => sg 47 (j + 35)) (sg 47) 140) 35 j = pastP (sg 47) (sg 46) 5 j
          unfold pastP fw
          have hj2 : j < 175 := hj
          rw [if_pos rfl]
          by_cases h1 : j < 140
          · rw [if_neg (by omega), if_pos (by omega), if_pos h1]
          · rw [if_pos (by omega), if_neg h1]
        · by_cases h44 : k = 44
          · subst h44
            show upd (upd (sg 44) 3 (nI 4)) 3 (nI 5) j = upd (sg 44) 3 (nI 5) j
            unfold upd
            by_cases h : j = 3 <;> simp [h]
          · simp [us, h47, h44]) rfl
              ·
                refine g_aload_n C 1 rfl rfl dX5_remembers_56 ?_
                refine g_getR C (j := 2) cls5 e_44 rfl (by decide) fl_X5_16 dX5_remembers_57 ?_
                refine g_bipush C (v := (nI 35)) (by decide) dX5_remembers_60 ?_
                refine g_aload_n C 1 rfl rfl dX5_remembers_62 ?_
                refine g_getI C (j := 3) cls5 e_44 rfl (by decide) fl_X5_40 dX5_remembers_63 ?_
                refine g_top (y := (nI 4)) rfl ?_
                refine g_imul C dX5_remembers_66 ?_
                refine g_top (y := (nI 140)) (pk_mul 35 4) ?_
                refine g_iload_n C 0 rfl rfl dX5_remembers_67 ?_
                refine g_iadd C dX5_remembers_68 ?_
                refine g_top (y := (nI (140 + i))) (nI_add 140 i) ?_
                refine g_aload_n C 1 rfl rfl dX5_remembers_69 ?_
                refine g_getR C (j := 1) cls5 e_44 rfl (by decide) fl_X5_13 dX5_remembers_70 ?_
                refine g_iload_n C 0 rfl rfl dX5_remembers_73 ?_
                refine g_ialdN C i e_46 (by omega) (by decide) dX5_remembers_74 ?_
                refine g_top (y := (sg 46 i)) rfl ?_
                refine g_iastN C (140 + i) e_47 (by omega) (by decide) dX5_remembers_75 ?_
                refine g_sgE (sg' := (us (us (us sg 47 (fw 0 (fun j => sg 47 (j + 35)) (sg 47) 140)) 44 (upd (sg 44) 3 (nI 4))) 47 (upd (fw 140 (fun j => sg 46 (j - 140)) (fw 0 (fun j => sg 47 (j + 35)) (sg 47) 140) i) (140 + i) (sg 46 i)))) us_us ?_
                refine g_iinc C (n := 1) (v := (nI (i + 1))) (L' := [(1, .int (nI (i + 1))), (0, .ref (ad w 44))]) 0 rfl (nI_add i 1) (by decide) rfl dX5_remembers_76 ?_
                refine g_goto C (tgt := 50) (by decide) dX5_remembers_79 ?_
                refine g_sub (L' := [(1, .int (nI (i + 1))), (0, .ref (ad w 44))]) [0, 1] rfl ?_
                refine g_sgE (sg' := (us (us (us sg 47 (fw 0 (fun j => sg 47 (j + 35)) (sg 47) 140)) 44 (upd (sg 44) 3 (nI 4))) 47 (fw 140 (fun j => sg 46 (j - 140)) (fw 0 (fun j => sg 47 (j + 35)) (sg 47) 140) (i + 1)))) (congrArg (us _ 47) (fw_s (by rw [Nat.add_sub_cancel_left]))) ?_
                exact ihlpb (i + 1)  (by omega) (by omega) trivial
          refine g_sgE (sg' := (us (us (us sg 47 (fw 0 (fun j => sg 47 (j + 35)) (sg 47) 140)) 44 (upd (sg 44) 3 (nI 4))) 47 (fw 140 (fun j => sg 46 (j - 140)) (fw 0 (fun j => sg 47 (j + 35)) (sg 47) 140) 0))) (by rw [fw_0]; exact (us_id (sg := us _ 44 _)).symm) ?_
          exact lpb (35 + 1) 0  (by omega) (by omega) trivial
        ·
          refine g_aload_n C 1 rfl rfl dX5_remembers_17 ?_
          refine g_getR C (j := 2) cls5 e_44 rfl (by decide) fl_X5_16 dX5_remembers_18 ?_
          refine g_iload_n C 0 rfl rfl dX5_remembers_21 ?_
          refine g_aload_n C 1 rfl rfl dX5_remembers_22 ?_
          refine g_getR C (j := 2) cls5 e_44 rfl (by decide) fl_X5_16 dX5_remembers_23 ?_
          refine g_iload_n C 0 rfl rfl dX5_remembers_26 ?_
          refine g_bipush C (v := (nI 35)) (by decide) dX5_remembers_27 ?_
          refine g_iadd C dX5_remembers_29 ?_
          refine g_top (y := (nI (i + 35))) (nI_add i 35) ?_
          refine g_ialdN C (i + 35) e_47 (by omega) (by decide) dX5_remembers_30 ?_
          refine g_top (y := ((fw 0 (fun j => sg 47 (j + 35)) (sg 47) i) (i + 35))) rfl ?_
          refine g_iastN C i e_47 (by omega) (by decide) dX5_remembers_31 ?_
          refine g_sgE (sg' := (us sg 47 (upd (fw 0 (fun j => sg 47 (j + 35)) (sg 47) i) i ((fw 0 (fun j => sg 47 (j + 35)) (sg 47) i) (i + 35))))) us_us ?_
          refine g_iinc C (n := 1) (v := (nI (i + 1))) (L' := [(1, .int (nI (i + 1))), (0, .ref (ad w 44))]) 0 rfl (nI_add i 1) (by decide) rfl dX5_remembers_32 ?_
          refine g_goto C (tgt := 10) (by decide) dX5_remembers_35 ?_
          refine g_sub (L' := [(1, .int (nI (i + 1))), (0, .ref (ad w 44))]) [0, 1] rfl ?_
          refine g_sgE (sg' := (us sg 47 (fw 0 (fun j => sg 47 (j + 35)) (sg 47) (i + 1)))) (congrArg (us sg 47) (fw_s0 (fw_out (by omega)))) ?_
          exact ihlpa (i + 1)  (by omega) (by omega) trivial
    refine g_sgE (sg' := (us sg 47 (fw 0 (fun j => sg 47 (j + 35)) (sg 47) 0))) (by rw [fw_0, us_id]) ?_
    exact lpa (140 + 1) 0  (by omega) (by omega) trivial
