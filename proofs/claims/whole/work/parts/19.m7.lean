set_option maxRecDepth 100000 in
set_option maxHeartbeats 400000 in
theorem c_X5_laysPlan_0 (w : GW) (tu : Int64) (sg : Sg) (n : Nat) (hn : n ≤ 999999) : Kt w yX5_laysPlan cX5_laysPlan 9 (some .int) 0 [.ref (ad w 44), .int (nI n), .int (nI 0)] sg tu (some (.int (nI (smP 0 n 7)))) (us sg 52 (fun k => pI 0 (mkP 0 n k))) tu := by
  refine Kt.of2 RX5 rfl [(0, .ref (ad w 44)), (1, .int (nI n)), (2, .int (nI 0))] (by decide) rfl (Nat.le_of_ble_eq_true rfl) (fun z C E => ?_)
  refine g_iload_n C 1 rfl rfl dX5_laysPlan_0 ?_
  refine g_istore_n C (L' := [(3, .int (nI n)), (0, .ref (ad w 44)), (1, .int (nI n)), (2, .int (nI 0))]) rfl (by decide) rfl dX5_laysPlan_1 ?_
  refine g_iconst C (v := (nI 0)) (by decide) dX5_laysPlan_2 ?_
  refine g_istore C (L' := [(4, .int (nI 0)), (3, .int (nI n)), (0, .ref (ad w 44)), (1, .int (nI n)), (2, .int (nI 0))]) (by decide) rfl dX5_laysPlan_3 ?_
  refine g_iconst C (v := (nI 0)) (by decide) dX5_laysPlan_5 ?_
  refine g_istore C (L' := [(5, .int (nI 0)), (4, .int (nI 0)), (3, .int (nI n)), (0, .ref (ad w 44)), (1, .int (nI n)), (2, .int (nI 0))]) (by decide) rfl dX5_laysPlan_6 ?_
  refine g_iconst C (v := (nI 0)) (by decide) dX5_laysPlan_8 ?_
  refine g_istore C (L' := [(6, .int (nI 0)), (5, .int (nI 0)), (4, .int (nI 0)), (3, .int (nI n)), (0, .ref (ad w 44)), (1, .int (nI n)), (2, .int (nI 0))]) (by decide) rfl dX5_laysPlan_9 ?_
  have lp : ∀ (nf i : Nat) (lf : Nat) (du : Nat) (sm : Nat), 7 < i + nf → i ≤ 7 → (lf + du = mkP 0 n i ∧ du ≤ 1 ∧ lf ≤ 999999 ∧ sm = smP 0 n i ∧ (0 = 0 → du = 0)) → G z w 9 (us sg 52 (fw 0 (fun k => pI 0 (mkP 0 n k)) (sg 52) i)) tu 11 [(6, .int (nI i)), (5, .int (nI sm)), (4, .int (nI du)), (3, .int (nI lf)), (0, .ref (ad w 44)), (1, .int (nI n)), (2, .int (nI 0))] [] := by
    intro nf
    induction nf with
    | zero => intro i lf du sm h1 h2 hI; exact absurd h1 (by omega)
    | succ nf ihlp =>
      intro i lf du sm h1 h2 hI
      have hsm9 := smP_le (how := 0) (n := n) i
      refine g_iload C 0 rfl dX5_laysPlan_11 ?_
      refine g_bipush C (v := (nI 7)) (by decide) dX5_laysPlan_13 ?_
      refine g_icmpN_ge C i 7 (by omega) (by omega) (tgt := 123) (by decide) dX5_laysPlan_15 (fun h15 => ?_) (fun h15 => ?_)
      ·
        have hiN : 7 = i := by omega
        subst hiN
        refine g_iload C 1 rfl dX5_laysPlan_123 ?_
        exact g_iret C E dX5_laysPlan_125 (by rw [hI.2.2.2.1]) (Sq.us fun j hj => fw_in ⟨Nat.zero_le _, by rw [Nat.zero_add]; exact hj⟩) rfl
      ·
        refine g_iload_n C 3 rfl rfl dX5_laysPlan_18 ?_
        refine g_bipush C (v := (nI 10)) (by decide) dX5_laysPlan_19 ?_
        refine g_irem C (by decide) dX5_laysPlan_21 ?_
        refine g_top (y := (nI (lf % 10))) (pk_rem (show lf < 2 ^ 31 by omega) (by decide) (by decide)) ?_
        refine g_iload C 2 rfl dX5_laysPlan_22 ?_
        refine g_iadd C dX5_laysPlan_24 ?_
        refine g_top (y := (nI ((lf % 10) + du))) (nI_add (lf % 10) du) ?_
        refine g_istore C (L' := [(7, .int (nI ((lf % 10) + du))), (6, .int (nI i)), (5, .int (nI sm)), (4, .int (nI du)), (3, .int (nI lf)), (0, .ref (ad w 44)), (1, .int (nI n)), (2, .int (nI 0))]) (by decide) rfl dX5_laysPlan_25 ?_
        refine g_iload_n C 4 rfl rfl dX5_laysPlan_27 ?_
        refine g_bipush C (v := (nI 10)) (by decide) dX5_laysPlan_28 ?_
        refine g_idiv C (by decide) dX5_laysPlan_30 ?_
        refine g_top (y := (nI (lf / 10))) (pk_div (show lf < 2 ^ 31 by omega) (by decide) (by decide)) ?_
        refine g_istore_n C (L' := [(3, .int (nI (lf / 10))), (7, .int (nI ((lf % 10) + du))), (6, .int (nI i)), (5, .int (nI sm)), (4, .int (nI du)), (0, .ref (ad w 44)), (1, .int (nI n)), (2, .int (nI 0))]) rfl (by decide) rfl dX5_laysPlan_31 ?_
        refine g_iload_n C 7 rfl rfl dX5_laysPlan_32 ?_
        refine g_iconst C (v := (nI 1)) (by decide) dX5_laysPlan_33 ?_
        refine g_icmpN_ne C 0 1 (by omega) (by omega) (tgt := 47) (by decide) dX5_laysPlan_34 (fun h34 => ?_) (fun h34 => absurd h34 (by decide))
        refine g_iconst C (v := (nI 0)) (by decide) dX5_laysPlan_47 ?_
        refine g_istore C (L' := [(8, .int (nI 0)), (3, .int (nI (lf / 10))), (7, .int (nI ((lf % 10) + du))), (6, .int (nI i)), (5, .int (nI sm)), (4, .int (nI du)), (0, .ref (ad w 44)), (1, .int (nI n)), (2, .int (nI 0))]) (by decide) rfl dX5_laysPlan_48 ?_
        refine g_iload C 0 rfl dX5_laysPlan_50 ?_
        refine g_if_eq C (tgt := 59) (by decide) dX5_laysPlan_52 (fun h52 => ?_) (fun h52 => absurd h52 (by decide))
        refine g_iconst C (v := (nI 0)) (by decide) dX5_laysPlan_59 ?_
        refine g_istore C (L' := [(4, .int (nI 0)), (8, .int (nI 0)), (3, .int (nI (lf / 10))), (7, .int (nI ((lf % 10) + du))), (6, .int (nI i)), (5, .int (nI sm)), (0, .ref (ad w 44)), (1, .int (nI n)), (2, .int (nI 0))]) (by decide) rfl dX5_laysPlan_60 ?_
        refine g_aload_n C 6 rfl rfl dX5_laysPlan_62 ?_
        refine g_getR C (j := 9) cls5 e_44 rfl (by decide) fl_X5_31 dX5_laysPlan_63 ?_
        refine g_iload C 4 rfl dX5_laysPlan_66 ?_
        refine g_iload C 1 rfl dX5_laysPlan_68 ?_
        refine g_if_eq C (tgt := 81) (by decide) dX5_laysPlan_70 (fun h70 => ?_) (fun h70 => absurd h70 (by decide))
        refine g_iload C 3 rfl dX5_laysPlan_81 ?_
        refine g_iastN C i e_52 (by omega) (by decide) dX5_laysPlan_83 ?_
        refine g_sgE (sg' := (us sg 52 (upd (fw 0 (fun k => pI 0 (mkP 0 n k)) (sg 52) i) i (nI ((lf % 10) + du))))) us_us ?_
        refine g_iload C 5 rfl dX5_laysPlan_84 ?_
        refine g_aload_n C 6 rfl rfl dX5_laysPlan_86 ?_
        refine g_getR C (j := 9) cls5 e_44 rfl (by decide) fl_X5_31 dX5_laysPlan_87 ?_
        refine g_iload C 4 rfl dX5_laysPlan_90 ?_
        refine g_ialdN C i e_52 (by omega) (by decide) dX5_laysPlan_92 ?_
        refine g_top (y := (nI ((lf % 10) + du))) (show upd _ _ _ _ = _ from upd_same) ?_
        refine g_if_ge C (tgt := 107) (by decide) dX5_laysPlan_93 (fun h93 => ?_) (fun h93 => absurd (nI_pos' (by omega)) h93)
        refine g_aload_n C 6 rfl rfl dX5_laysPlan_107 ?_
        refine g_getR C (j := 9) cls5 e_44 rfl (by decide) fl_X5_31 dX5_laysPlan_108 ?_
        refine g_iload C 4 rfl dX5_laysPlan_111 ?_
        refine g_ialdN C i e_52 (by omega) (by decide) dX5_laysPlan_113 ?_
        refine g_top (y := (nI ((lf % 10) + du))) (show upd _ _ _ _ = _ from upd_same) ?_
        refine g_iadd C dX5_laysPlan_114 ?_
        refine g_top (y := (nI (sm + ((lf % 10) + du)))) (nI_add sm ((lf % 10) + du)) ?_
        refine g_istore C (L' := [(5, .int (nI (sm + ((lf % 10) + du)))), (4, .int (nI 0)), (8, .int (nI 0)), (3, .int (nI (lf / 10))), (7, .int (nI ((lf % 10) + du))), (6, .int (nI i)), (0, .ref (ad w 44)), (1, .int (nI n)), (2, .int (nI 0))]) (by decide) rfl dX5_laysPlan_115 ?_
        refine g_iinc C (n := 1) (v := (nI (i + 1))) (L' := [(6, .int (nI (i + 1))), (5, .int (nI (sm + ((lf % 10) + du)))), (4, .int (nI 0)), (8, .int (nI 0)), (3, .int (nI (lf / 10))), (7, .int (nI ((lf % 10) + du))), (0, .ref (ad w 44)), (1, .int (nI n)), (2, .int (nI 0))]) 5 rfl (nI_add i 1) (by decide) rfl dX5_laysPlan_117 ?_
        refine g_goto C (tgt := 11) (by decide) dX5_laysPlan_120 ?_
        have hpl := plan_not (how := 0) (lf := lf) (du := du) (fun q => absurd q (by decide)) (by have := hI.2.2.2.2 rfl; omega)
        refine g_sub (L' := [(6, .int (nI (i + 1))), (5, .int (nI (sm + ((lf % 10) + du)))), (4, .int (nI 0)), (3, .int (nI (lf / 10))), (0, .ref (ad w 44)), (1, .int (nI n)), (2, .int (nI 0))]) [0, 1, 2, 4, 6, 7, 8] rfl ?_
        refine g_sgE (sg' := (us sg 52 (fw 0 (fun k => pI 0 (mkP 0 n k)) (sg 52) (i + 1)))) (congrArg (us sg 52) (fw_s0 (by show _ = pI 0 (mkP 0 n i); rw [← hI.1, hpl.1]))) ?_
        exact ihlp (i + 1) (lf / 10) 0 (sm + ((lf % 10) + du)) (by omega) (by omega) (⟨by show _ = nxP 0 (mkP 0 n i); rw [← hI.1]; exact hpl.2.2.symm, by omega, by omega, by show _ = smP 0 n i + aP 0 (mkP 0 n i); rw [← hI.1, hpl.2.1, ← hI.2.2.2.1], fun _ => rfl⟩)
  refine g_sgE (sg' := (us sg 52 (fw 0 (fun k => pI 0 (mkP 0 n k)) (sg 52) 0))) (by rw [fw_0, us_id]) ?_
  exact lp (7 + 1) 0 n 0 0 (by omega) (by omega) (⟨rfl, by omega, hn, rfl, fun _ => rfl⟩)
set_option maxRecDepth 100000 in
set_option maxHeartbeats 400000 in
theorem c_X5_laysPlan_1 (w : GW) (tu : Int64) (sg : Sg) (n : Nat) (hn : n ≤ 999999) : Kt w yX5_laysPlan cX5_laysPlan 9 (some .int) 0 [.ref (ad w 44), .int (nI n), .int (nI 1)] sg tu (some (.int (nI (smP 1 n 7)))) (us sg 52 (fun k => pI 1 (mkP 1 n k))) tu := by
  refine Kt.of2 RX5 rfl [(0, .ref (ad w 44)), (1, .int (nI n)), (2, .int (nI 1))] (by decide) rfl (Nat.le_of_ble_eq_true rfl) (fun z C E => ?_)
  refine g_iload_n C 1 rfl rfl dX5_laysPlan_0 ?_
  refine g_istore_n C (L' := [(3, .int (nI n)), (0, .ref (ad w 44)), (1, .int (nI n)), (2, .int (nI 1))]) rfl (by decide) rfl dX5_laysPlan_1 ?_
  refine g_iconst C (v := (nI 0)) (by decide) dX5_laysPlan_2 ?_
  refine g_istore C (L' := [(4, .int (nI 0)), (3, .int (nI n)), (0, .ref (ad w 44)), (1, .int (nI n)), (2, .int (nI 1))]) (by decide) rfl dX5_laysPlan_3 ?_
  refine g_iconst C (v := (nI 0)) (by decide) dX5_laysPlan_5 ?_
  refine g_istore C (L' := [(5, .int (nI 0)), (4, .int (nI 0)), (3, .int (nI n)), (0, .ref (ad w 44)), (1, .int (nI n)), (2, .int (nI 1))]) (by decide) rfl dX5_laysPlan_6 ?_
  refine g_iconst C (v := (nI 0)) (by decide) dX5_laysPlan_8 ?_
  refine g_istore C (L' := [(6, .int (nI 0)), (5, .int (nI 0)), (4, .int (nI 0)), (3, .int (nI n)), (0, .ref (ad w 44)), (1, .int (nI n)), (2, .int (nI 1))]) (by decide) rfl dX5_laysPlan_9 ?_
  have lp : ∀ (nf i : Nat) (lf : Nat) (du : Nat) (sm : Nat), 7 < i + nf → i ≤ 7 → (lf + du = mkP 1 n i ∧ du ≤ 1 ∧ lf ≤ 999999 ∧ sm = smP 1 n i ∧ (1 = 0 → du = 0)) → G z w 9 (us sg 52 (fw 0 (fun k => pI 1 (mkP 1 n k)) (sg 52) i)) tu 11 [(6, .int (nI i)), (5, .int (nI sm)), (4, .int (nI du)), (3, .int (nI lf)), (0, .ref (ad w 44)), (1, .int (nI n)), (2, .int (nI 1))] [] := by
    intro nf
    induction nf with
    | zero => intro i lf du sm h1 h2 hI; exact absurd h1 (by omega)
    | succ nf ihlp =>
      intro i lf du sm h1 h2 hI
      have hsm9 := smP_le (how := 1) (n := n) i
      refine g_iload C 0 rfl dX5_laysPlan_11 ?_
      refine g_bipush C (v := (nI 7)) (by decide) dX5_laysPlan_13 ?_
      refine g_icmpN_ge C i 7 (by omega) (by omega) (tgt := 123) (by decide) dX5_laysPlan_15 (fun h15 => ?_) (fun h15 => ?_)
      ·
        have hiN : 7 = i := by omega
        subst hiN
        refine g_iload C 1 rfl dX5_laysPlan_123 ?_
        exact g_iret C E dX5_laysPlan_125 (by rw [hI.2.2.2.1]) (Sq.us fun j hj => fw_in ⟨Nat.zero_le _, by rw [Nat.zero_add]; exact hj⟩) rfl
      ·
        refine g_iload_n C 3 rfl rfl dX5_laysPlan_18 ?_
        refine g_bipush C (v := (nI 10)) (by decide) dX5_laysPlan_19 ?_
        refine g_irem C (by decide) dX5_laysPlan_21 ?_
        refine g_top (y := (nI (lf % 10))) (pk_rem (show lf < 2 ^ 31 by omega) (by decide) (by decide)) ?_
        refine g_iload C 2 rfl dX5_laysPlan_22 ?_
        refine g_iadd C dX5_laysPlan_24 ?_
        refine g_top (y := (nI ((lf % 10) + du))) (nI_add (lf % 10) du) ?_
        refine g_istore C (L' := [(7, .int (nI ((lf % 10) + du))), (6, .int (nI i)), (5, .int (nI sm)), (4, .int (nI du)), (3, .int (nI lf)), (0, .ref (ad w 44)), (1, .int (nI n)), (2, .int (nI 1))]) (by decide) rfl dX5_laysPlan_25 ?_
        refine g_iload_n C 4 rfl rfl dX5_laysPlan_27 ?_
        refine g_bipush C (v := (nI 10)) (by decide) dX5_laysPlan_28 ?_
        refine g_idiv C (by decide) dX5_laysPlan_30 ?_
        refine g_top (y := (nI (lf / 10))) (pk_div (show lf < 2 ^ 31 by omega) (by decide) (by decide)) ?_
        refine g_istore_n C (L' := [(3, .int (nI (lf / 10))), (7, .int (nI ((lf % 10) + du))), (6, .int (nI i)), (5, .int (nI sm)), (4, .int (nI du)), (0, .ref (ad w 44)), (1, .int (nI n)), (2, .int (nI 1))]) rfl (by decide) rfl dX5_laysPlan_31 ?_
        refine g_iload_n C 7 rfl rfl dX5_laysPlan_32 ?_
        refine g_iconst C (v := (nI 1)) (by decide) dX5_laysPlan_33 ?_
        refine g_icmpN_ne C 1 1 (by omega) (by omega) (tgt := 47) (by decide) dX5_laysPlan_34 (fun h34 => absurd h34 (by decide)) (fun h34 => ?_)
        refine g_iload C 1 rfl dX5_laysPlan_37 ?_
        refine g_iconst C (v := (nI 5)) (by decide) dX5_laysPlan_39 ?_
        refine g_icmpN_le C ((lf % 10) + du) 5 (by omega) (by omega) (tgt := 47) (by decide) dX5_laysPlan_40 (fun h40 => ?_) (fun h40 => ?_)
        ·
          refine g_iconst C (v := (nI 0)) (by decide) dX5_laysPlan_47 ?_
          refine g_istore C (L' := [(8, .int (nI 0)), (3, .int (nI (lf / 10))), (7, .int (nI ((lf % 10) + du))), (6, .int (nI i)), (5, .int (nI sm)), (4, .int (nI du)), (0, .ref (ad w 44)), (1, .int (nI n)), (2, .int (nI 1))]) (by decide) rfl dX5_laysPlan_48 ?_
          refine g_iload C 0 rfl dX5_laysPlan_50 ?_
          refine g_if_eq C (tgt := 59) (by decide) dX5_laysPlan_52 (fun h52 => ?_) (fun h52 => absurd h52 (by decide))
          refine g_iconst C (v := (nI 0)) (by decide) dX5_laysPlan_59 ?_
          refine g_istore C (L' := [(4, .int (nI 0)), (8, .int (nI 0)), (3, .int (nI (lf / 10))), (7, .int (nI ((lf % 10) + du))), (6, .int (nI i)), (5, .int (nI sm)), (0, .ref (ad w 44)), (1, .int (nI n)), (2, .int (nI 1))]) (by decide) rfl dX5_laysPlan_60 ?_
          refine g_aload_n C 6 rfl rfl dX5_laysPlan_62 ?_
          refine g_getR C (j := 9) cls5 e_44 rfl (by decide) fl_X5_31 dX5_laysPlan_63 ?_
          refine g_iload C 4 rfl dX5_laysPlan_66 ?_
          refine g_iload C 1 rfl dX5_laysPlan_68 ?_
          refine g_if_eq C (tgt := 81) (by decide) dX5_laysPlan_70 (fun h70 => ?_) (fun h70 => absurd h70 (by decide))
          refine g_iload C 3 rfl dX5_laysPlan_81 ?_
          refine g_iastN C i e_52 (by omega) (by decide) dX5_laysPlan_83 ?_
          refine g_sgE (sg' := (us sg 52 (upd (fw 0 (fun k => pI 1 (mkP 1 n k)) (sg 52) i) i (nI ((lf % 10) + du))))) us_us ?_
          refine g_iload C 5 rfl dX5_laysPlan_84 ?_
          refine g_aload_n C 6 rfl rfl dX5_laysPlan_86 ?_
          refine g_getR C (j := 9) cls5 e_44 rfl (by decide) fl_X5_31 dX5_laysPlan_87 ?_
          refine g_iload C 4 rfl dX5_laysPlan_90 ?_
          refine g_ialdN C i e_52 (by omega) (by decide) dX5_laysPlan_92 ?_
          refine g_top (y := (nI ((lf % 10) + du))) (show upd _ _ _ _ = _ from upd_same) ?_
          refine g_if_ge C (tgt := 107) (by decide) dX5_laysPlan_93 (fun h93 => ?_) (fun h93 => absurd (nI_pos' (by omega)) h93)
          refine g_aload_n C 6 rfl rfl dX5_laysPlan_107 ?_
          refine g_getR C (j := 9) cls5 e_44 rfl (by decide) fl_X5_31 dX5_laysPlan_108 ?_
          refine g_iload C 4 rfl dX5_laysPlan_111 ?_
          refine g_ialdN C i e_52 (by omega) (by decide) dX5_laysPlan_113 ?_
          refine g_top (y := (nI ((lf % 10) + du))) (show upd _ _ _ _ = _ from upd_same) ?_
          refine g_iadd C dX5_laysPlan_114 ?_
          refine g_top (y := (nI (sm + ((lf % 10) + du)))) (nI_add sm ((lf % 10) + du)) ?_
          refine g_istore C (L' := [(5, .int (nI (sm + ((lf % 10) + du)))), (4, .int (nI 0)), (8, .int (nI 0)), (3, .int (nI (lf / 10))), (7, .int (nI ((lf % 10) + du))), (6, .int (nI i)), (0, .ref (ad w 44)), (1, .int (nI n)), (2, .int (nI 1))]) (by decide) rfl dX5_laysPlan_115 ?_
          refine g_iinc C (n := 1) (v := (nI (i + 1))) (L' := [(6, .int (nI (i + 1))), (5, .int (nI (sm + ((lf % 10) + du)))), (4, .int (nI 0)), (8, .int (nI 0)), (3, .int (nI (lf / 10))), (7, .int (nI ((lf % 10) + du))), (0, .ref (ad w 44)), (1, .int (nI n)), (2, .int (nI 1))]) 5 rfl (nI_add i 1) (by decide) rfl dX5_laysPlan_117 ?_
          refine g_goto C (tgt := 11) (by decide) dX5_laysPlan_120 ?_
          have hpl := plan_not (how := 1) (lf := lf) (du := du) (fun _ => by omega) (by omega)
          refine g_sub (L' := [(6, .int (nI (i + 1))), (5, .int (nI (sm + ((lf % 10) + du)))), (4, .int (nI 0)), (3, .int (nI (lf / 10))), (0, .ref (ad w 44)), (1, .int (nI n)), (2, .int (nI 1))]) [0, 1, 2, 4, 6, 7, 8] rfl ?_
          refine g_sgE (sg' := (us sg 52 (fw 0 (fun k => pI 1 (mkP 1 n k)) (sg 52) (i + 1)))) (congrArg (us sg 52) (fw_s0 (by show _ = pI 1 (mkP 1 n i); rw [← hI.1, hpl.1]))) ?_
          exact ihlp (i + 1) (lf / 10) 0 (sm + ((lf % 10) + du)) (by omega) (by omega) (⟨by show _ = nxP 1 (mkP 1 n i); rw [← hI.1]; exact hpl.2.2.symm, by omega, by omega, by show _ = smP 1 n i + aP 1 (mkP 1 n i); rw [← hI.1, hpl.2.1, ← hI.2.2.2.1], fun _ => rfl⟩)
        ·
          refine g_iconst C (v := (nI 1)) (by decide) dX5_laysPlan_43 ?_
          refine g_goto C (tgt := 48) (by decide) dX5_laysPlan_44 ?_
          refine g_istore C (L' := [(8, .int (nI 1)), (3, .int (nI (lf / 10))), (7, .int (nI ((lf % 10) + du))), (6, .int (nI i)), (5, .int (nI sm)), (4, .int (nI du)), (0, .ref (ad w 44)), (1, .int (nI n)), (2, .int (nI 1))]) (by decide) rfl dX5_laysPlan_48 ?_
          refine g_iload C 0 rfl dX5_laysPlan_50 ?_
          refine g_if_eq C (tgt := 59) (by decide) dX5_laysPlan_52 (fun h52 => absurd h52 (by decide)) (fun h52 => ?_)
          refine g_iconst C (v := (nI 1)) (by decide) dX5_laysPlan_55 ?_
          refine g_goto C (tgt := 60) (by decide) dX5_laysPlan_56 ?_
          refine g_istore C (L' := [(4, .int (nI 1)), (8, .int (nI 1)), (3, .int (nI (lf / 10))), (7, .int (nI ((lf % 10) + du))), (6, .int (nI i)), (5, .int (nI sm)), (0, .ref (ad w 44)), (1, .int (nI n)), (2, .int (nI 1))]) (by decide) rfl dX5_laysPlan_60 ?_
          refine g_aload_n C 6 rfl rfl dX5_laysPlan_62 ?_
          refine g_getR C (j := 9) cls5 e_44 rfl (by decide) fl_X5_31 dX5_laysPlan_63 ?_
          refine g_iload C 4 rfl dX5_laysPlan_66 ?_
          refine g_iload C 1 rfl dX5_laysPlan_68 ?_
          refine g_if_eq C (tgt := 81) (by decide) dX5_laysPlan_70 (fun h70 => absurd h70 (by decide)) (fun h70 => ?_)
          refine g_iload C 3 rfl dX5_laysPlan_73 ?_
          refine g_bipush C (v := (nI 10)) (by decide) dX5_laysPlan_75 ?_
          refine g_isub C dX5_laysPlan_77 ?_
          refine g_goto C (tgt := 83) (by decide) dX5_laysPlan_78 ?_
          refine g_iastN C i e_52 (by omega) (by decide) dX5_laysPlan_83 ?_
          refine g_sgE (sg' := (us sg 52 (upd (fw 0 (fun k => pI 1 (mkP 1 n k)) (sg 52) i) i ((nI ((lf % 10) + du)) - (nI 10))))) us_us ?_
          refine g_iload C 5 rfl dX5_laysPlan_84 ?_
          refine g_aload_n C 6 rfl rfl dX5_laysPlan_86 ?_
          refine g_getR C (j := 9) cls5 e_44 rfl (by decide) fl_X5_31 dX5_laysPlan_87 ?_
          refine g_iload C 4 rfl dX5_laysPlan_90 ?_
          refine g_ialdN C i e_52 (by omega) (by decide) dX5_laysPlan_92 ?_
          refine g_top (y := ((nI ((lf % 10) + du)) - (nI 10))) (show upd _ _ _ _ = _ from upd_same) ?_
          refine g_if_ge C (tgt := 107) (by decide) dX5_laysPlan_93 (fun h93 => ?_) (fun h93 => ?_)
          ·
            refine g_aload_n C 6 rfl rfl dX5_laysPlan_107 ?_
            refine g_getR C (j := 9) cls5 e_44 rfl (by decide) fl_X5_31 dX5_laysPlan_108 ?_
            refine g_iload C 4 rfl dX5_laysPlan_111 ?_
            refine g_ialdN C i e_52 (by omega) (by decide) dX5_laysPlan_113 ?_
            refine g_top (y := ((nI ((lf % 10) + du)) - (nI 10))) (show upd _ _ _ _ = _ from upd_same) ?_
            have hfg : lf % 10 + du = 10 := by
              have h9 := (ng_nI (lf % 10 + du) (by omega) h40).1
              have h8 : ¬ (nI (lf % 10 + du) - nI 10 < 0) := fun q => absurd h93 (Int32.not_le.mpr q)
              have h7 : ¬ (lf % 10 + du < 10) := fun q => h8 (h9.mpr q)
              omega
            refine g_top (y := nI (10 - (lf % 10 + du))) (by rw [hfg]; decide) ?_
            refine g_iadd C dX5_laysPlan_114 ?_
            refine g_top (y := (nI (sm + (10 - (lf % 10 + du))))) (nI_add sm (10 - (lf % 10 + du))) ?_
            refine g_istore C (L' := [(5, .int (nI (sm + (10 - (lf % 10 + du))))), (4, .int (nI 1)), (8, .int (nI 1)), (3, .int (nI (lf / 10))), (7, .int (nI ((lf % 10) + du))), (6, .int (nI i)), (0, .ref (ad w 44)), (1, .int (nI n)), (2, .int (nI 1))]) (by decide) rfl dX5_laysPlan_115 ?_
            refine g_iinc C (n := 1) (v := (nI (i + 1))) (L' := [(6, .int (nI (i + 1))), (5, .int (nI (sm + (10 - (lf % 10 + du))))), (4, .int (nI 1)), (8, .int (nI 1)), (3, .int (nI (lf / 10))), (7, .int (nI ((lf % 10) + du))), (0, .ref (ad w 44)), (1, .int (nI n)), (2, .int (nI 1))]) 5 rfl (nI_add i 1) (by decide) rfl dX5_laysPlan_117 ?_
            refine g_goto C (tgt := 11) (by decide) dX5_laysPlan_120 ?_
            have hpl := plan_ov h40 hI.2.1
            refine g_sub (L' := [(6, .int (nI (i + 1))), (5, .int (nI (sm + (10 - (lf % 10 + du))))), (4, .int (nI 1)), (3, .int (nI (lf / 10))), (0, .ref (ad w 44)), (1, .int (nI n)), (2, .int (nI 1))]) [0, 1, 2, 4, 6, 7, 8] rfl ?_
            refine g_sgE (sg' := (us sg 52 (fw 0 (fun k => pI 1 (mkP 1 n k)) (sg 52) (i + 1)))) (congrArg (us sg 52) (fw_s0 (by show _ = pI 1 (mkP 1 n i); rw [← hI.1, hpl.1]))) ?_
            exact ihlp (i + 1) (lf / 10) 1 (sm + (10 - (lf % 10 + du))) (by omega) (by omega) (⟨by show _ = nxP 1 (mkP 1 n i); rw [← hI.1]; exact hpl.2.2.symm, Nat.le_refl _, by omega, by show _ = smP 1 n i + aP 1 (mkP 1 n i); rw [← hI.1, hpl.2.1, ← hI.2.2.2.1], fun q => absurd q (by decide)⟩)
          ·
            refine g_aload_n C 6 rfl rfl dX5_laysPlan_96 ?_
            refine g_getR C (j := 9) cls5 e_44 rfl (by decide) fl_X5_31 dX5_laysPlan_97 ?_
            refine g_iload C 4 rfl dX5_laysPlan_100 ?_
            refine g_ialdN C i e_52 (by omega) (by decide) dX5_laysPlan_102 ?_
            refine g_top (y := ((nI ((lf % 10) + du)) - (nI 10))) (show upd _ _ _ _ = _ from upd_same) ?_
            refine g_ineg C dX5_laysPlan_103 ?_
            refine g_top (y := nI (10 - (lf % 10 + du))) (ng_nI _ (by omega) h40).2.1 ?_
            refine g_goto C (tgt := 114) (by decide) dX5_laysPlan_104 ?_
            refine g_iadd C dX5_laysPlan_114 ?_
            refine g_top (y := (nI (sm + (10 - (lf % 10 + du))))) (nI_add sm (10 - (lf % 10 + du))) ?_
            refine g_istore C (L' := [(5, .int (nI (sm + (10 - (lf % 10 + du))))), (4, .int (nI 1)), (8, .int (nI 1)), (3, .int (nI (lf / 10))), (7, .int (nI ((lf % 10) + du))), (6, .int (nI i)), (0, .ref (ad w 44)), (1, .int (nI n)), (2, .int (nI 1))]) (by decide) rfl dX5_laysPlan_115 ?_
            refine g_iinc C (n := 1) (v := (nI (i + 1))) (L' := [(6, .int (nI (i + 1))), (5, .int (nI (sm + (10 - (lf % 10 + du))))), (4, .int (nI 1)), (8, .int (nI 1)), (3, .int (nI (lf / 10))), (7, .int (nI ((lf % 10) + du))), (0, .ref (ad w 44)), (1, .int (nI n)), (2, .int (nI 1))]) 5 rfl (nI_add i 1) (by decide) rfl dX5_laysPlan_117 ?_
            refine g_goto C (tgt := 11) (by decide) dX5_laysPlan_120 ?_
            have hpl := plan_ov h40 hI.2.1
            refine g_sub (L' := [(6, .int (nI (i + 1))), (5, .int (nI (sm + (10 - (lf % 10 + du))))), (4, .int (nI 1)), (3, .int (nI (lf / 10))), (0, .ref (ad w 44)), (1, .int (nI n)), (2, .int (nI 1))]) [0, 1, 2, 4, 6, 7, 8] rfl ?_
            refine g_sgE (sg' := (us sg 52 (fw 0 (fun k => pI 1 (mkP 1 n k)) (sg 52) (i + 1)))) (congrArg (us sg 52) (fw_s0 (by show _ = pI 1 (mkP 1 n i); rw [← hI.1, hpl.1]))) ?_
            exact ihlp (i + 1) (lf / 10) 1 (sm + (10 - (lf % 10 + du))) (by omega) (by omega) (⟨by show _ = nxP 1 (mkP 1 n i); rw [← hI.1]; exact hpl.2.2.symm, Nat.le_refl _, by omega, by show _ = smP 1 n i + aP 1 (mkP 1 n i); rw [← hI.1, hpl.2.1, ← hI.2.2.2.1], fun q => absurd q (by decide)⟩)
  refine g_sgE (sg' := (us sg 52 (fw 0 (fun k => pI 1 (mkP 1 n k)) (sg 52) 0))) (by rw [fw_0, us_id]) ?_
  exact lp (7 + 1) 0 n 0 0 (by omega) (by omega) (⟨rfl, by omega, hn, rfl, fun _ => rfl⟩)
set_option maxRecDepth 100000 in
set_option maxHeartbeats 400000 in
theorem c_X5_doesTimes_0 (w : GW) (tu : Int64) (sg : Sg) (n : Nat) (hn : n ≤ 999999) (hok : ROk (sg 45)) : Kt w yX5_doesTimes cX5_doesTimes 9 (some .int) 2 [.ref (ad w 44), .int (nI n), .int (nI 0)] sg tu (some (.int (nI (smP 0 n 7)))) (us (us (us sg 52 (fun k => pI 0 (mkP 0 n k))) 50 (fun d => whX (clR (sg 45) (6 + d)) (dN (clR (sg 45)) d + 1))) 45 (muR 0 n (gN (sg 45)) 6 (clR (sg 45)))) tu := by
  refine Kt.of2 RX5 rfl [(0, .ref (ad w 44)), (1, .int (nI n)), (2, .int (nI 0))] (by decide) rfl (Nat.le_of_ble_eq_true rfl) (fun z C E => ?_)
  refine g_iload_n C 1 rfl rfl dX5_doesTimes_0 ?_
  refine g_i2l C dX5_doesTimes_1 ?_
  refine g_lconst C (v := 0) (by decide) dX5_doesTimes_2 ?_
  refine g_ldc2 C cn_X5_77 dX5_doesTimes_3 ?_
  refine g_callS1 [] C (c_X5_in_t w tu sg (Int32.toInt64 (nI n)) 0 999999 (in_ok (n := 999999) (by omega) (by decide))) mt_X5_in ml_X5_53 st_X5_in (by decide) rfl (Nat.le_of_ble_eq_true rfl) dX5_doesTimes_6 ?_
  refine g_eq (L' := [(0, .ref (ad w 44)), (1, .int (nI n)), (2, .int (nI 0))]) (S' := [.int (nI 1)]) rfl rfl rfl rfl ?_
  refine g_if_eq C (tgt := 22) (by decide) dX5_doesTimes_9 (fun h9 => absurd h9 (by decide)) (fun h9 => ?_)
  refine g_iload_n C 2 rfl rfl dX5_doesTimes_12 ?_
  refine g_i2l C dX5_doesTimes_13 ?_
  refine g_lconst C (v := 0) (by decide) dX5_doesTimes_14 ?_
  refine g_lconst C (v := 1) (by decide) dX5_doesTimes_15 ?_
  refine g_callS1 [] C (c_X5_in_t w tu sg (Int32.toInt64 (nI 0)) 0 1 (in_ok (n := 1) (by omega) (by decide))) mt_X5_in ml_X5_53 st_X5_in (by decide) rfl (Nat.le_of_ble_eq_true rfl) dX5_doesTimes_16 ?_
  refine g_eq (L' := [(0, .ref (ad w 44)), (1, .int (nI n)), (2, .int (nI 0))]) (S' := [.int (nI 1)]) rfl rfl rfl rfl ?_
  refine g_if_ne C (tgt := 25) (by decide) dX5_doesTimes_19 (fun h19 => ?_) (fun h19 => absurd h19 (by decide))
  refine g_aload_n C 0 rfl rfl dX5_doesTimes_25 ?_
  refine g_callV1 [] C (c_X5_clearsAll w tu sg  ) mt_X5_clearsAll e_44 rfl ml_X5_79 im_X5_clearsAll se_X5_clearsAll (by decide) rfl (Nat.le_of_ble_eq_true rfl) dX5_doesTimes_26 ?_
  refine g_eq (sg' := (us sg 45 (fw 24 (fun _ => nI 0) (fw 12 (fun _ => nI 0) (sg 45) 12) 7))) (L' := [(0, .ref (ad w 44)), (1, .int (nI n)), (2, .int (nI 0))]) (S' := [.int (czX (sg 45) (fun _ => nI 0) 12 12)]) rfl rfl rfl rfl ?_
  refine g_sgE (sg' := (us sg 45 (clR (sg 45)))) rfl ?_
  refine g_istore_n C (L' := [(3, .int (czX (sg 45) (fun _ => nI 0) 12 12)), (0, .ref (ad w 44)), (1, .int (nI n)), (2, .int (nI 0))]) rfl (by decide) rfl dX5_doesTimes_29 ?_
  refine g_aload_n C 1 rfl rfl dX5_doesTimes_30 ?_
  refine g_iload_n C 2 rfl rfl dX5_doesTimes_31 ?_
  refine g_iload_n C 3 rfl rfl dX5_doesTimes_32 ?_
  refine g_callV1 [] C (c_X5_laysPlan_0 w tu (us sg 45 (clR (sg 45))) n (by omega)) mt_X5_laysPlan e_44 rfl ml_X5_83 im_X5_laysPlan se_X5_laysPlan (by decide) rfl (Nat.le_of_ble_eq_true rfl) dX5_doesTimes_33 ?_
  refine g_eq (sg' := (us (us sg 45 (clR (sg 45))) 52 (fun k => pI 0 (mkP 0 n k)))) (L' := [(3, .int (czX (sg 45) (fun _ => nI 0) 12 12)), (0, .ref (ad w 44)), (1, .int (nI n)), (2, .int (nI 0))]) (S' := [.int (nI (smP 0 n 7))]) rfl rfl rfl rfl ?_
  refine g_istore C (L' := [(4, .int (nI (smP 0 n 7))), (3, .int (czX (sg 45) (fun _ => nI 0) 12 12)), (0, .ref (ad w 44)), (1, .int (nI n)), (2, .int (nI 0))]) (by decide) rfl dX5_doesTimes_36 ?_
  refine g_aload_n C 2 rfl rfl dX5_doesTimes_38 ?_
  refine g_callV0 [] C (c_X5_laysGives w tu (us (us sg 45 (clR (sg 45))) 52 (fun k => pI 0 (mkP 0 n k)))  (dN (clR (sg 45))) (clR_ok hok).1) mt_X5_laysGives e_44 rfl ml_X5_67 im_X5_laysGives se_X5_laysGives (by decide) rfl (Nat.le_of_ble_eq_true rfl) dX5_doesTimes_39 ?_
  refine g_eq (sg' := (us (us (us sg 45 (clR (sg 45))) 52 (fun k => pI 0 (mkP 0 n k))) 50 (fun d => whX ((clR (sg 45)) (6 + d)) ((dN (clR (sg 45))) d + 1)))) (L' := [(4, .int (nI (smP 0 n 7))), (3, .int (czX (sg 45) (fun _ => nI 0) 12 12)), (0, .ref (ad w 44)), (1, .int (nI n)), (2, .int (nI 0))]) (S' := []) rfl rfl rfl rfl ?_
  refine g_iconst C (v := (nI 0)) (by decide) dX5_doesTimes_42 ?_
  refine g_istore C (L' := [(5, .int (nI 0)), (4, .int (nI (smP 0 n 7))), (3, .int (czX (sg 45) (fun _ => nI 0) 12 12)), (0, .ref (ad w 44)), (1, .int (nI n)), (2, .int (nI 0))]) (by decide) rfl dX5_doesTimes_43 ?_
  have lp : ∀ (nf i : Nat), 6 < i + nf → i ≤ 6 → (True) → G z w 9 (us (us (us sg 52 (fun k => pI 0 (mkP 0 n k))) 50 (fun d => whX (clR (sg 45) (6 + d)) (dN (clR (sg 45)) d + 1))) 45 (muR 0 n (gN (sg 45)) i (clR (sg 45)))) tu 45 [(5, .int (nI i)), (4, .int (nI (smP 0 n 7))), (3, .int (czX (sg 45) (fun _ => nI 0) 12 12)), (0, .ref (ad w 44)), (1, .int (nI n)), (2, .int (nI 0))] [] := by
    intro nf
    induction nf with
    | zero => intro i  h1 h2 hI; exact absurd h1 (by omega)
    | succ nf ihlp =>
      intro i  h1 h2 hI
      refine g_iload C 0 rfl dX5_doesTimes_45 ?_
      refine g_bipush C (v := (nI 6)) (by decide) dX5_doesTimes_47 ?_
      refine g_iload_n C 5 rfl rfl dX5_doesTimes_49 ?_
      refine g_iadd C dX5_doesTimes_50 ?_
      refine g_top (y := (nI 6)) (nI_add 6 0) ?_
      refine g_icmpN_ge C i 6 (by omega) (by omega) (tgt := 119) (by decide) dX5_doesTimes_51 (fun h51 => ?_) (fun h51 => ?_)
      ·
        have hiN : 6 = i := by omega
        subst hiN
        refine g_iload C 1 rfl dX5_doesTimes_119 ?_
        exact g_iret C E dX5_doesTimes_121 rfl Sq.rf rfl
      ·
        refine g_aload_n C 3 rfl rfl dX5_doesTimes_54 ?_
        refine g_getR C (j := 0) cls5 e_44 rfl (by decide) fl_X5_7 dX5_doesTimes_55 ?_
        refine g_bipush C (v := (nI 31)) (by decide) dX5_doesTimes_58 ?_
        refine g_iload C 0 rfl dX5_doesTimes_60 ?_
        refine g_iastN C 31 e_45 (by decide) (by decide) dX5_doesTimes_62 ?_
        refine g_sgE (sg' := (us (us (us sg 52 (fun k => pI 0 (mkP 0 n k))) 50 (fun d => whX (clR (sg 45) (6 + d)) (dN (clR (sg 45)) d + 1))) 45 (upd (muR 0 n (gN (sg 45)) i (clR (sg 45))) 31 (nI i)))) us_us ?_
        refine g_aload_n C 3 rfl rfl dX5_doesTimes_63 ?_
        refine g_getR C (j := 9) cls5 e_44 rfl (by decide) fl_X5_31 dX5_doesTimes_64 ?_
        refine g_iload C 0 rfl dX5_doesTimes_67 ?_
        refine g_ialdN C i e_52 (by omega) (by decide) dX5_doesTimes_69 ?_
        refine g_top (y := ((fun k => pI 0 (mkP 0 n k)) i)) rfl ?_
        have hov : ¬ ((0 : Nat) = 1 ∧ 5 < mkP 0 n i % 10) := fun q => absurd q.1 (by decide)
        refine g_top (y := nI (mkP 0 n i % 10)) (if_neg hov) ?_
        refine g_if_ge C (tgt := 77) (by decide) dX5_doesTimes_70 (fun h70 => ?_) (fun h70 => absurd (nI_pos' (by omega)) h70)
        refine g_iconst C (v := (nI 1)) (by decide) dX5_doesTimes_77 ?_
        refine g_istore C (L' := [(6, .int (nI 1)), (5, .int (nI i)), (4, .int (nI (smP 0 n 7))), (3, .int (czX (sg 45) (fun _ => nI 0) 12 12)), (0, .ref (ad w 44)), (1, .int (nI n)), (2, .int (nI 0))]) (by decide) rfl dX5_doesTimes_78 ?_
        refine g_iload C 0 rfl dX5_doesTimes_80 ?_
        refine g_aload_n C 4 rfl rfl dX5_doesTimes_82 ?_
        refine g_getR C (j := 9) cls5 e_44 rfl (by decide) fl_X5_31 dX5_doesTimes_83 ?_
        refine g_iload C 1 rfl dX5_doesTimes_86 ?_
        refine g_ialdN C i e_52 (by omega) (by decide) dX5_doesTimes_88 ?_
        refine g_top (y := ((fun k => pI 0 (mkP 0 n k)) i)) rfl ?_
        refine g_top (y := nI (mkP 0 n i % 10)) (if_neg hov) ?_
        refine g_imul C dX5_doesTimes_89 ?_
        refine g_top (y := (nI (mkP 0 n i % 10))) (by rw [pk_mul, Nat.one_mul]) ?_
        refine g_istore C (L' := [(7, .int (nI (mkP 0 n i % 10))), (6, .int (nI 1)), (5, .int (nI i)), (4, .int (nI (smP 0 n 7))), (3, .int (czX (sg 45) (fun _ => nI 0) 12 12)), (0, .ref (ad w 44)), (1, .int (nI n)), (2, .int (nI 0))]) (by decide) rfl dX5_doesTimes_90 ?_
        have hF0 : ROk (upd (muR 0 n (gN (sg 45)) i (clR (sg 45))) 31 (nI i)) := sh_ok (muR_ok (clR_ok hok) (fun _ h => (gN_ok hok h).2) i (by omega)) (by omega)
        have lpi : ∀ (r t : Nat), t + r = (mkP 0 n i % 10) → G z w 9 (us (us (us sg 52 (fun k => pI 0 (mkP 0 n k))) 50 (fun d => whX (clR (sg 45) (6 + d)) (dN (clR (sg 45)) d + 1))) 45 (itR true (nI 1) (gN (sg 45)) t (upd (muR 0 n (gN (sg 45)) i (clR (sg 45))) 31 (nI i)))) tu 92 [(7, .int (nI r)), (6, .int (nI 1)), (5, .int (nI i)), (4, .int (nI (smP 0 n 7))), (3, .int (czX (sg 45) (fun _ => nI 0) 12 12)), (0, .ref (ad w 44)), (1, .int (nI n)), (2, .int (nI 0))] [] := by
          intro r
          induction r with
          | zero =>
            intro t ht
            refine g_iload C 0 rfl dX5_doesTimes_92 ?_
            refine g_if_le C (tgt := 113) (by decide) dX5_doesTimes_94 (fun h94 => ?_) (fun h94 => absurd h94 (by decide))
            refine g_iinc C (n := 1) (v := (nI (i + 1))) (L' := [(5, .int (nI (i + 1))), (7, .int (nI 0)), (6, .int (nI 1)), (4, .int (nI (smP 0 n 7))), (3, .int (czX (sg 45) (fun _ => nI 0) 12 12)), (0, .ref (ad w 44)), (1, .int (nI n)), (2, .int (nI 0))]) 2 rfl (nI_add i 1) (by decide) rfl dX5_doesTimes_113 ?_
            refine g_goto C (tgt := 45) (by decide) dX5_doesTimes_116 ?_
            have htA : t = (mkP 0 n i % 10) := by omega
            subst htA
            refine g_sub (L' := [(5, .int (nI (i + 1))), (4, .int (nI (smP 0 n 7))), (3, .int (czX (sg 45) (fun _ => nI 0) 12 12)), (0, .ref (ad w 44)), (1, .int (nI n)), (2, .int (nI 0))]) [0, 3, 4, 5, 6, 7] rfl ?_
            refine g_sgE (sg' := (us (us (us sg 52 (fun k => pI 0 (mkP 0 n k))) 50 (fun d => whX (clR (sg 45) (6 + d)) (dN (clR (sg 45)) d + 1))) 45 (muR 0 n (gN (sg 45)) (i + 1) (clR (sg 45))))) (congrArg (us _ 45) (muR_no hov).symm) ?_
            exact ihlp (i + 1)  (by omega) (by omega) trivial
          | succ r ihr =>
            intro t ht
            refine g_iload C 0 rfl dX5_doesTimes_92 ?_
            refine g_if_le C (tgt := 113) (by decide) dX5_doesTimes_94 (fun h94 => absurd h94 (nI_nle (by omega) (by omega))) (fun h94 => ?_)
            refine g_aload_n C 5 rfl rfl dX5_doesTimes_97 ?_
            refine g_iload C 1 rfl dX5_doesTimes_98 ?_
            refine g_iload C 1 rfl dX5_doesTimes_100 ?_
            refine g_callV1 [] C (c_X5_turnsOnce_up w tu (us (us (us sg 52 (fun k => pI 0 (mkP 0 n k))) 50 (fun d => whX (clR (sg 45) (6 + d)) (dN (clR (sg 45)) d + 1))) 45 (itR true (nI 1) (gN (sg 45)) t (upd (muR 0 n (gN (sg 45)) i (clR (sg 45))) 31 (nI i)))) (nI 1) (gN (sg 45)) (itR_ok hF0 (fun _ h => (gN_ok hok h).2) t) (fun d h => by show whX (clR (sg 45) (6 + d)) (dN (clR (sg 45)) d + 1) = _; unfold dN; rw [clR_lo (by omega), clR_lo (by omega)]; exact (gN_ok hok h).1) (fun _ h => (gN_ok hok h).2)) mt_X5_turnsOnce e_44 rfl ml_X5_70 im_X5_turnsOnce se_X5_turnsOnce (by decide) rfl (Nat.le_of_ble_eq_true rfl) dX5_doesTimes_102 ?_
            refine g_eq (sg' := (us (us (us (us sg 52 (fun k => pI 0 (mkP 0 n k))) 50 (fun d => whX (clR (sg 45) (6 + d)) (dN (clR (sg 45)) d + 1))) 45 (itR true (nI 1) (gN (sg 45)) t (upd (muR 0 n (gN (sg 45)) i (clR (sg 45))) 31 (nI i)))) 45 (tR true (nI 1) (gN (sg 45)) (itR true (nI 1) (gN (sg 45)) t (upd (muR 0 n (gN (sg 45)) i (clR (sg 45))) 31 (nI i)))))) (L' := [(7, .int (nI (r + 1))), (6, .int (nI 1)), (5, .int (nI i)), (4, .int (nI (smP 0 n 7))), (3, .int (czX (sg 45) (fun _ => nI 0) 12 12)), (0, .ref (ad w 44)), (1, .int (nI n)), (2, .int (nI 0))]) (S' := [.int (bI (blP true (wN (itR true (nI 1) (gN (sg 45)) t (upd (muR 0 n (gN (sg 45)) i (clR (sg 45))) 31 (nI i)))) (gN (sg 45)) (sN (itR true (nI 1) (gN (sg 45)) t (upd (muR 0 n (gN (sg 45)) i (clR (sg 45))) 31 (nI i)))) (sN (itR true (nI 1) (gN (sg 45)) t (upd (muR 0 n (gN (sg 45)) i (clR (sg 45))) 31 (nI i))) + 5 + reN (itR true (nI 1) (gN (sg 45)) t (upd (muR 0 n (gN (sg 45)) i (clR (sg 45))) 31 (nI i))))))]) rfl rfl rfl rfl ?_
            refine g_istore C (L' := [(8, .int (bI (blP true (wN (itR true (nI 1) (gN (sg 45)) t (upd (muR 0 n (gN (sg 45)) i (clR (sg 45))) 31 (nI i)))) (gN (sg 45)) (sN (itR true (nI 1) (gN (sg 45)) t (upd (muR 0 n (gN (sg 45)) i (clR (sg 45))) 31 (nI i)))) (sN (itR true (nI 1) (gN (sg 45)) t (upd (muR 0 n (gN (sg 45)) i (clR (sg 45))) 31 (nI i))) + 5 + reN (itR true (nI 1) (gN (sg 45)) t (upd (muR 0 n (gN (sg 45)) i (clR (sg 45))) 31 (nI i))))))), (7, .int (nI (r + 1))), (6, .int (nI 1)), (5, .int (nI i)), (4, .int (nI (smP 0 n 7))), (3, .int (czX (sg 45) (fun _ => nI 0) 12 12)), (0, .ref (ad w 44)), (1, .int (nI n)), (2, .int (nI 0))]) (by decide) rfl dX5_doesTimes_105 ?_
            refine g_iinc C (n := -1) (v := ((nI (r + 1)) + (-1))) (L' := [(7, .int ((nI (r + 1)) + (-1))), (8, .int (bI (blP true (wN (itR true (nI 1) (gN (sg 45)) t (upd (muR 0 n (gN (sg 45)) i (clR (sg 45))) 31 (nI i)))) (gN (sg 45)) (sN (itR true (nI 1) (gN (sg 45)) t (upd (muR 0 n (gN (sg 45)) i (clR (sg 45))) 31 (nI i)))) (sN (itR true (nI 1) (gN (sg 45)) t (upd (muR 0 n (gN (sg 45)) i (clR (sg 45))) 31 (nI i))) + 5 + reN (itR true (nI 1) (gN (sg 45)) t (upd (muR 0 n (gN (sg 45)) i (clR (sg 45))) 31 (nI i))))))), (6, .int (nI 1)), (5, .int (nI i)), (4, .int (nI (smP 0 n 7))), (3, .int (czX (sg 45) (fun _ => nI 0) 12 12)), (0, .ref (ad w 44)), (1, .int (nI n)), (2, .int (nI 0))]) 1 rfl rfl (by decide) rfl dX5_doesTimes_107 ?_
            refine g_goto C (tgt := 92) (by decide) dX5_doesTimes_110 ?_
            refine g_sub (L' := [(7, .int ((nI (r + 1)) + (-1))), (6, .int (nI 1)), (5, .int (nI i)), (4, .int (nI (smP 0 n 7))), (3, .int (czX (sg 45) (fun _ => nI 0) 12 12)), (0, .ref (ad w 44)), (1, .int (nI n)), (2, .int (nI 0))]) [0, 2, 3, 4, 5, 6, 7, 8] rfl ?_
            refine g_eq (L' := [(7, .int (nI r)), (6, .int (nI 1)), (5, .int (nI i)), (4, .int (nI (smP 0 n 7))), (3, .int (czX (sg 45) (fun _ => nI 0) 12 12)), (0, .ref (ad w 44)), (1, .int (nI n)), (2, .int (nI 0))]) rfl rfl (by rw [pk_m1]) rfl ?_
            refine g_sgE (sg' := (us (us (us sg 52 (fun k => pI 0 (mkP 0 n k))) 50 (fun d => whX (clR (sg 45) (6 + d)) (dN (clR (sg 45)) d + 1))) 45 (itR true (nI 1) (gN (sg 45)) (t + 1) (upd (muR 0 n (gN (sg 45)) i (clR (sg 45))) 31 (nI i))))) us_us ?_
            exact ihr (t + 1) (by omega)
        refine g_sub (L' := [(7, .int (nI (mkP 0 n i % 10))), (6, .int (nI 1)), (5, .int (nI i)), (4, .int (nI (smP 0 n 7))), (3, .int (czX (sg 45) (fun _ => nI 0) 12 12)), (0, .ref (ad w 44)), (1, .int (nI n)), (2, .int (nI 0))]) [0, 1, 2, 3, 4, 5, 6, 7] rfl ?_
        refine g_sgE (sg' := (us (us (us sg 52 (fun k => pI 0 (mkP 0 n k))) 50 (fun d => whX (clR (sg 45) (6 + d)) (dN (clR (sg 45)) d + 1))) 45 (itR true (nI 1) (gN (sg 45)) 0 (upd (muR 0 n (gN (sg 45)) i (clR (sg 45))) 31 (nI i))))) rfl ?_
        exact lpi (mkP 0 n i % 10) 0 (Nat.zero_add _)
  refine g_sgE (sg' := (us (us (us sg 52 (fun k => pI 0 (mkP 0 n k))) 50 (fun d => whX (clR (sg 45) (6 + d)) (dN (clR (sg 45)) d + 1))) 45 (muR 0 n (gN (sg 45)) 0 (clR (sg 45))))) (us_rot (by decide) (by decide)) ?_
  refine g_sub (L' := [(5, .int (nI 0)), (4, .int (nI (smP 0 n 7))), (3, .int (czX (sg 45) (fun _ => nI 0) 12 12)), (0, .ref (ad w 44)), (1, .int (nI n)), (2, .int (nI 0))]) [0, 1, 2, 3, 4, 5] rfl ?_
  exact lp (6 + 1) 0  (by omega) (by omega) trivial
set_option maxRecDepth 100000 in
set_option maxHeartbeats 400000 in
theorem c_X5_doesTimes_bad (w : GW) (tu : Int64) (sg : Sg) (x : Int32) (v : Int32) (h : ¬ ((0 ≤ Int32.toInt64 x ∧ Int32.toInt64 x ≤ 999999) ∧ (0 ≤ Int32.toInt64 v ∧ Int32.toInt64 v ≤ 1))) : Kt w yX5_doesTimes cX5_doesTimes 9 (some .int) 1 [.ref (ad w 44), .int x, .int v] sg tu (some (.int (-2))) sg tu := by
  refine Kt.of2 RX5 rfl [(0, .ref (ad w 44)), (1, .int x), (2, .int v)] (by decide) rfl (Nat.le_of_ble_eq_true rfl) (fun z C E => ?_)
  refine g_iload_n C 1 rfl rfl dX5_doesTimes_0 ?_
  refine g_i2l C dX5_doesTimes_1 ?_
  refine g_lconst C (v := 0) (by decide) dX5_doesTimes_2 ?_
  refine g_ldc2 C cn_X5_77 dX5_doesTimes_3 ?_
  refine g_callS1 [] C (c_X5_in w tu sg (Int32.toInt64 x) 0 999999 ) mt_X5_in ml_X5_53 st_X5_in (by decide) rfl (Nat.le_of_ble_eq_true rfl) dX5_doesTimes_6 ?_
  refine g_eq (L' := [(0, .ref (ad w 44)), (1, .int x), (2, .int v)]) (S' := [.int (bI (0 ≤ (Int32.toInt64 x) ∧ (Int32.toInt64 x) ≤ 999999))]) rfl rfl rfl rfl ?_
  refine g_bif_eq C (tgt := 22) (by decide) dX5_doesTimes_9 (fun h9 => ?_) (fun h9 => ?_)
  ·
    refine g_bipush C (v := (-2)) (by decide) dX5_doesTimes_22 ?_
    exact g_iret C E dX5_doesTimes_24 rfl Sq.rf rfl
  ·
    refine g_iload_n C 2 rfl rfl dX5_doesTimes_12 ?_
    refine g_i2l C dX5_doesTimes_13 ?_
    refine g_lconst C (v := 0) (by decide) dX5_doesTimes_14 ?_
    refine g_lconst C (v := 1) (by decide) dX5_doesTimes_15 ?_
    refine g_callS1 [] C (c_X5_in w tu sg (Int32.toInt64 v) 0 1 ) mt_X5_in ml_X5_53 st_X5_in (by decide) rfl (Nat.le_of_ble_eq_true rfl) dX5_doesTimes_16 ?_
    refine g_eq (L' := [(0, .ref (ad w 44)), (1, .int x), (2, .int v)]) (S' := [.int (bI (0 ≤ (Int32.toInt64 v) ∧ (Int32.toInt64 v) ≤ 1))]) rfl rfl rfl rfl ?_
    refine g_bif_ne C (tgt := 25) (by decide) dX5_doesTimes_19 (fun h19 => absurd ⟨h9, h19⟩ h) (fun h19 => ?_)
    refine g_bipush C (v := (-2)) (by decide) dX5_doesTimes_22 ?_
    exact g_iret C E dX5_doesTimes_24 rfl Sq.rf rfl
set_option maxRecDepth 100000 in
set_option maxHeartbeats 400000 in
theorem c_X5_doesTimes_1 (w : GW) (tu : Int64) (sg : Sg) (n : Nat) (hn : n ≤ 999999) (hok : ROk (sg 45)) : Kt w yX5_doesTimes cX5_doesTimes 9 (some .int) 2 [.ref (ad w 44), .int (nI n), .int (nI 1)] sg tu (some (.int (nI (smP 1 n 7)))) (us (us (us sg 52 (fun k => pI 1 (mkP 1 n k))) 50 (fun d => whX (clR (sg 45) (6 + d)) (dN (clR (sg 45)) d + 1))) 45 (muR 1 n (gN (sg 45)) 7 (clR (sg 45)))) tu := by
  refine Kt.of2 RX5 rfl [(0, .ref (ad w 44)), (1, .int (nI n)), (2, .int (nI 1))] (by decide) rfl (Nat.le_of_ble_eq_true rfl) (fun z C E => ?_)
  refine g_iload_n C 1 rfl rfl dX5_doesTimes_0 ?_
  refine g_i2l C dX5_doesTimes_1 ?_
  refine g_lconst C (v := 0) (by decide) dX5_doesTimes_2 ?_
  refine g_ldc2 C cn_X5_77 dX5_doesTimes_3 ?_
  refine g_callS1 [] C (c_X5_in_t w tu sg (Int32.toInt64 (nI n)) 0 999999 (in_ok (n := 999999) (by omega) (by decide))) mt_X5_in ml_X5_53 st_X5_in (by decide) rfl (Nat.le_of_ble_eq_true rfl) dX5_doesTimes_6 ?_
  refine g_eq (L' := [(0, .ref (ad w 44)), (1, .int (nI n)), (2, .int (nI 1))]) (S' := [.int (nI 1)]) rfl rfl rfl rfl ?_
  refine g_if_eq C (tgt := 22) (by decide) dX5_doesTimes_9 (fun h9 => absurd h9 (by decide)) (fun h9 => ?_)
  refine g_iload_n C 2 rfl rfl dX5_doesTimes_12 ?_
  refine g_i2l C dX5_doesTimes_13 ?_
  refine g_lconst C (v := 0) (by decide) dX5_doesTimes_14 ?_
  refine g_lconst C (v := 1) (by decide) dX5_doesTimes_15 ?_
  refine g_callS1 [] C (c_X5_in_t w tu sg (Int32.toInt64 (nI 1)) 0 1 (in_ok (n := 1) (by omega) (by decide))) mt_X5_in ml_X5_53 st_X5_in (by decide) rfl (Nat.le_of_ble_eq_true rfl) dX5_doesTimes_16 ?_
  refine g_eq (L' := [(0, .ref (ad w 44)), (1, .int (nI n)), (2, .int (nI 1))]) (S' := [.int (nI 1)]) rfl rfl rfl rfl ?_
  refine g_if_ne C (tgt := 25) (by decide) dX5_doesTimes_19 (fun h19 => ?_) (fun h19 => absurd h19 (by decide))
  refine g_aload_n C 0 rfl rfl dX5_doesTimes_25 ?_
  refine g_callV1 [] C (c_X5_clearsAll w tu sg  ) mt_X5_clearsAll e_44 rfl ml_X5_79 im_X5_clearsAll se_X5_clearsAll (by decide) rfl (Nat.le_of_ble_eq_true rfl) dX5_doesTimes_26 ?_
  refine g_eq (sg' := (us sg 45 (fw 24 (fun _ => nI 0) (fw 12 (fun _ => nI 0) (sg 45) 12) 7))) (L' := [(0, .ref (ad w 44)), (1, .int (nI n)), (2, .int (nI 1))]) (S' := [.int (czX (sg 45) (fun _ => nI 0) 12 12)]) rfl rfl rfl rfl ?_
  refine g_sgE (sg' := (us sg 45 (clR (sg 45)))) rfl ?_
  refine g_istore_n C (L' := [(3, .int (czX (sg 45) (fun _ => nI 0) 12 12)), (0, .ref (ad w 44)), (1, .int (nI n)), (2, .int (nI 1))]) rfl (by decide) rfl dX5_doesTimes_29 ?_
  refine g_aload_n C 1 rfl rfl dX5_doesTimes_30 ?_
  refine g_iload_n C 2 rfl rfl dX5_doesTimes_31 ?_
  refine g_iload_n C 3 rfl rfl dX5_doesTimes_32 ?_
  refine g_callV1 [] C (c_X5_laysPlan_1 w tu (us sg 45 (clR (sg 45))) n (by omega)) mt_X5_laysPlan e_44 rfl ml_X5_83 im_X5_laysPlan se_X5_laysPlan (by decide) rfl (Nat.le_of_ble_eq_true rfl) dX5_doesTimes_33 ?_
  refine g_eq (sg' := (us (us sg 45 (clR (sg 45))) 52 (fun k => pI 1 (mkP 1 n k)))) (L' := [(3, .int (czX (sg 45) (fun _ => nI 0) 12 12)), (0, .ref (ad w 44)), (1, .int (nI n)), (2, .int (nI 1))]) (S' := [.int (nI (smP 1 n 7))]) rfl rfl rfl rfl ?_
  refine g_istore C (L' := [(4, .int (nI (smP 1 n 7))), (3, .int (czX (sg 45) (fun _ => nI 0) 12 12)), (0, .ref (ad w 44)), (1, .int (nI n)), (2, .int (nI 1))]) (by decide) rfl dX5_doesTimes_36 ?_
  refine g_aload_n C 2 rfl rfl dX5_doesTimes_38 ?_
  refine g_callV0 [] C (c_X5_laysGives w tu (us (us sg 45 (clR (sg 45))) 52 (fun k => pI 1 (mkP 1 n k)))  (dN (clR (sg 45))) (clR_ok hok).1) mt_X5_laysGives e_44 rfl ml_X5_67 im_X5_laysGives se_X5_laysGives (by decide) rfl (Nat.le_of_ble_eq_true rfl) dX5_doesTimes_39 ?_
  refine g_eq (sg' := (us (us (us sg 45 (clR (sg 45))) 52 (fun k => pI 1 (mkP 1 n k))) 50 (fun d => whX ((clR (sg 45)) (6 + d)) ((dN (clR (sg 45))) d + 1)))) (L' := [(4, .int (nI (smP 1 n 7))), (3, .int (czX (sg 45) (fun _ => nI 0) 12 12)), (0, .ref (ad w 44)), (1, .int (nI n)), (2, .int (nI 1))]) (S' := []) rfl rfl rfl rfl ?_
  refine g_iconst C (v := (nI 0)) (by decide) dX5_doesTimes_42 ?_
  refine g_istore C (L' := [(5, .int (nI 0)), (4, .int (nI (smP 1 n 7))), (3, .int (czX (sg 45) (fun _ => nI 0) 12 12)), (0, .ref (ad w 44)), (1, .int (nI n)), (2, .int (nI 1))]) (by decide) rfl dX5_doesTimes_43 ?_
  have lp : ∀ (nf i : Nat), 7 < i + nf → i ≤ 7 → (True) → G z w 9 (us (us (us sg 52 (fun k => pI 1 (mkP 1 n k))) 50 (fun d => whX (clR (sg 45) (6 + d)) (dN (clR (sg 45)) d + 1))) 45 (muR 1 n (gN (sg 45)) i (clR (sg 45)))) tu 45 [(5, .int (nI i)), (4, .int (nI (smP 1 n 7))), (3, .int (czX (sg 45) (fun _ => nI 0) 12 12)), (0, .ref (ad w 44)), (1, .int (nI n)), (2, .int (nI 1))] [] := by
    intro nf
    induction nf with
    | zero => intro i  h1 h2 hI; exact absurd h1 (by omega)
    | succ nf ihlp =>
      intro i  h1 h2 hI
      refine g_iload C 0 rfl dX5_doesTimes_45 ?_
      refine g_bipush C (v := (nI 6)) (by decide) dX5_doesTimes_47 ?_
      refine g_iload_n C 5 rfl rfl dX5_doesTimes_49 ?_
      refine g_iadd C dX5_doesTimes_50 ?_
      refine g_top (y := (nI 7)) (nI_add 6 1) ?_
      refine g_icmpN_ge C i 7 (by omega) (by omega) (tgt := 119) (by decide) dX5_doesTimes_51 (fun h51 => ?_) (fun h51 => ?_)
      ·
        have hiN : 7 = i := by omega
        subst hiN
        refine g_iload C 1 rfl dX5_doesTimes_119 ?_
        exact g_iret C E dX5_doesTimes_121 rfl Sq.rf rfl
      ·
        refine g_aload_n C 3 rfl rfl dX5_doesTimes_54 ?_
        refine g_getR C (j := 0) cls5 e_44 rfl (by decide) fl_X5_7 dX5_doesTimes_55 ?_
        refine g_bipush C (v := (nI 31)) (by decide) dX5_doesTimes_58 ?_
        refine g_iload C 0 rfl dX5_doesTimes_60 ?_
        refine g_iastN C 31 e_45 (by decide) (by decide) dX5_doesTimes_62 ?_
        refine g_sgE (sg' := (us (us (us sg 52 (fun k => pI 1 (mkP 1 n k))) 50 (fun d => whX (clR (sg 45) (6 + d)) (dN (clR (sg 45)) d + 1))) 45 (upd (muR 1 n (gN (sg 45)) i (clR (sg 45))) 31 (nI i)))) us_us ?_
        refine g_aload_n C 3 rfl rfl dX5_doesTimes_63 ?_
        refine g_getR C (j := 9) cls5 e_44 rfl (by decide) fl_X5_31 dX5_doesTimes_64 ?_
        refine g_iload C 0 rfl dX5_doesTimes_67 ?_
        refine g_ialdN C i e_52 (by omega) (by decide) dX5_doesTimes_69 ?_
        refine g_top (y := ((fun k => pI 1 (mkP 1 n k)) i)) rfl ?_
        by_cases hov : (1 : Nat) = 1 ∧ 5 < mkP 1 n i % 10
        ·
          have hng := ng_nI (mkP 1 n i % 10) (by omega) hov.2
          refine g_top (y := nI (mkP 1 n i % 10) - nI 10) (if_pos hov) ?_
          refine g_if_ge C (tgt := 77) (by decide) dX5_doesTimes_70 (fun h70 => absurd h70 (Int32.not_le.mpr (hng.1.mpr (by omega)))) (fun h70 => ?_)
          refine g_iconst C (v := (-1)) (by decide) dX5_doesTimes_73 ?_
          refine g_goto C (tgt := 78) (by decide) dX5_doesTimes_74 ?_
          refine g_istore C (L' := [(6, .int (-1)), (5, .int (nI i)), (4, .int (nI (smP 1 n 7))), (3, .int (czX (sg 45) (fun _ => nI 0) 12 12)), (0, .ref (ad w 44)), (1, .int (nI n)), (2, .int (nI 1))]) (by decide) rfl dX5_doesTimes_78 ?_
          refine g_iload C 0 rfl dX5_doesTimes_80 ?_
          refine g_aload_n C 4 rfl rfl dX5_doesTimes_82 ?_
          refine g_getR C (j := 9) cls5 e_44 rfl (by decide) fl_X5_31 dX5_doesTimes_83 ?_
          refine g_iload C 1 rfl dX5_doesTimes_86 ?_
          refine g_ialdN C i e_52 (by omega) (by decide) dX5_doesTimes_88 ?_
          refine g_top (y := ((fun k => pI 1 (mkP 1 n k)) i)) rfl ?_
          refine g_top (y := nI (mkP 1 n i % 10) - nI 10) (if_pos hov) ?_
          refine g_imul C dX5_doesTimes_89 ?_
          refine g_top (y := nI (10 - mkP 1 n i % 10)) hng.2.2 ?_
          refine g_istore C (L' := [(7, .int (nI (10 - mkP 1 n i % 10))), (6, .int (-1)), (5, .int (nI i)), (4, .int (nI (smP 1 n 7))), (3, .int (czX (sg 45) (fun _ => nI 0) 12 12)), (0, .ref (ad w 44)), (1, .int (nI n)), (2, .int (nI 1))]) (by decide) rfl dX5_doesTimes_90 ?_
          have hF0 : ROk (upd (muR 1 n (gN (sg 45)) i (clR (sg 45))) 31 (nI i)) := sh_ok (muR_ok (clR_ok hok) (fun _ h => (gN_ok hok h).2) i (by omega)) (by omega)
          have lpi : ∀ (r t : Nat), t + r = (10 - mkP 1 n i % 10) → G z w 9 (us (us (us sg 52 (fun k => pI 1 (mkP 1 n k))) 50 (fun d => whX (clR (sg 45) (6 + d)) (dN (clR (sg 45)) d + 1))) 45 (itR false (-1) (gN (sg 45)) t (upd (muR 1 n (gN (sg 45)) i (clR (sg 45))) 31 (nI i)))) tu 92 [(7, .int (nI r)), (6, .int (-1)), (5, .int (nI i)), (4, .int (nI (smP 1 n 7))), (3, .int (czX (sg 45) (fun _ => nI 0) 12 12)), (0, .ref (ad w 44)), (1, .int (nI n)), (2, .int (nI 1))] [] := by
            intro r
            induction r with
            | zero =>
              intro t ht
              refine g_iload C 0 rfl dX5_doesTimes_92 ?_
              refine g_if_le C (tgt := 113) (by decide) dX5_doesTimes_94 (fun h94 => ?_) (fun h94 => absurd h94 (by decide))
              refine g_iinc C (n := 1) (v := (nI (i + 1))) (L' := [(5, .int (nI (i + 1))), (7, .int (nI 0)), (6, .int (-1)), (4, .int (nI (smP 1 n 7))), (3, .int (czX (sg 45) (fun _ => nI 0) 12 12)), (0, .ref (ad w 44)), (1, .int (nI n)), (2, .int (nI 1))]) 2 rfl (nI_add i 1) (by decide) rfl dX5_doesTimes_113 ?_
              refine g_goto C (tgt := 45) (by decide) dX5_doesTimes_116 ?_
              have htA : t = (10 - mkP 1 n i % 10) := by omega
              subst htA
              refine g_sub (L' := [(5, .int (nI (i + 1))), (4, .int (nI (smP 1 n 7))), (3, .int (czX (sg 45) (fun _ => nI 0) 12 12)), (0, .ref (ad w 44)), (1, .int (nI n)), (2, .int (nI 1))]) [0, 3, 4, 5, 6, 7] rfl ?_
              refine g_sgE (sg' := (us (us (us sg 52 (fun k => pI 1 (mkP 1 n k))) 50 (fun d => whX (clR (sg 45) (6 + d)) (dN (clR (sg 45)) d + 1))) 45 (muR 1 n (gN (sg 45)) (i + 1) (clR (sg 45))))) (congrArg (us _ 45) (muR_ov hov).symm) ?_
              exact ihlp (i + 1)  (by omega) (by omega) trivial
            | succ r ihr =>
              intro t ht
              refine g_iload C 0 rfl dX5_doesTimes_92 ?_
              refine g_if_le C (tgt := 113) (by decide) dX5_doesTimes_94 (fun h94 => absurd h94 (nI_nle (by omega) (by omega))) (fun h94 => ?_)
              refine g_aload_n C 5 rfl rfl dX5_doesTimes_97 ?_
              refine g_iload C 1 rfl dX5_doesTimes_98 ?_
              refine g_iload C 1 rfl dX5_doesTimes_100 ?_
              refine g_callV1 [] C (c_X5_turnsOnce_dn w tu (us (us (us sg 52 (fun k => pI 1 (mkP 1 n k))) 50 (fun d => whX (clR (sg 45) (6 + d)) (dN (clR (sg 45)) d + 1))) 45 (itR false (-1) (gN (sg 45)) t (upd (muR 1 n (gN (sg 45)) i (clR (sg 45))) 31 (nI i)))) (-1) (gN (sg 45)) (itR_ok hF0 (fun _ h => (gN_ok hok h).2) t) (fun d h => by show whX (clR (sg 45) (6 + d)) (dN (clR (sg 45)) d + 1) = _; unfold dN; rw [clR_lo (by omega), clR_lo (by omega)]; exact (gN_ok hok h).1) (fun _ h => (gN_ok hok h).2)) mt_X5_turnsOnce e_44 rfl ml_X5_70 im_X5_turnsOnce se_X5_turnsOnce (by decide) rfl (Nat.le_of_ble_eq_true rfl) dX5_doesTimes_102 ?_
              refine g_eq (sg' := (us (us (us (us sg 52 (fun k => pI 1 (mkP 1 n k))) 50 (fun d => whX (clR (sg 45) (6 + d)) (dN (clR (sg 45)) d + 1))) 45 (itR false (-1) (gN (sg 45)) t (upd (muR 1 n (gN (sg 45)) i (clR (sg 45))) 31 (nI i)))) 45 (tR false (-1) (gN (sg 45)) (itR false (-1) (gN (sg 45)) t (upd (muR 1 n (gN (sg 45)) i (clR (sg 45))) 31 (nI i)))))) (L' := [(7, .int (nI (r + 1))), (6, .int (-1)), (5, .int (nI i)), (4, .int (nI (smP 1 n 7))), (3, .int (czX (sg 45) (fun _ => nI 0) 12 12)), (0, .ref (ad w 44)), (1, .int (nI n)), (2, .int (nI 1))]) (S' := [.int (bI (blP false (wN (itR false (-1) (gN (sg 45)) t (upd (muR 1 n (gN (sg 45)) i (clR (sg 45))) 31 (nI i)))) (gN (sg 45)) (sN (itR false (-1) (gN (sg 45)) t (upd (muR 1 n (gN (sg 45)) i (clR (sg 45))) 31 (nI i)))) (sN (itR false (-1) (gN (sg 45)) t (upd (muR 1 n (gN (sg 45)) i (clR (sg 45))) 31 (nI i))) + 5 + reN (itR false (-1) (gN (sg 45)) t (upd (muR 1 n (gN (sg 45)) i (clR (sg 45))) 31 (nI i))))))]) rfl rfl rfl rfl ?_
              refine g_istore C (L' := [(8, .int (bI (blP false (wN (itR false (-1) (gN (sg 45)) t (upd (muR 1 n (gN (sg 45)) i (clR (sg 45))) 31 (nI i)))) (gN (sg 45)) (sN (itR false (-1) (gN (sg 45)) t (upd (muR 1 n (gN (sg 45)) i (clR (sg 45))) 31 (nI i)))) (sN (itR false (-1) (gN (sg 45)) t (upd (muR 1 n (gN (sg 45)) i (clR (sg 45))) 31 (nI i))) + 5 + reN (itR false (-1) (gN (sg 45)) t (upd (muR 1 n (gN (sg 45)) i (clR (sg 45))) 31 (nI i))))))), (7, .int (nI (r + 1))), (6, .int (-1)), (5, .int (nI i)), (4, .int (nI (smP 1 n 7))), (3, .int (czX (sg 45) (fun _ => nI 0) 12 12)), (0, .ref (ad w 44)), (1, .int (nI n)), (2, .int (nI 1))]) (by decide) rfl dX5_doesTimes_105 ?_
              refine g_iinc C (n := -1) (v := ((nI (r + 1)) + (-1))) (L' := [(7, .int ((nI (r + 1)) + (-1))), (8, .int (bI (blP false (wN (itR false (-1) (gN (sg 45)) t (upd (muR 1 n (gN (sg 45)) i (clR (sg 45))) 31 (nI i)))) (gN (sg 45)) (sN (itR false (-1) (gN (sg 45)) t (upd (muR 1 n (gN (sg 45)) i (clR (sg 45))) 31 (nI i)))) (sN (itR false (-1) (gN (sg 45)) t (upd (muR 1 n (gN (sg 45)) i (clR (sg 45))) 31 (nI i))) + 5 + reN (itR false (-1) (gN (sg 45)) t (upd (muR 1 n (gN (sg 45)) i (clR (sg 45))) 31 (nI i))))))), (6, .int (-1)), (5, .int (nI i)), (4, .int (nI (smP 1 n 7))), (3, .int (czX (sg 45) (fun _ => nI 0) 12 12)), (0, .ref (ad w 44)), (1, .int (nI n)), (2, .int (nI 1))]) 1 rfl rfl (by decide) rfl dX5_doesTimes_107 ?_
              refine g_goto C (tgt := 92) (by decide) dX5_doesTimes_110 ?_
              refine g_sub (L' := [(7, .int ((nI (r + 1)) + (-1))), (6, .int (-1)), (5, .int (nI i)), (4, .int (nI (smP 1 n 7))), (3, .int (czX (sg 45) (fun _ => nI 0) 12 12)), (0, .ref (ad w 44)), (1, .int (nI n)), (2, .int (nI 1))]) [0, 2, 3, 4, 5, 6, 7, 8] rfl ?_
              refine g_eq (L' := [(7, .int (nI r)), (6, .int (-1)), (5, .int (nI i)), (4, .int (nI (smP 1 n 7))), (3, .int (czX (sg 45) (fun _ => nI 0) 12 12)), (0, .ref (ad w 44)), (1, .int (nI n)), (2, .int (nI 1))]) rfl rfl (by rw [pk_m1]) rfl ?_
              refine g_sgE (sg' := (us (us (us sg 52 (fun k => pI 1 (mkP 1 n k))) 50 (fun d => whX (clR (sg 45) (6 + d)) (dN (clR (sg 45)) d + 1))) 45 (itR false (-1) (gN (sg 45)) (t + 1) (upd (muR 1 n (gN (sg 45)) i (clR (sg 45))) 31 (nI i))))) us_us ?_
              exact ihr (t + 1) (by omega)
          refine g_sub (L' := [(7, .int (nI (10 - mkP 1 n i % 10))), (6, .int (-1)), (5, .int (nI i)), (4, .int (nI (smP 1 n 7))), (3, .int (czX (sg 45) (fun _ => nI 0) 12 12)), (0, .ref (ad w 44)), (1, .int (nI n)), (2, .int (nI 1))]) [0, 1, 2, 3, 4, 5, 6, 7] rfl ?_
          refine g_sgE (sg' := (us (us (us sg 52 (fun k => pI 1 (mkP 1 n k))) 50 (fun d => whX (clR (sg 45) (6 + d)) (dN (clR (sg 45)) d + 1))) 45 (itR false (-1) (gN (sg 45)) 0 (upd (muR 1 n (gN (sg 45)) i (clR (sg 45))) 31 (nI i))))) rfl ?_
          exact lpi (10 - mkP 1 n i % 10) 0 (Nat.zero_add _)
        ·
          refine g_top (y := nI (mkP 1 n i % 10)) (if_neg hov) ?_
          refine g_if_ge C (tgt := 77) (by decide) dX5_doesTimes_70 (fun h70 => ?_) (fun h70 => absurd (nI_pos' (by omega)) h70)
          refine g_iconst C (v := (nI 1)) (by decide) dX5_doesTimes_77 ?_
          refine g_istore C (L' := [(6, .int (nI 1)), (5, .int (nI i)), (4, .int (nI (smP 1 n 7))), (3, .int (czX (sg 45) (fun _ => nI 0) 12 12)), (0, .ref (ad w 44)), (1, .int (nI n)), (2, .int (nI 1))]) (by decide) rfl dX5_doesTimes_78 ?_
          refine g_iload C 0 rfl dX5_doesTimes_80 ?_
          refine g_aload_n C 4 rfl rfl dX5_doesTimes_82 ?_
          refine g_getR C (j := 9) cls5 e_44 rfl (by decide) fl_X5_31 dX5_doesTimes_83 ?_
          refine g_iload C 1 rfl dX5_doesTimes_86 ?_
          refine g_ialdN C i e_52 (by omega) (by decide) dX5_doesTimes_88 ?_
          refine g_top (y := ((fun k => pI 1 (mkP 1 n k)) i)) rfl ?_
          refine g_top (y := nI (mkP 1 n i % 10)) (if_neg hov) ?_
          refine g_imul C dX5_doesTimes_89 ?_
          refine g_top (y := (nI (mkP 1 n i % 10))) (by rw [pk_mul, Nat.one_mul]) ?_
          refine g_istore C (L' := [(7, .int (nI (mkP 1 n i % 10))), (6, .int (nI 1)), (5, .int (nI i)), (4, .int (nI (smP 1 n 7))), (3, .int (czX (sg 45) (fun _ => nI 0) 12 12)), (0, .ref (ad w 44)), (1, .int (nI n)), (2, .int (nI 1))]) (by decide) rfl dX5_doesTimes_90 ?_
          have hF0 : ROk (upd (muR 1 n (gN (sg 45)) i (clR (sg 45))) 31 (nI i)) := sh_ok (muR_ok (clR_ok hok) (fun _ h => (gN_ok hok h).2) i (by omega)) (by omega)
          have lpi : ∀ (r t : Nat), t + r = (mkP 1 n i % 10) → G z w 9 (us (us (us sg 52 (fun k => pI 1 (mkP 1 n k))) 50 (fun d => whX (clR (sg 45) (6 + d)) (dN (clR (sg 45)) d + 1))) 45 (itR true (nI 1) (gN (sg 45)) t (upd (muR 1 n (gN (sg 45)) i (clR (sg 45))) 31 (nI i)))) tu 92 [(7, .int (nI r)), (6, .int (nI 1)), (5, .int (nI i)), (4, .int (nI (smP 1 n 7))), (3, .int (czX (sg 45) (fun _ => nI 0) 12 12)), (0, .ref (ad w 44)), (1, .int (nI n)), (2, .int (nI 1))] [] := by
            intro r
            induction r with
            | zero =>
              intro t ht
              refine g_iload C 0 rfl dX5_doesTimes_92 ?_
              refine g_if_le C (tgt := 113) (by decide) dX5_doesTimes_94 (fun h94 => ?_) (fun h94 => absurd h94 (by decide))
              refine g_iinc C (n := 1) (v := (nI (i + 1))) (L' := [(5, .int (nI (i + 1))), (7, .int (nI 0)), (6, .int (nI 1)), (4, .int (nI (smP 1 n 7))), (3, .int (czX (sg 45) (fun _ => nI 0) 12 12)), (0, .ref (ad w 44)), (1, .int (nI n)), (2, .int (nI 1))]) 2 rfl (nI_add i 1) (by decide) rfl dX5_doesTimes_113 ?_
              refine g_goto C (tgt := 45) (by decide) dX5_doesTimes_116 ?_
              have htA : t = (mkP 1 n i % 10) := by omega
              subst htA
              refine g_sub (L' := [(5, .int (nI (i + 1))), (4, .int (nI (smP 1 n 7))), (3, .int (czX (sg 45) (fun _ => nI 0) 12 12)), (0, .ref (ad w 44)), (1, .int (nI n)), (2, .int (nI 1))]) [0, 3, 4, 5, 6, 7] rfl ?_
              refine g_sgE (sg' := (us (us (us sg 52 (fun k => pI 1 (mkP 1 n k))) 50 (fun d => whX (clR (sg 45) (6 + d)) (dN (clR (sg 45)) d + 1))) 45 (muR 1 n (gN (sg 45)) (i + 1) (clR (sg 45))))) (congrArg (us _ 45) (muR_no hov).symm) ?_
              exact ihlp (i + 1)  (by omega) (by omega) trivial
            | succ r ihr =>
              intro t ht
              refine g_iload C 0 rfl dX5_doesTimes_92 ?_
              refine g_if_le C (tgt := 113) (by decide) dX5_doesTimes_94 (fun h94 => absurd h94 (nI_nle (by omega) (by omega))) (fun h94 => ?_)
              refine g_aload_n C 5 rfl rfl dX5_doesTimes_97 ?_
              refine g_iload C 1 rfl dX5_doesTimes_98 ?_
              refine g_iload C 1 rfl dX5_doesTimes_100 ?_
              refine g_callV1 [] C (c_X5_turnsOnce_up w tu (us (us (us sg 52 (fun k => pI 1 (mkP 1 n k))) 50 (fun d => whX (clR (sg 45) (6 + d)) (dN (clR (sg 45)) d + 1))) 45 (itR true (nI 1) (gN (sg 45)) t (upd (muR 1 n (gN (sg 45)) i (clR (sg 45))) 31 (nI i)))) (nI 1) (gN (sg 45)) (itR_ok hF0 (fun _ h => (gN_ok hok h).2) t) (fun d h => by show whX (clR (sg 45) (6 + d)) (dN (clR (sg 45)) d + 1) = _; unfold dN; rw [clR_lo (by omega), clR_lo (by omega)]; exact (gN_ok hok h).1) (fun _ h => (gN_ok hok h).2)) mt_X5_turnsOnce e_44 rfl ml_X5_70 im_X5_turnsOnce se_X5_turnsOnce (by decide) rfl (Nat.le_of_ble_eq_true rfl) dX5_doesTimes_102 ?_
              refine g_eq (sg' := (us (us (us (us sg 52 (fun k => pI 1 (mkP 1 n k))) 50 (fun d => whX (clR (sg 45) (6 + d)) (dN (clR (sg 45)) d + 1))) 45 (itR true (nI 1) (gN (sg 45)) t (upd (muR 1 n (gN (sg 45)) i (clR (sg 45))) 31 (nI i)))) 45 (tR true (nI 1) (gN (sg 45)) (itR true (nI 1) (gN (sg 45)) t (upd (muR 1 n (gN (sg 45)) i (clR (sg 45))) 31 (nI i)))))) (L' := [(7, .int (nI (r + 1))), (6, .int (nI 1)), (5, .int (nI i)), (4, .int (nI (smP 1 n 7))), (3, .int (czX (sg 45) (fun _ => nI 0) 12 12)), (0, .ref (ad w 44)), (1, .int (nI n)), (2, .int (nI 1))]) (S' := [.int (bI (blP true (wN (itR true (nI 1) (gN (sg 45)) t (upd (muR 1 n (gN (sg 45)) i (clR (sg 45))) 31 (nI i)))) (gN (sg 45)) (sN (itR true (nI 1) (gN (sg 45)) t (upd (muR 1 n (gN (sg 45)) i (clR (sg 45))) 31 (nI i)))) (sN (itR true (nI 1) (gN (sg 45)) t (upd (muR 1 n (gN (sg 45)) i (clR (sg 45))) 31 (nI i))) + 5 + reN (itR true (nI 1) (gN (sg 45)) t (upd (muR 1 n (gN (sg 45)) i (clR (sg 45))) 31 (nI i))))))]) rfl rfl rfl rfl ?_
              refine g_istore C (L' := [(8, .int (bI (blP true (wN (itR true (nI 1) (gN (sg 45)) t (upd (muR 1 n (gN (sg 45)) i (clR (sg 45))) 31 (nI i)))) (gN (sg 45)) (sN (itR true (nI 1) (gN (sg 45)) t (upd (muR 1 n (gN (sg 45)) i (clR (sg 45))) 31 (nI i)))) (sN (itR true (nI 1) (gN (sg 45)) t (upd (muR 1 n (gN (sg 45)) i (clR (sg 45))) 31 (nI i))) + 5 + reN (itR true (nI 1) (gN (sg 45)) t (upd (muR 1 n (gN (sg 45)) i (clR (sg 45))) 31 (nI i))))))), (7, .int (nI (r + 1))), (6, .int (nI 1)), (5, .int (nI i)), (4, .int (nI (smP 1 n 7))), (3, .int (czX (sg 45) (fun _ => nI 0) 12 12)), (0, .ref (ad w 44)), (1, .int (nI n)), (2, .int (nI 1))]) (by decide) rfl dX5_doesTimes_105 ?_
              refine g_iinc C (n := -1) (v := ((nI (r + 1)) + (-1))) (L' := [(7, .int ((nI (r + 1)) + (-1))), (8, .int (bI (blP true (wN (itR true (nI 1) (gN (sg 45)) t (upd (muR 1 n (gN (sg 45)) i (clR (sg 45))) 31 (nI i)))) (gN (sg 45)) (sN (itR true (nI 1) (gN (sg 45)) t (upd (muR 1 n (gN (sg 45)) i (clR (sg 45))) 31 (nI i)))) (sN (itR true (nI 1) (gN (sg 45)) t (upd (muR 1 n (gN (sg 45)) i (clR (sg 45))) 31 (nI i))) + 5 + reN (itR true (nI 1) (gN (sg 45)) t (upd (muR 1 n (gN (sg 45)) i (clR (sg 45))) 31 (nI i))))))), (6, .int (nI 1)), (5, .int (nI i)), (4, .int (nI (smP 1 n 7))), (3, .int (czX (sg 45) (fun _ => nI 0) 12 12)), (0, .ref (ad w 44)), (1, .int (nI n)), (2, .int (nI 1))]) 1 rfl rfl (by decide) rfl dX5_doesTimes_107 ?_
              refine g_goto C (tgt := 92) (by decide) dX5_doesTimes_110 ?_
              refine g_sub (L' := [(7, .int ((nI (r + 1)) + (-1))), (6, .int (nI 1)), (5, .int (nI i)), (4, .int (nI (smP 1 n 7))), (3, .int (czX (sg 45) (fun _ => nI 0) 12 12)), (0, .ref (ad w 44)), (1, .int (nI n)), (2, .int (nI 1))]) [0, 2, 3, 4, 5, 6, 7, 8] rfl ?_
              refine g_eq (L' := [(7, .int (nI r)), (6, .int (nI 1)), (5, .int (nI i)), (4, .int (nI (smP 1 n 7))), (3, .int (czX (sg 45) (fun _ => nI 0) 12 12)), (0, .ref (ad w 44)), (1, .int (nI n)), (2, .int (nI 1))]) rfl rfl (by rw [pk_m1]) rfl ?_
              refine g_sgE (sg' := (us (us (us sg 52 (fun k => pI 1 (mkP 1 n k))) 50 (fun d => whX (clR (sg 45) (6 + d)) (dN (clR (sg 45)) d + 1))) 45 (itR true (nI 1) (gN (sg 45)) (t + 1) (upd (muR 1 n (gN (sg 45)) i (clR (sg 45))) 31 (nI i))))) us_us ?_
              exact ihr (t + 1) (by omega)
          refine g_sub (L' := [(7, .int (nI (mkP 1 n i % 10))), (6, .int (nI 1)), (5, .int (nI i)), (4, .int (nI (smP 1 n 7))), (3, .int (czX (sg 45) (fun _ => nI 0) 12 12)), (0, .ref (ad w 44)), (1, .int (nI n)), (2, .int (nI 1))]) [0, 1, 2, 3, 4, 5, 6, 7] rfl ?_
          refine g_sgE (sg' := (us (us (us sg 52 (fun k => pI 1 (mkP 1 n k))) 50 (fun d => whX (clR (sg 45) (6 + d)) (dN (clR (sg 45)) d + 1))) 45 (itR true (nI 1) (gN (sg 45)) 0 (upd (muR 1 n (gN (sg 45)) i (clR (sg 45))) 31 (nI i))))) rfl ?_
          exact lpi (mkP 1 n i % 10) 0 (Nat.zero_add _)
  refine g_sgE (sg' := (us (us (us sg 52 (fun k => pI 1 (mkP 1 n k))) 50 (fun d => whX (clR (sg 45) (6 + d)) (dN (clR (sg 45)) d + 1))) 45 (muR 1 n (gN (sg 45)) 0 (clR (sg 45))))) (us_rot (by decide) (by decide)) ?_
  refine g_sub (L' := [(5, .int (nI 0)), (4, .int (nI (smP 1 n 7))), (3, .int (czX (sg 45) (fun _ => nI 0) 12 12)), (0, .ref (ad w 44)), (1, .int (nI n)), (2, .int (nI 1))]) [0, 1, 2, 3, 4, 5] rfl ?_
  exact lp (7 + 1) 0  (by omega) (by omega) trivial
