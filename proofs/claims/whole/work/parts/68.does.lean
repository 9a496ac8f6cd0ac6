def dsC (sg : Sg) (a : AS) (m : Nat) (r : Option Value) (s2 : Sg) : Prop := (∀ k, 44 ≤ k → s2 k = sg k) ∧
  ((¬ (pst a.2.2.2.2.1 a.2.2.2.2.2 m = a.2.2.2.2.2 ∧ 0 < m) ∧ r = some (.int ((-10) - nI (flP a.2.2.2.2.1 a.2.2.2.2.2 m))) ∧ CA s2 a) ∨
   ((pst a.2.2.2.2.1 a.2.2.2.2.2 m = a.2.2.2.2.2 ∧ 0 < m) ∧ ∃ o f, o < m ∧ rnO a.2.2.2.2.1 a.2.2.2.2.2 a.1 o = some f ∧ rnO a.2.2.2.2.1 a.2.2.2.2.2 a.1 (o + 1) = none ∧ r = some (.int ((-1000) - nI o)) ∧ CA s2 a) ∨
   ((pst a.2.2.2.2.1 a.2.2.2.2.2 m = a.2.2.2.2.2 ∧ 0 < m) ∧ ∃ f, rnO a.2.2.2.2.1 a.2.2.2.2.2 a.1 m = some f ∧ r = some (.int (nI m)) ∧ CA s2 (pushA a f)))
set_option maxRecDepth 100000 in
set_option maxHeartbeats 1000000 in
theorem c_X4_does (w : GW) (tu : Int64) (sg : Sg) (f0 : Nat → Int32) (ps : Nat → Nat → Int32) (st : Nat) (rf : Nat → Int32) (tx : Nat → Nat) (len m nx : Nat) (hC : CA sg (f0, ps, st, rf, tx, len)) (hok : ROk f0) (h5 : st ≤ 5) (hl : len ≤ 120) (ht : ∀ j, j < len → tx j ≤ 127) (hn5 : nx < 5) (hnx : sg 11 1 = nI nx) (hring : ∀ i, i < st → RE (rowC sg (13 + 5 * ((nx + 5 - st + i) % 5))) (ps i)) (hm : okP tx len m) (hend : pst tx len m = len ∨ (pst tx len m < len ∧ (odR tx len (pst tx len m)).1 = false)) : KtP w yX4_does cX4_does 3 (some .int) 6 [.ref (ad w 0)] sg tu (fun r s2 _ => dsC sg (f0, ps, st, rf, tx, len) m r s2) := by
  refine KtP.of RX4 rfl [(0, .ref (ad w 0))] (by decide) rfl (Nat.le_of_ble_eq_true rfl) (fun z C E => ?_)
  refine g_aload_n C 0 rfl rfl dX4_does_0 ?_
  refine g_getR C (j := 4) cls4 e_0 rfl (by decide) fl_X4_36 dX4_does_1 ?_
  refine g_aload_n C 0 rfl rfl dX4_does_4 ?_
  refine g_getR C (j := 3) cls4 e_0 rfl (by decide) fl_X4_29 dX4_does_5 ?_
  refine g_callVP [] C (c_X0_read w tu sg tx len m hC.2.2.2.2.1 hl (fun j hj => ⟨hC.2.2.2.2.2 j hj, ht j hj⟩) hm hend) mt_X0_read e_40 rfl ml_X4_134 im_X0_read se_X0_read (by decide) rfl (Nat.le_of_ble_eq_true rfl) dX4_does_8 (fun r0 sr t0 hP0 => ?_)
  obtain ⟨ht0, hF0, hP0⟩ := hP0
  subst ht0
  rcases hP0 with ⟨he1, he2, hr0, h3, hR⟩ | ⟨he, hr0⟩
  · subst hr0
    refine g_eq (S' := [.int (-1)]) rfl rfl rfl rfl ?_
    refine g_istore_n C (L' := [(1, .int (-1)), (0, .ref (ad w 0))]) rfl (by decide) rfl dX4_does_11 ?_
    refine g_iload_n C 0 rfl rfl dX4_does_12 ?_
    refine g_iconst C (v := (-1)) (by decide) dX4_does_13 ?_
    refine g_icmp_eq C (tgt := 22) (by decide) dX4_does_14 (fun h14 => ?_) (fun h14 => absurd rfl h14)
    refine g_aload_n C 1 rfl rfl dX4_does_22 ?_
    refine g_callV0 [] C (c_X4_remember w tu sr  ) mt_X4_remember e_0 rfl ml_X4_40 im_X4_remember se_X4_remember (by decide) rfl (Nat.le_of_ble_eq_true rfl) dX4_does_23 ?_
    refine g_eq (sg' := (wrR sr 6 (rowC sr 1))) (L' := [(1, .int (-1)), (0, .ref (ad w 0))]) (S' := []) rfl rfl rfl rfl ?_
    refine g_iconst C (v := (nI 0)) (by decide) dX4_does_26 ?_
    refine g_istore_n C (L' := [(2, .int (nI 0)), (1, .int (-1)), (0, .ref (ad w 0))]) rfl (by decide) rfl dX4_does_27 ?_
    have hm60 : m ≤ 60 := by have := pst_ge m hm; omega
    have lp : ∀ (r o : Nat) (sv : Sg) (f : Nat → Int32), o + r = m → rnO tx len f0 o = some f → rowC sv 1 = f → ROk f → rowC sv 6 = f0 → (∀ k, k = 0 ∨ 11 ≤ k → sv k = sr k) → G z w 3 sv tu 28 [(2, .int (nI o)), (1, .int (-1)), (0, .ref (ad w 0))] [] := by
      intro r
      induction r with
      | zero =>
        intro o sv f hor hrn h1 hfo h6 hV
        have hS : ∀ k, k = 0 ∨ (11 ≤ k ∧ k < 40) ∨ 44 ≤ k → sv k = sg k := fun k hk => (hV k (by omega)).trans (hF0 k (by omega))
        have hom : m = o := by omega
        subst hom
        refine g_iload_n C 0 rfl rfl dX4_does_28 ?_
        refine g_aload_n C 2 rfl rfl dX4_does_29 ?_
        refine g_getR C (j := 4) cls4 e_0 rfl (by decide) fl_X4_36 dX4_does_30 ?_
        refine g_getI C (j := 3) cls0 e_40 rfl (by decide) fl_X4_138 dX4_does_33 ?_
        refine g_top (y := (nI m)) ((congrFun (hV 40 (by omega)) 3).trans h3) ?_
        refine g_icmpN_ge C m m (by omega) (by omega) (tgt := 96) (by decide) dX4_does_36 (fun h36 => ?_) (fun h36 => absurd h36 (by omega))
        refine g_aload_n C 2 rfl rfl dX4_does_96 ?_
        refine g_getR C (j := 2) cls4 e_0 rfl (by decide) fl_X4_22 dX4_does_97 ?_
        refine g_aload_n C 2 rfl rfl dX4_does_100 ?_
        refine g_getR C (j := 1) cls4 e_0 rfl (by decide) fl_X4_16 dX4_does_101 ?_
        refine g_callV0 [] C (c_X1_keep w tu sv  nx st hn5 (by rw [hS 11 (by omega)]; exact hnx) (by rw [hS 11 (by omega)]; exact hC.2.2.1) h5) mt_X1_keep e_11 rfl ml_X4_159 im_X1_keep se_X1_keep (by decide) rfl (Nat.le_of_ble_eq_true rfl) dX4_does_104 ?_
        refine g_eq (sg' := (us (wrR sv (13 + 5 * nx) (rowC sv 6)) 11 (upd (upd (sv 11) 1 (nI ((nx + 1) % 5))) 2 (nI (if st < 5 then st + 1 else 5))))) (L' := [(2, .int (nI m)), (1, .int (-1)), (0, .ref (ad w 0))]) (S' := []) rfl rfl rfl rfl ?_
        refine g_aload_n C 2 rfl rfl dX4_does_107 ?_
        refine g_getR C (j := 4) cls4 e_0 rfl (by decide) fl_X4_36 dX4_does_108 ?_
        refine g_getI C (j := 3) cls0 e_40 rfl (by decide) fl_X4_138 dX4_does_111 ?_
        refine g_top (y := (nI m)) (show kpS sv nx st 40 3 = nI m by rw [kp_far hn5 (by omega)]; exact (congrFun (hV 40 (by omega)) 3).trans h3) ?_
        exact g_iretP C E dX4_does_114 (⟨fun k hk => (kp_far (S := sv) (sz := st) hn5 (by omega)).trans (hS k (by omega)), Or.inr (Or.inr ⟨⟨he1, he2⟩, f, hrn, rfl, CA_kp hC h5 hn5 hring h1 h6 (hS 0 (by omega)) (fun k k1 k2 => hS k (by omega))⟩)⟩)
      | succ r ih =>
        intro o sv f hor hrn h1 hfo h6 hV
        have hS : ∀ k, k = 0 ∨ (11 ≤ k ∧ k < 40) ∨ 44 ≤ k → sv k = sg k := fun k hk => (hV k (by omega)).trans (hF0 k (by omega))
        refine g_iload_n C 0 rfl rfl dX4_does_28 ?_
        refine g_aload_n C 2 rfl rfl dX4_does_29 ?_
        refine g_getR C (j := 4) cls4 e_0 rfl (by decide) fl_X4_36 dX4_does_30 ?_
        refine g_getI C (j := 3) cls0 e_40 rfl (by decide) fl_X4_138 dX4_does_33 ?_
        refine g_top (y := (nI m)) ((congrFun (hV 40 (by omega)) 3).trans h3) ?_
        refine g_icmpN_ge C o m (by omega) (by omega) (tgt := 96) (by decide) dX4_does_36 (fun h36 => absurd h36 (by omega)) (fun h36 => ?_)
        refine g_aload_n C 2 rfl rfl dX4_does_39 ?_
        refine g_aload_n C 2 rfl rfl dX4_does_40 ?_
        refine g_getR C (j := 4) cls4 e_0 rfl (by decide) fl_X4_36 dX4_does_41 ?_
        refine g_getR C (j := 0) cls0 e_40 rfl (by decide) fl_X4_142 dX4_does_44 ?_
        refine g_iload_n C 0 rfl rfl dX4_does_47 ?_
        refine g_ialdN C o e_41 (by omega) (by decide) dX4_does_48 ?_
        refine g_top (y := (nI (tx (pst tx len o)))) ((congrFun (hV 41 (by omega)) o).trans (hR o (by omega)).1) ?_
        refine g_aload_n C 2 rfl rfl dX4_does_49 ?_
        refine g_getR C (j := 4) cls4 e_0 rfl (by decide) fl_X4_36 dX4_does_50 ?_
        refine g_getR C (j := 1) cls0 e_40 rfl (by decide) fl_X4_145 dX4_does_53 ?_
        refine g_iload_n C 0 rfl rfl dX4_does_56 ?_
        refine g_ialdN C o e_42 (by omega) (by decide) dX4_does_57 ?_
        refine g_aload_n C 2 rfl rfl dX4_does_58 ?_
        refine g_getR C (j := 4) cls4 e_0 rfl (by decide) fl_X4_36 dX4_does_59 ?_
        refine g_getR C (j := 2) cls0 e_40 rfl (by decide) fl_X4_148 dX4_does_62 ?_
        refine g_iload_n C 0 rfl rfl dX4_does_65 ?_
        refine g_ialdN C o e_43 (by omega) (by decide) dX4_does_66 ?_
        refine g_callVP [] C (c_X4_perform w tu sv (tx (pst tx len o)) (odR tx len (pst tx len o)).2.2.1 (odR tx len (pst tx len o)).2.2.2 (sv 42 o) (sv 43 o) (odR_let (hm o (by omega)).2) (fun q => by rw [hV 42 (by omega)]; exact (hR o (by omega)).2.1 q) (fun q => by rw [hV 43 (by omega)]; exact (hR o (by omega)).2.2 q) odR_lt.1 odR_lt.2 (by rw [h1]; exact hfo)) mt_X4_perform e_0 rfl ml_X4_151 im_X4_perform se_X4_perform (by decide) rfl (Nat.le_of_ble_eq_true rfl) dX4_does_67 (fun r2 s2 t2 hP => ?_)
        obtain ⟨ht2, hsc, hP⟩ := hP
        subst ht2
        rw [h1] at hP
        have h62 : rowC s2 6 = f0 := (rowC_eq (fun k k1 k2 => hsc k (by omega))).trans h6
        rcases hP with ⟨f2, v, hop, hs1, hr2, hv⟩ | ⟨hop, v, hr2, hv⟩
        · subst hr2
          refine g_eq (S' := [.int v]) rfl rfl rfl rfl ?_
          refine g_if_ge C (tgt := 90) (by decide) dX4_does_70 (fun h70 => ?_) (fun h70 => absurd hv h70)
          refine g_iinc C (n := 1) (v := (nI (o + 1))) (L' := [(2, .int (nI (o + 1))), (1, .int (-1)), (0, .ref (ad w 0))]) 0 rfl (nI_add o 1) (by decide) rfl dX4_does_90 ?_
          refine g_goto C (tgt := 28) (by decide) dX4_does_93 ?_
          refine g_sub (L' := [(2, .int (nI (o + 1))), (1, .int (-1)), (0, .ref (ad w 0))]) [0, 1, 2] rfl ?_
          exact ih (o + 1) s2 f2 (by omega) ((rnO_s hrn).trans hop) hs1 (opR_ok hfo hop) h62 (fun k hk => (hsc k (by omega)).trans (hV k hk))
        · subst hr2
          refine g_eq (S' := [.int v]) rfl rfl rfl rfl ?_
          refine g_if_ge C (tgt := 90) (by decide) dX4_does_70 (fun h70 => absurd h70 hv) (fun h70 => ?_)
          refine g_aload_n C 2 rfl rfl dX4_does_73 ?_
          refine g_getR C (j := 0) cls4 e_0 rfl (by decide) fl_X4_10 dX4_does_74 ?_
          refine g_aload_n C 2 rfl rfl dX4_does_77 ?_
          refine g_getR C (j := 1) cls4 e_0 rfl (by decide) fl_X4_16 dX4_does_78 ?_
          refine g_callV0 [] C (c_X3_copyFrom_1_6 w tu s2  ) mt_X3_copyFrom e_1 rfl ml_X4_155 im_X3_copyFrom se_X3_copyFrom (by decide) rfl (Nat.le_of_ble_eq_true rfl) dX4_does_81 ?_
          refine g_eq (sg' := (wrR s2 1 (rowC s2 6))) (L' := [(2, .int (nI o)), (1, .int (-1)), (0, .ref (ad w 0))]) (S' := []) rfl rfl rfl rfl ?_
          refine g_sipush C (v := (-1000)) (by decide) dX4_does_84 ?_
          refine g_iload_n C 0 rfl rfl dX4_does_87 ?_
          refine g_isub C dX4_does_88 ?_
          exact g_iretP C E dX4_does_89 (⟨fun k hk => (wrR_n (by omega)).trans ((hsc k (by omega)).trans (hS k (by omega))), Or.inr (Or.inl ⟨⟨he1, he2⟩, o, f, by omega, hrn, (rnO_s hrn).trans hop, rfl, CA_same hC (rowC_wr.trans (h62.trans hC.1.symm)) ((wrR_n (by omega)).trans ((hsc 0 (by omega)).trans (hS 0 (by omega)))) (fun k k1 k2 => (wrR_n (by omega)).trans ((hsc k (by omega)).trans (hS k (by omega))))⟩)⟩)
    exact lp m 0 _ f0 (Nat.zero_add _) rfl (S1_r.trans ((rowC_eq (fun k k1 k2 => hF0 k (by omega))).trans hC.1)) hok (rowC_wr.trans ((rowC_eq (fun k k1 k2 => hF0 k (by omega))).trans hC.1)) (fun k hk => wrR_n (by omega))
  · subst hr0
    refine g_eq (S' := [.int (nI (flP tx len m))]) rfl rfl rfl rfl ?_
    refine g_istore_n C (L' := [(1, .int (nI (flP tx len m))), (0, .ref (ad w 0))]) rfl (by decide) rfl dX4_does_11 ?_
    refine g_iload_n C 0 rfl rfl dX4_does_12 ?_
    refine g_iconst C (v := (-1)) (by decide) dX4_does_13 ?_
    refine g_icmp_eq C (tgt := 22) (by decide) dX4_does_14 (fun h14 => absurd h14 (nI_nm (by have := flP_le hend; omega))) (fun h14 => ?_)
    refine g_bipush C (v := (-10)) (by decide) dX4_does_17 ?_
    refine g_iload_n C 0 rfl rfl dX4_does_19 ?_
    refine g_isub C dX4_does_20 ?_
    exact g_iretP C E dX4_does_21 (⟨fun k hk => hF0 k (by omega), Or.inl ⟨he, rfl, CA_same hC (rowC_eq (fun k k1 k2 => hF0 k (by omega))) (hF0 0 (by omega)) (fun k k1 k2 => hF0 k (by omega))⟩⟩)
