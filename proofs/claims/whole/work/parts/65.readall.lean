def rdC (tx : Nat → Nat) (len m : Nat) (s : Sg) : Prop := ∀ o, o < m → s 41 o = nI (tx (pst tx len o)) ∧ (¬ mnI (tx (pst tx len o)) = nI 0 → s 42 o = nI (odR tx len (pst tx len o)).2.2.1) ∧ (mnI (tx (pst tx len o)) = nI 2 → s 43 o = nI (odR tx len (pst tx len o)).2.2.2)
def rfC (sg s : Sg) : Prop := ∀ k, k < 40 ∨ 43 < k → s k = sg k
theorem rdC_s {tx : Nat → Nat} {len o : Nat} {s s2 : Sg} (h : rdC tx len o s) (h2 : otC s tx len (pst tx len o) o s2) : rdC tx len (o + 1) s2 := by
  intro i hi
  obtain ⟨-, a2, a3, a4, a5, -⟩ := h2
  by_cases hio : i = o
  · subst hio
    exact ⟨by rw [a2, upd_same], a4, a5⟩
  · obtain ⟨b1, b2, b3⟩ := h i (by omega)
    exact ⟨by rw [a2, upd_ne hio]; exact b1, fun q => by rw [(a3 i hio).1]; exact b2 q, fun q => by rw [(a3 i hio).2]; exact b3 q⟩
theorem rdC_40 {tx : Nat → Nat} {len o : Nat} {s : Sg} {g : Nat → Int32} (h : rdC tx len o s) : rdC tx len o (us s 40 g) := h
theorem rfC_40 {sg s : Sg} {g : Nat → Int32} (h : rfC sg s) : rfC sg (us s 40 g) := fun k hk => by rw [us_ne (by omega)]; exact h k hk
theorem rfC_t {sg s s2 : Sg} (h : rfC sg s) (h2 : ∀ k, k < 40 ∨ 43 < k → s2 k = s k) : rfC sg s2 := fun k hk => (h2 k hk).trans (h k hk)
def irC (sg : Sg) (tu : Int64) (tx : Nat → Nat) (len m : Nat) (r : Option Value) (s2 : Sg) (t2 : Int64) : Prop := tu = t2 ∧ rfC sg s2 ∧ ((pst tx len m = len ∧ 0 < m ∧ r = some (.int (-1)) ∧ s2 40 3 = nI m ∧ rdC tx len m s2) ∨ (¬ (pst tx len m = len ∧ 0 < m) ∧ r = some (.int (nI (flP tx len m)))))
set_option maxRecDepth 100000 in
set_option maxHeartbeats 1000000 in
theorem c_X0_read (w : GW) (tu : Int64) (sg : Sg) (tx : Nat → Nat) (len m : Nat) (htl : sg 38 1 = nI len) (hl : len ≤ 120) (htx : ∀ j, j < len → sg 39 j = nI (tx j) ∧ tx j ≤ 127) (hm : okP tx len m) (hend : pst tx len m = len ∨ (pst tx len m < len ∧ (odR tx len (pst tx len m)).1 = false)) : KtP w yX0_read cX0_read 3 (some .int) 5 [.ref (ad w 40), .ref (ad w 38)] sg tu (irC sg tu tx len m) := by
  refine KtP.of RX0 rfl [(0, .ref (ad w 40)), (1, .ref (ad w 38))] (by decide) rfl (Nat.le_of_ble_eq_true rfl) (fun z C E => ?_)
  refine g_aload_n C 0 rfl rfl dX0_read_0 ?_
  refine g_iconst C (v := (nI 0)) (by decide) dX0_read_1 ?_
  refine g_putI C (j := 4) cls0 e_40 rfl (by decide) rfl rfl fl_X0_25 dX0_read_2 ?_
  refine g_sgE (sg' := (us sg 40 (upd (sg 40) 4 (nI 0)))) rfl ?_
  refine g_iconst C (v := (nI 0)) (by decide) dX0_read_5 ?_
  refine g_istore_n C (L' := [(2, .int (nI 0)), (0, .ref (ad w 40)), (1, .ref (ad w 38))]) rfl (by decide) rfl dX0_read_6 ?_
  have lp : ∀ (r o p : Nat) (sv : Sg), o + r = m → sv 40 4 = nI p → p ≤ len → sk tx len p = pst tx len o → (0 < o → pst tx len o < len) → rfC sg sv → rdC tx len o sv → G z w 3 sv tu 7 [(2, .int (nI o)), (0, .ref (ad w 40)), (1, .ref (ad w 38))] [] := by
    intro r
    induction r with
    | zero =>
      intro o p sv hor h4 hpl hsk hlt0 hF hR
      have hge := pst_ge o (fun q hq => hm q (by omega))
      have h60 : o < 60 := by
        by_cases h0 : 0 < o
        · have := hlt0 h0; omega
        · omega
      have htl2 : sv 38 1 = nI len := by rw [hF 38 (by omega)]; exact htl
      have htx2 : ∀ j, j < len → sv 39 j = nI (tx j) ∧ tx j ≤ 127 := fun j hj => by rw [hF 39 (by omega)]; exact htx j hj
      have hom : m = o := by omega
      refine g_iload_n C 0 rfl rfl dX0_read_7 ?_
      refine g_bipush C (v := (nI 60)) (by decide) dX0_read_8 ?_
      refine g_icmpN_ge C o 60 (by omega) (by omega) (tgt := 58) (by decide) dX0_read_10 (fun h10 => absurd h10 (by omega)) (fun h10 => ?_)
      refine g_aload_n C 1 rfl rfl dX0_read_13 ?_
      refine g_aload_n C 2 rfl rfl dX0_read_14 ?_
      refine g_iload_n C 0 rfl rfl dX0_read_15 ?_
      refine g_callVP [] C (c_X0_readOrder w tu sv o tx len p h60 htl2 hl htx2 h4 hpl) mt_X0_readOrder e_40 rfl ml_X0_28 im_X0_readOrder se_X0_readOrder (by decide) rfl (Nat.le_of_ble_eq_true rfl) dX0_read_16 (fun r2 s2 t2 hP => ?_)
      obtain ⟨ht2, hP⟩ := hP
      subst ht2
      rw [hsk] at hP
      rcases hP with ⟨hq, -, -⟩ | ⟨hq, hr2, hP⟩
      · rcases hend with h9 | h9
        · exact absurd hq.1 (by rw [← hom, h9]; omega)
        · exact absurd hq.2 (by rw [← hom, h9.2]; exact Bool.false_ne_true)
      subst hr2
      refine g_eq (S' := [.int (nI 0)]) rfl rfl rfl rfl ?_
      refine g_if_ne C (tgt := 27) (by decide) dX0_read_19 (fun h19 => absurd h19 (by decide)) (fun h19 => ?_)
      refine g_aload_n C 1 rfl rfl dX0_read_22 ?_
      refine g_getI C (j := 4) cls0 e_40 rfl (by decide) fl_X0_25 dX0_read_23 ?_
      refine g_top (y := (nI (flP tx len m))) (hP.1.trans (congrArg nI (by unfold flP; rw [hom]; by_cases h9 : pst tx len o < len; rw [if_pos h9, if_neg (by omega)]; rw [if_neg h9, if_pos (by omega)]; have h8 : o = 0 := Nat.eq_zero_of_not_pos (fun q => h9 (hlt0 q)); rw [h8] at hge h9; omega))) ?_
      exact g_iretP C E dX0_read_26 (⟨rfl, rfC_t hF hP.2, Or.inr ⟨fun q => by have h8 := hlt0 (by omega); rw [hom] at q; omega, rfl⟩⟩)
    | succ r ih =>
      intro o p sv hor h4 hpl hsk hlt0 hF hR
      have hge := pst_ge o (fun q hq => hm q (by omega))
      have h60 : o < 60 := by
        by_cases h0 : 0 < o
        · have := hlt0 h0; omega
        · omega
      have htl2 : sv 38 1 = nI len := by rw [hF 38 (by omega)]; exact htl
      have htx2 : ∀ j, j < len → sv 39 j = nI (tx j) ∧ tx j ≤ 127 := fun j hj => by rw [hF 39 (by omega)]; exact htx j hj
      have hlt := hm o (by omega)
      refine g_iload_n C 0 rfl rfl dX0_read_7 ?_
      refine g_bipush C (v := (nI 60)) (by decide) dX0_read_8 ?_
      refine g_icmpN_ge C o 60 (by omega) (by omega) (tgt := 58) (by decide) dX0_read_10 (fun h10 => absurd h10 (by omega)) (fun h10 => ?_)
      refine g_aload_n C 1 rfl rfl dX0_read_13 ?_
      refine g_aload_n C 2 rfl rfl dX0_read_14 ?_
      refine g_iload_n C 0 rfl rfl dX0_read_15 ?_
      refine g_callVP [] C (c_X0_readOrder w tu sv o tx len p h60 htl2 hl htx2 h4 hpl) mt_X0_readOrder e_40 rfl ml_X0_28 im_X0_readOrder se_X0_readOrder (by decide) rfl (Nat.le_of_ble_eq_true rfl) dX0_read_16 (fun r2 s2 t2 hP => ?_)
      obtain ⟨ht2, hP⟩ := hP
      subst ht2
      rw [hsk] at hP
      rcases hP with ⟨-, hr2, hP⟩ | ⟨hq, -, -⟩
      rotate_left
      · exact absurd hlt hq
      subst hr2
      refine g_eq (S' := [.int (nI 1)]) rfl rfl rfl rfl ?_
      have hF2 : rfC sg s2 := rfC_t hF hP.2.2.2.2.2
      have htl3 : s2 38 1 = nI len := by rw [hF2 38 (by omega)]; exact htl
      have htx3 : ∀ j, j < len → s2 39 j = nI (tx j) ∧ tx j ≤ 127 := fun j hj => by rw [hF2 39 (by omega)]; exact htx j hj
      have hop := odR_pos hlt.1 hlt.2
      have hskl : sk tx len (odR tx len (pst tx len o)).2.1 ≤ len := sk_le hop.2
      refine g_if_ne C (tgt := 27) (by decide) dX0_read_19 (fun h19 => ?_) (fun h19 => absurd h19 (by decide))
      refine g_aload_n C 1 rfl rfl dX0_read_27 ?_
      refine g_iload_n C 0 rfl rfl dX0_read_28 ?_
      refine g_iconst C (v := (nI 1)) (by decide) dX0_read_29 ?_
      refine g_iadd C dX0_read_30 ?_
      refine g_top (y := (nI (o + 1))) (nI_add o 1) ?_
      refine g_putI C (j := 3) cls0 e_40 rfl (by decide) rfl rfl fl_X0_21 dX0_read_31 ?_
      refine g_sgE (sg' := (us s2 40 (upd (s2 40) 3 (nI (o + 1))))) rfl ?_
      refine g_aload_n C 1 rfl rfl dX0_read_34 ?_
      refine g_aload_n C 2 rfl rfl dX0_read_35 ?_
      refine g_callV0 [] C (c_X0_skipBlanks w tu (us s2 40 (upd (s2 40) 3 (nI (o + 1))))  tx len ((odR tx len (pst tx len o)).2.1) htl3 hl htx3 hP.1 hop.2) mt_X0_skipBlanks e_40 rfl ml_X0_32 im_X0_skipBlanks se_X0_skipBlanks (by decide) rfl (Nat.le_of_ble_eq_true rfl) dX0_read_36 ?_
      refine g_eq (sg' := (us (us s2 40 (upd (s2 40) 3 (nI (o + 1)))) 40 (upd (upd (s2 40) 3 (nI (o + 1))) 4 (nI (sk tx len ((odR tx len (pst tx len o)).2.1)))))) (L' := [(2, .int (nI o)), (0, .ref (ad w 40)), (1, .ref (ad w 38))]) (S' := []) rfl rfl rfl rfl ?_
      refine g_aload_n C 1 rfl rfl dX0_read_39 ?_
      refine g_getI C (j := 4) cls0 e_40 rfl (by decide) fl_X0_25 dX0_read_40 ?_
      refine g_top (y := (nI (sk tx len ((odR tx len (pst tx len o)).2.1)))) rfl ?_
      refine g_aload_n C 2 rfl rfl dX0_read_43 ?_
      refine g_getI C (j := 1) cls2 e_38 rfl (by decide) fl_X0_36 dX0_read_44 ?_
      refine g_top (y := (nI len)) htl3 ?_
      refine g_icmpN_lt C (sk tx len ((odR tx len (pst tx len o)).2.1)) len (by omega) (by omega) (tgt := 52) (by decide) dX0_read_47 (fun h47 => ?_) (fun h47 => ?_)
      ·
        have h47 : pst tx len (o + 1) < len := h47
        refine g_iinc C (n := 1) (v := (nI (o + 1))) (L' := [(2, .int (nI (o + 1))), (0, .ref (ad w 40)), (1, .ref (ad w 38))]) 0 rfl (nI_add o 1) (by decide) rfl dX0_read_52 ?_
        refine g_goto C (tgt := 7) (by decide) dX0_read_55 ?_
        refine g_sub (L' := [(2, .int (nI (o + 1))), (0, .ref (ad w 40)), (1, .ref (ad w 38))]) [0, 1, 2] rfl ?_
        exact ih (o + 1) (pst tx len (o + 1)) _ (by omega) rfl (by omega) (sk_sk hop.2) (fun _ => by omega) (rfC_40 (rfC_40 hF2)) (rdC_40 (rdC_40 (rdC_s hR hP)))
      ·
        have h47 : len ≤ pst tx len (o + 1) := h47
        have hom : m = o + 1 := Nat.le_antisymm (Nat.le_of_not_lt (fun q => by have := (hm (o + 1) q).1; omega)) (by omega)
        have hpl2 : pst tx len (o + 1) ≤ len := sk_le hop.2
        refine g_iconst C (v := (-1)) (by decide) dX0_read_50 ?_
        exact g_iretP C E dX0_read_51 (⟨rfl, rfC_40 (rfC_40 hF2), Or.inl ⟨by rw [hom]; omega, by omega, rfl, by rw [hom]; rfl, by rw [hom]; exact rdC_40 (rdC_40 (rdC_s hR hP))⟩⟩)
  exact lp m 0 0 _ (Nat.zero_add _) rfl (Nat.zero_le _) rfl (fun q => absurd q (by omega)) (fun k hk => us_ne (by omega)) (fun o ho => absurd ho (by omega))
