/-- what is read of the first m orders -/
def rdI (tx : Nat → Nat) (len m : Nat) (s : Sg) : Prop := ∀ o, o < m → s 53 o = nI (tx (pst tx len o)) ∧ (¬ mnI (tx (pst tx len o)) = nI 0 → s 54 (2 * o) = nI (odR tx len (pst tx len o)).2.2.1) ∧ (mnI (tx (pst tx len o)) = nI 2 → s 54 (2 * o + 1) = nI (odR tx len (pst tx len o)).2.2.2)
/-- nothing but the reader's own cells is others -/
def rdF (sg s : Sg) : Prop := (∀ j, j ≠ 12 → j ≠ 13 → j ≠ 14 → s 44 j = sg 44 j) ∧ ∀ k, k ≠ 44 → k ≠ 53 → k ≠ 54 → s k = sg k
/-- where the fault is -/
def flP (tx : Nat → Nat) (len m : Nat) : Nat := if pst tx len m = len then pst tx len 0 else (odR tx len (pst tx len m)).2.1
theorem rdI_s {tx : Nat → Nat} {len o : Nat} {s s2 : Sg} (h : rdI tx len o s) (h2 : otP s tx len (pst tx len o) o s2) : rdI tx len (o + 1) s2 := by
  intro i hi
  obtain ⟨-, -, -, a4, a5, a6, a7, -⟩ := h2
  by_cases hio : i = o
  · subst hio
    exact ⟨by rw [a4, upd_same], a6, a7⟩
  · obtain ⟨b1, b2, b3⟩ := h i (by omega)
    exact ⟨by rw [a4, upd_ne hio]; exact b1, fun q => by rw [a5 _ (by omega) (by omega)]; exact b2 q, fun q => by rw [a5 _ (by omega) (by omega)]; exact b3 q⟩
theorem rdF_t {sg s s2 : Sg} {tx : Nat → Nat} {len p o : Nat} (h : rdF sg s) (h2 : otP s tx len p o s2) : rdF sg s2 :=
  ⟨fun j j1 j2 j3 => (h2.2.2.1 j j1 j2).trans (h.1 j j1 j2 j3), fun k k1 k2 k3 => (h2.2.2.2.2.2.2.2 k k1 k2 k3).trans (h.2 k k1 k2 k3)⟩
theorem rdF_n {sg s s2 : Sg} {tx : Nat → Nat} {len p : Nat} (h : rdF sg s) (h2 : onP s tx len p s2) : rdF sg s2 :=
  ⟨fun j j1 j2 j3 => (h2.2.1 j j1 j2 j3).trans (h.1 j j1 j2 j3), fun k k1 k2 k3 => (h2.2.2 k k1 k2 k3).trans (h.2 k k1 k2 k3)⟩
theorem rdF_13 {sg s : Sg} {x : Int32} (h : rdF sg s) : rdF sg (us s 44 (upd (s 44) 13 x)) :=
  ⟨fun j j1 j2 j3 => by show upd (s 44) 13 x j = _; rw [upd_ne j2]; exact h.1 j j1 j2 j3, fun k k1 k2 k3 => by rw [us_ne k1]; exact h.2 k k1 k2 k3⟩
theorem rdF_14 {sg s : Sg} {x : Int32} (h : rdF sg s) : rdF sg (us s 44 (upd (s 44) 14 x)) :=
  ⟨fun j j1 j2 j3 => by show upd (s 44) 14 x j = _; rw [upd_ne j3]; exact h.1 j j1 j2 j3, fun k k1 k2 k3 => by rw [us_ne k1]; exact h.2 k k1 k2 k3⟩
theorem rdI_13 {tx : Nat → Nat} {len o j : Nat} {s : Sg} {x : Int32} (h : rdI tx len o s) : rdI tx len o (us s 44 (upd (s 44) j x)) := h
def irP (sg : Sg) (tu : Int64) (tx : Nat → Nat) (len m : Nat) (r : Option Value) (s2 : Sg) (t2 : Int64) : Prop := tu = t2 ∧ rdF sg s2 ∧ ((pst tx len m = len ∧ 0 < m ∧ r = some (.int (nI 1)) ∧ s2 44 12 = nI m ∧ rdI tx len m s2) ∨ (¬ (pst tx len m = len ∧ 0 < m) ∧ r = some (.int (nI 0)) ∧ s2 44 14 = nI (flP tx len m)))
set_option maxRecDepth 100000 in
set_option maxHeartbeats 1000000 in
theorem c_X5_isRead (w : GW) (tu : Int64) (sg : Sg) (tx : Nat → Nat) (by_ m : Nat) (hby : sg 44 6 = nI by_) (hb : by_ ≤ 120) (htx : ∀ j, j < by_ → sg 49 j = nI (tx j) ∧ tx j ≤ 127) (hm : okP tx by_ m) (hend : pst tx by_ m = by_ ∨ (pst tx by_ m < by_ ∧ (odR tx by_ (pst tx by_ m)).1 = false)) : KtP w yX5_isRead cX5_isRead 1 (some .boolean) 5 [.ref (ad w 44)] sg tu (irP sg tu tx by_ m) := by
  refine KtP.of RX5 rfl [(0, .ref (ad w 44))] (by decide) rfl (Nat.le_of_ble_eq_true rfl) (fun z C E => ?_)
  refine g_aload_n C 0 rfl rfl dX5_isRead_0 ?_
  refine g_iconst C (v := (nI 0)) (by decide) dX5_isRead_1 ?_
  refine g_putI C (j := 13) cls5 e_44 rfl (by decide) rfl rfl fl_X5_183 dX5_isRead_2 ?_
  refine g_sgE (sg' := (us sg 44 (upd (sg 44) 13 (nI 0)))) rfl ?_
  refine g_aload_n C 0 rfl rfl dX5_isRead_5 ?_
  refine g_iconst C (v := (nI 0)) (by decide) dX5_isRead_6 ?_
  refine g_putI C (j := 12) cls5 e_44 rfl (by decide) rfl rfl fl_X5_201 dX5_isRead_7 ?_
  refine g_sgE (sg' := (us sg 44 (upd (upd (sg 44) 13 (nI 0)) 12 (nI 0)))) us_us ?_
  refine g_aload_n C 0 rfl rfl dX5_isRead_10 ?_
  refine g_callV0 [] C (c_X5_blanks w tu (us sg 44 (upd (upd (sg 44) 13 (nI 0)) 12 (nI 0)))  tx by_ 0 hby hb rfl (Nat.zero_le _) htx) mt_X5_blanks e_44 rfl ml_X5_192 im_X5_blanks se_X5_blanks (by decide) rfl (Nat.le_of_ble_eq_true rfl) dX5_isRead_11 ?_
  refine g_eq (sg' := (us (us sg 44 (upd (upd (sg 44) 13 (nI 0)) 12 (nI 0))) 44 (upd (upd (upd (sg 44) 13 (nI 0)) 12 (nI 0)) 13 (nI (sk tx by_ 0))))) (L' := [(0, .ref (ad w 44))]) (S' := []) rfl rfl rfl rfl ?_
  have lp : ∀ (r o : Nat) (sv : Sg), o + r = m → sv 44 13 = nI (pst tx by_ o) → sv 44 12 = nI o → rdF sg sv → rdI tx by_ o sv → G z w 1 sv tu 14 [(0, .ref (ad w 44))] [] := by
    intro r
    induction r with
    | zero =>
      intro o sv hor h13 h12 hF hR
      have hge := pst_ge o (fun q hq => hm q (by omega))
      have hom : m = o := by omega
      subst hom
      refine g_aload_n C 0 rfl rfl dX5_isRead_14 ?_
      refine g_getI C (j := 13) cls5 e_44 rfl (by decide) fl_X5_183 dX5_isRead_15 ?_
      refine g_top (y := (nI (pst tx by_ m))) h13 ?_
      refine g_aload_n C 0 rfl rfl dX5_isRead_18 ?_
      refine g_getI C (j := 6) cls5 e_44 rfl (by decide) fl_X5_180 dX5_isRead_19 ?_
      refine g_top (y := (nI by_)) ((hF.1 6 (by decide) (by decide) (by decide)).trans hby) ?_
      refine g_icmpN_ge C (pst tx by_ m) by_ (by omega) (by omega) (tgt := 41) (by decide) dX5_isRead_22 (fun h22 => ?_) (fun h22 => ?_)
      ·
        refine g_aload_n C 0 rfl rfl dX5_isRead_41 ?_
        refine g_getI C (j := 12) cls5 e_44 rfl (by decide) fl_X5_201 dX5_isRead_42 ?_
        refine g_top (y := (nI m)) h12 ?_
        refine g_if_gt C (tgt := 55) (by decide) dX5_isRead_45 (fun h45 => ?_) (fun h45 => ?_)
        ·
          have hm0 : 0 < m := Nat.pos_of_ne_zero (fun q => by rw [q] at h45; exact absurd h45 (by decide))
          refine g_iconst C (v := (nI 1)) (by decide) dX5_isRead_55 ?_
          refine g_goto C (tgt := 60) (by decide) dX5_isRead_56 ?_
          exact g_zretP C E dX5_isRead_60 (by decide +kernel) (⟨rfl, hF, Or.inl ⟨by omega, hm0, rfl, h12, hR⟩⟩)
        ·
          have hm0 : m = 0 := Nat.eq_zero_of_not_pos (fun q => h45 (by have h9 := nI_lt (a := 0) (b := m) q (by omega); exact h9))
          refine g_aload_n C 0 rfl rfl dX5_isRead_48 ?_
          refine g_callV1 [] C (c_X5_fails w tu sv  ) mt_X5_fails e_44 rfl ml_X5_195 im_X5_fails se_X5_fails (by decide) rfl (Nat.le_of_ble_eq_true rfl) dX5_isRead_49 ?_
          refine g_eq (sg' := (us sv 44 (upd (sv 44) 14 (sv 44 13)))) (L' := [(0, .ref (ad w 44))]) (S' := [.int (nI 0)]) rfl rfl rfl rfl ?_
          refine g_if_eq C (tgt := 59) (by decide) dX5_isRead_52 (fun h52 => ?_) (fun h52 => absurd h52 (by decide))
          refine g_iconst C (v := (nI 0)) (by decide) dX5_isRead_59 ?_
          exact g_zretP C E dX5_isRead_60 (by decide +kernel) (⟨rfl, rdF_14 hF, Or.inr ⟨fun q => absurd q.2 (by omega), rfl, by show sv 44 13 = _; rw [h13]; unfold flP; rw [if_pos (by omega), hm0]⟩⟩)
      ·
        refine g_aload_n C 0 rfl rfl dX5_isRead_25 ?_
        refine g_callVP [] C (c_X5_takesOrder w tu sv tx by_ (pst tx by_ m) m ((hF.1 6 (by decide) (by decide) (by decide)).trans hby) hb h13 (by omega) (fun j hj => by rw [hF.2 49 (by decide) (by decide) (by decide)]; exact htx j hj) h12 (by omega)) mt_X5_takesOrder e_44 rfl ml_X5_207 im_X5_takesOrder se_X5_takesOrder (by decide) rfl (Nat.le_of_ble_eq_true rfl) dX5_isRead_26 (fun r2 s2 t2 hP => ?_)
        obtain ⟨ht2, hP⟩ := hP
        subst ht2
        have hfl := (hend.resolve_left (by omega)).2
        rcases hP with ⟨hq, -, -⟩ | ⟨-, hr2, hP⟩
        · rw [hfl] at hq; cases hq
        subst hr2
        refine g_eq (S' := [.int (nI 0)]) rfl rfl rfl rfl ?_
        refine g_if_ne C (tgt := 34) (by decide) dX5_isRead_29 (fun h29 => absurd h29 (by decide)) (fun h29 => ?_)
        refine g_iconst C (v := (nI 0)) (by decide) dX5_isRead_32 ?_
        exact g_zretP C E dX5_isRead_33 (by decide +kernel) (⟨rfl, rdF_n hF hP, Or.inr ⟨fun q => absurd q.1 (by omega), rfl, by rw [hP.1]; unfold flP; rw [if_neg (by omega)]⟩⟩)
    | succ r ih =>
      intro o sv hor h13 h12 hF hR
      have hge := pst_ge o (fun q hq => hm q (by omega))
      have hlt := hm o (by omega)
      refine g_aload_n C 0 rfl rfl dX5_isRead_14 ?_
      refine g_getI C (j := 13) cls5 e_44 rfl (by decide) fl_X5_183 dX5_isRead_15 ?_
      refine g_top (y := (nI (pst tx by_ o))) h13 ?_
      refine g_aload_n C 0 rfl rfl dX5_isRead_18 ?_
      refine g_getI C (j := 6) cls5 e_44 rfl (by decide) fl_X5_180 dX5_isRead_19 ?_
      refine g_top (y := (nI by_)) ((hF.1 6 (by decide) (by decide) (by decide)).trans hby) ?_
      refine g_icmpN_ge C (pst tx by_ o) by_ (by omega) (by omega) (tgt := 41) (by decide) dX5_isRead_22 (fun h22 => absurd h22 (by omega)) (fun h22 => ?_)
      refine g_aload_n C 0 rfl rfl dX5_isRead_25 ?_
      refine g_callVP [] C (c_X5_takesOrder w tu sv tx by_ (pst tx by_ o) o ((hF.1 6 (by decide) (by decide) (by decide)).trans hby) hb h13 (by omega) (fun j hj => by rw [hF.2 49 (by decide) (by decide) (by decide)]; exact htx j hj) h12 (by omega)) mt_X5_takesOrder e_44 rfl ml_X5_207 im_X5_takesOrder se_X5_takesOrder (by decide) rfl (Nat.le_of_ble_eq_true rfl) dX5_isRead_26 (fun r2 s2 t2 hP => ?_)
      obtain ⟨ht2, hP⟩ := hP
      subst ht2
      rcases hP with ⟨-, hr2, hP⟩ | ⟨hq, -, -⟩
      rotate_left
      · rw [hlt.2] at hq; cases hq
      subst hr2
      refine g_eq (S' := [.int (nI 1)]) rfl rfl rfl rfl ?_
      refine g_if_ne C (tgt := 34) (by decide) dX5_isRead_29 (fun h29 => ?_) (fun h29 => absurd h29 (by decide))
      refine g_aload_n C 0 rfl rfl dX5_isRead_34 ?_
      refine g_callV0 [] C (c_X5_blanks w tu s2  tx by_ ((odR tx by_ (pst tx by_ o)).2.1) (((rdF_t hF hP).1 6 (by decide) (by decide) (by decide)).trans hby) hb hP.1 (odR_pos hlt.1 hlt.2).2 (fun j hj => by rw [(rdF_t hF hP).2 49 (by decide) (by decide) (by decide)]; exact htx j hj)) mt_X5_blanks e_44 rfl ml_X5_192 im_X5_blanks se_X5_blanks (by decide) rfl (Nat.le_of_ble_eq_true rfl) dX5_isRead_35 ?_
      refine g_eq (sg' := (us s2 44 (upd (s2 44) 13 (nI (sk tx by_ ((odR tx by_ (pst tx by_ o)).2.1)))))) (L' := [(0, .ref (ad w 44))]) (S' := []) rfl rfl rfl rfl ?_
      refine g_goto C (tgt := 14) (by decide) dX5_isRead_38 ?_
      exact ih (o + 1) _ (by omega) rfl hP.2.1 (rdF_13 (rdF_t hF hP)) (rdI_13 (rdI_s hR hP))
  exact lp m 0 _ (Nat.zero_add _) rfl rfl ⟨fun j j1 j2 j3 => by simp [us, upd, j1, j2, j3], fun k k1 k2 k3 => by simp [us, k1, k2, k3]⟩ (fun o ho => absurd ho (by omega))
