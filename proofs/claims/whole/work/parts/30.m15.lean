def otP (sg : Sg) (tx : Nat → Nat) (by_ sp o : Nat) (s2 : Sg) : Prop := s2 44 13 = nI (odR tx by_ sp).2.1 ∧ s2 44 12 = nI (o + 1) ∧ (∀ j, j ≠ 12 → j ≠ 13 → s2 44 j = sg 44 j) ∧ s2 53 = upd (sg 53) o (nI (tx sp)) ∧ (∀ j, j ≠ 2 * o → j ≠ 2 * o + 1 → s2 54 j = sg 54 j) ∧ (¬ mnI (tx sp) = nI 0 → s2 54 (2 * o) = nI (odR tx by_ sp).2.2.1) ∧ (mnI (tx sp) = nI 2 → s2 54 (2 * o + 1) = nI (odR tx by_ sp).2.2.2) ∧ ∀ k, k ≠ 44 → k ≠ 53 → k ≠ 54 → s2 k = sg k
def onP (sg : Sg) (tx : Nat → Nat) (by_ sp : Nat) (s2 : Sg) : Prop := s2 44 14 = nI (odR tx by_ sp).2.1 ∧ (∀ j, j ≠ 12 → j ≠ 13 → j ≠ 14 → s2 44 j = sg 44 j) ∧ ∀ k, k ≠ 44 → k ≠ 53 → k ≠ 54 → s2 k = sg k
set_option maxHeartbeats 1000000 in
theorem c_X5_takesOrder (w : GW) (tu : Int64) (sg : Sg) (tx : Nat → Nat) (by_ sp o : Nat) (hby : sg 44 6 = nI by_) (hb : by_ ≤ 120) (hsp : sg 44 13 = nI sp) (hsb : sp < by_) (htx : ∀ j, j < by_ → sg 49 j = nI (tx j) ∧ tx j ≤ 127) (ho : sg 44 12 = nI o) (ho60 : o < 60) : KtP w yX5_takesOrder cX5_takesOrder 3 (some .boolean) 4 [.ref (ad w 44)] sg tu (fun r s2 t2 => tu = t2 ∧ (((odR tx by_ sp).1 = true ∧ r = some (.int (nI 1)) ∧ otP sg tx by_ sp o s2) ∨ ((odR tx by_ sp).1 = false ∧ r = some (.int (nI 0)) ∧ onP sg tx by_ sp s2))) := by
  rcases mnI_4 (tx sp) with hc | hc | hc | hc
  · have hod : odR tx by_ sp = (false, sp, 0, 0) := by unfold odR; rw [if_pos hc]
    exact (c_X5_takesOrder_x_f w tu sg tx by_ sp o hby hb hsp hsb htx ho ho60 hc).toP ⟨rfl, Or.inr ⟨by rw [hod], rfl, by rw [hod]; exact hsp, fun j h1 h2 h3 => by simp [us, upd, h1, h2, h3], fun k h1 h2 h3 => by simp [us, h1, h2, h3]⟩⟩
  · skip
    by_cases he : atP tx by_ 59 59 (sk tx by_ (sp + 1))
    · have hod : odR tx by_ sp = (true, sk tx by_ (sp + 1) + 1, 0, 0) := by unfold odR; rw [if_neg (by rw [hc]; decide), if_pos hc]; unfold enR; rw [if_pos he]
      exact (c_X5_takesOrder_0_ok w tu sg tx by_ sp o hby hb hsp hsb htx ho ho60 hc  he).toP ⟨rfl, Or.inl ⟨by rw [hod], rfl, by rw [hod]; rfl, rfl, fun j h1 h2 => by simp [us, upd, h1, h2], rfl, fun j h1 h2 => by simp [us, upd, h1, h2], fun q => absurd hc q, fun q => absurd (q.symm.trans hc) (by decide), fun k h1 h2 h3 => by simp [us, h1, h2, h3]⟩⟩
    · have hod : odR tx by_ sp = (false, sk tx by_ (sp + 1), 0, 0) := by unfold odR; rw [if_neg (by rw [hc]; decide), if_pos hc]; unfold enR; rw [if_neg he]
      exact (c_X5_takesOrder_0_e w tu sg tx by_ sp o hby hb hsp hsb htx ho ho60 hc  he).toP ⟨rfl, Or.inr ⟨by rw [hod], rfl, by rw [hod]; rfl, fun j h1 h2 h3 => by simp [us, upd, h1, h2, h3], fun k h1 h2 h3 => by simp [us, h1, h2, h3]⟩⟩
  · skip
    by_cases h7_0 : atP tx by_ 48 57 (nuP tx by_ (sp + 1)).1
    · have hod : odR tx by_ sp = (false, (nuP tx by_ (sp + 1)).1, 0, 0) := by unfold odR; rw [if_neg (by rw [hc]; decide), if_neg (by rw [hc]; decide), if_neg (fun q => q.1 h7_0)]
      exact (c_X5_takesOrder_1_1f7 w tu sg tx by_ sp o hby hb hsp hsb htx ho ho60 hc h7_0).toP ⟨rfl, Or.inr ⟨by rw [hod], rfl, by rw [hod]; rfl, fun j h1 h2 h3 => by simp [us, upd, h1, h2, h3], fun k h1 h2 h3 => by simp [us, h1, h2, h3]⟩⟩
    · by_cases h0_0 : sk tx by_ (sp + 1) < (nuP tx by_ (sp + 1)).1
      · skip
        by_cases he : atP tx by_ 59 59 (sk tx by_ (nuP tx by_ (sp + 1)).1)
        · have hod : odR tx by_ sp = (true, sk tx by_ (nuP tx by_ (sp + 1)).1 + 1, (nuP tx by_ (sp + 1)).2, 0) := by unfold odR; rw [if_neg (by rw [hc]; decide), if_neg (by rw [hc]; decide), if_pos ⟨h7_0, h0_0⟩, if_pos hc]; unfold enR; rw [if_pos he]
          exact (c_X5_takesOrder_1_ok w tu sg tx by_ sp o hby hb hsp hsb htx ho ho60 hc h7_0 h0_0 he).toP ⟨rfl, Or.inl ⟨by rw [hod], rfl, by rw [hod]; rfl, rfl, fun j h1 h2 => by simp [us, upd, h1, h2], rfl, fun j h1 h2 => by simp [us, upd, h1, h2], fun _ => by rw [hod]; show upd (sg 54) (2 * o) _ (2 * o) = _; rw [upd_same], fun q => absurd (q.symm.trans hc) (by decide), fun k h1 h2 h3 => by simp [us, h1, h2, h3]⟩⟩
        · have hod : odR tx by_ sp = (false, sk tx by_ (nuP tx by_ (sp + 1)).1, 0, 0) := by unfold odR; rw [if_neg (by rw [hc]; decide), if_neg (by rw [hc]; decide), if_pos ⟨h7_0, h0_0⟩, if_pos hc]; unfold enR; rw [if_neg he]
          exact (c_X5_takesOrder_1_e w tu sg tx by_ sp o hby hb hsp hsb htx ho ho60 hc h7_0 h0_0 he).toP ⟨rfl, Or.inr ⟨by rw [hod], rfl, by rw [hod]; rfl, fun j h1 h2 h3 => by simp [us, upd, h1, h2, h3], fun k h1 h2 h3 => by simp [us, h1, h2, h3]⟩⟩
      · have hod : odR tx by_ sp = (false, (nuP tx by_ (sp + 1)).1, 0, 0) := by unfold odR; rw [if_neg (by rw [hc]; decide), if_neg (by rw [hc]; decide), if_neg (fun q => h0_0 q.2)]
        exact (c_X5_takesOrder_1_1f0 w tu sg tx by_ sp o hby hb hsp hsb htx ho ho60 hc h7_0 h0_0).toP ⟨rfl, Or.inr ⟨by rw [hod], rfl, by rw [hod]; rfl, fun j h1 h2 h3 => by simp [us, upd, h1, h2, h3], fun k h1 h2 h3 => by simp [us, h1, h2, h3]⟩⟩
  · skip
    by_cases h7_0 : atP tx by_ 48 57 (nuP tx by_ (sp + 1)).1
    · have hod : odR tx by_ sp = (false, (nuP tx by_ (sp + 1)).1, 0, 0) := by unfold odR; rw [if_neg (by rw [hc]; decide), if_neg (by rw [hc]; decide), if_neg (fun q => q.1 h7_0)]
      exact (c_X5_takesOrder_2_1f7 w tu sg tx by_ sp o hby hb hsp hsb htx ho ho60 hc h7_0).toP ⟨rfl, Or.inr ⟨by rw [hod], rfl, by rw [hod]; rfl, fun j h1 h2 h3 => by simp [us, upd, h1, h2, h3], fun k h1 h2 h3 => by simp [us, h1, h2, h3]⟩⟩
    · by_cases h0_0 : sk tx by_ (sp + 1) < (nuP tx by_ (sp + 1)).1
      · skip
        by_cases h7_1 : atP tx by_ 48 57 (nuP tx by_ (nuP tx by_ (sp + 1)).1).1
        · have hod : odR tx by_ sp = (false, (nuP tx by_ (nuP tx by_ (sp + 1)).1).1, 0, 0) := by unfold odR; rw [if_neg (by rw [hc]; decide), if_neg (by rw [hc]; decide), if_pos ⟨h7_0, h0_0⟩, if_neg (by rw [hc]; decide), if_neg (fun q => q.1 h7_1)]
          exact (c_X5_takesOrder_2_2f7 w tu sg tx by_ sp o hby hb hsp hsb htx ho ho60 hc h7_0 h0_0 h7_1).toP ⟨rfl, Or.inr ⟨by rw [hod], rfl, by rw [hod]; rfl, fun j h1 h2 h3 => by simp [us, upd, h1, h2, h3], fun k h1 h2 h3 => by simp [us, h1, h2, h3]⟩⟩
        · by_cases h0_1 : sk tx by_ (nuP tx by_ (sp + 1)).1 < (nuP tx by_ (nuP tx by_ (sp + 1)).1).1
          · skip
            by_cases he : atP tx by_ 59 59 (sk tx by_ (nuP tx by_ (nuP tx by_ (sp + 1)).1).1)
            · have hod : odR tx by_ sp = (true, sk tx by_ (nuP tx by_ (nuP tx by_ (sp + 1)).1).1 + 1, (nuP tx by_ (sp + 1)).2, (nuP tx by_ (nuP tx by_ (sp + 1)).1).2) := by unfold odR; rw [if_neg (by rw [hc]; decide), if_neg (by rw [hc]; decide), if_pos ⟨h7_0, h0_0⟩, if_neg (by rw [hc]; decide), if_pos ⟨h7_1, h0_1⟩]; unfold enR; rw [if_pos he]
              exact (c_X5_takesOrder_2_ok w tu sg tx by_ sp o hby hb hsp hsb htx ho ho60 hc h7_0 h0_0 h7_1 h0_1 he).toP ⟨rfl, Or.inl ⟨by rw [hod], rfl, by rw [hod]; rfl, rfl, fun j h1 h2 => by simp [us, upd, h1, h2], rfl, fun j h1 h2 => by simp [us, upd, h1, h2], fun _ => by rw [hod]; show upd (upd (sg 54) (2 * o) _) (2 * o + 1) _ (2 * o) = _; rw [upd_ne (by omega), upd_same], fun _ => by rw [hod]; show upd _ (2 * o + 1) _ (2 * o + 1) = _; rw [upd_same], fun k h1 h2 h3 => by simp [us, h1, h2, h3]⟩⟩
            · have hod : odR tx by_ sp = (false, sk tx by_ (nuP tx by_ (nuP tx by_ (sp + 1)).1).1, 0, 0) := by unfold odR; rw [if_neg (by rw [hc]; decide), if_neg (by rw [hc]; decide), if_pos ⟨h7_0, h0_0⟩, if_neg (by rw [hc]; decide), if_pos ⟨h7_1, h0_1⟩]; unfold enR; rw [if_neg he]
              exact (c_X5_takesOrder_2_e w tu sg tx by_ sp o hby hb hsp hsb htx ho ho60 hc h7_0 h0_0 h7_1 h0_1 he).toP ⟨rfl, Or.inr ⟨by rw [hod], rfl, by rw [hod]; rfl, fun j h1 h2 h3 => by simp [us, upd, h1, h2, h3], fun k h1 h2 h3 => by simp [us, h1, h2, h3]⟩⟩
          · have hod : odR tx by_ sp = (false, (nuP tx by_ (nuP tx by_ (sp + 1)).1).1, 0, 0) := by unfold odR; rw [if_neg (by rw [hc]; decide), if_neg (by rw [hc]; decide), if_pos ⟨h7_0, h0_0⟩, if_neg (by rw [hc]; decide), if_neg (fun q => h0_1 q.2)]
            exact (c_X5_takesOrder_2_2f0 w tu sg tx by_ sp o hby hb hsp hsb htx ho ho60 hc h7_0 h0_0 h7_1 h0_1).toP ⟨rfl, Or.inr ⟨by rw [hod], rfl, by rw [hod]; rfl, fun j h1 h2 h3 => by simp [us, upd, h1, h2, h3], fun k h1 h2 h3 => by simp [us, h1, h2, h3]⟩⟩
      · have hod : odR tx by_ sp = (false, (nuP tx by_ (sp + 1)).1, 0, 0) := by unfold odR; rw [if_neg (by rw [hc]; decide), if_neg (by rw [hc]; decide), if_neg (fun q => h0_0 q.2)]
        exact (c_X5_takesOrder_2_1f0 w tu sg tx by_ sp o hby hb hsp hsb htx ho ho60 hc h7_0 h0_0).toP ⟨rfl, Or.inr ⟨by rw [hod], rfl, by rw [hod]; rfl, fun j h1 h2 h3 => by simp [us, upd, h1, h2, h3], fun k h1 h2 h3 => by simp [us, h1, h2, h3]⟩⟩
