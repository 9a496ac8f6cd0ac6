/-! answers are not below 0; COUNTERS, BELL and TURNED stay small -/
theorem nn_d {sg : Sg} {A : Nat → Int32} {j : Nat} (hok : ROk (rowC sg 1)) (hj : j < 6) : 0 ≤ wrR sg 6 A 2 j := by
  rw [wrR_n (by omega), show sg 2 j = rowC sg 1 j from (rowC_d (sg := sg) (w := 1) hj).symm, (hok.1 j hj).1]
  exact nI_pos' (by have := (hok.1 j hj).2; omega)
theorem nn_s {sg : Sg} {A : Nat → Int32} (hok : ROk (rowC sg 1)) : 0 ≤ wrR sg 6 A 1 4 := by
  rw [wrR_n (by omega), show sg 1 4 = rowC sg 1 31 from (rowC_f (sg := sg) (w := 1) (j := 4) (by omega)).symm, hok.2.2.2.1.1]
  exact nI_pos' (by have := hok.2.2.2.1.2; omega)
theorem nn_r {sg : Sg} {A : Nat → Int32} (hok : ROk (rowC sg 1)) : 0 ≤ wrR sg 6 A 1 5 := by
  rw [wrR_n (by omega), show sg 1 5 = rowC sg 1 32 from (rowC_f (sg := sg) (w := 1) (j := 5) (by omega)).symm, hok.2.2.2.2.1]
  exact nI_pos' (by have := hok.2.2.2.2.2; omega)
theorem nn_i {sg : Sg} (hok : ROk (rowC sg 1)) : 0 ≤ Int64.toInt32 (vlY (sg 2) 6 0) := by
  rw [p_all hok]
  exact nI_pos' (by have := ng_dig hok; omega)
theorem nn_cz {f g : Nat → Int32} : 0 ≤ czX f g 0 12 := by
  obtain ⟨c, hc, e⟩ := czX_nat (f := f) (g := g) (b := 0) 12
  rw [e]
  exact nI_pos' (by omega)
theorem nn_rg {up : Bool} {cts : Int32} {g : Nat → Nat} {f : Nat → Int32} {n : Nat} (hn : n ≤ 99) : 0 ≤ rgs up cts g f n := by
  obtain ⟨c, hc, e⟩ := rgs_nat (up := up) (cts := cts) (g := g) (f := f) n
  rw [e]
  exact nI_pos' (by omega)
theorem bc_w {f : Nat → Int32} (hf : ROk f) {j t : Nat} (hj : j < 6) (ht1 : 1 ≤ t) (ht : t ≤ 9) : bcX (f (6 + j) ^^^ (nI 1 <<< (nI t &&& 31))) = wmX (f (6 + j) ^^^ (nI 1 <<< (nI t &&& 31))) 10 := by
  have h : ROk (upd f (6 + j) (f (6 + j) ^^^ (nI 1 <<< (nI t &&& 31)))) := opR_ok (l := 119) (a := j) (b := t) hf (by unfold opR; rw [if_neg (by decide), if_neg (by decide), if_neg (by decide), if_neg (by decide), if_neg (by decide), if_neg (by decide), if_neg (by decide), if_pos rfl, if_pos ⟨hj, ht1, ht⟩])
  have h1 := h.2.1 j hj
  have h3 := bc_eq h1.2.1 h1.2.2
  rw [← h1.1, upd_same] at h3
  exact h3
theorem wm_nn {x : Int32} : 0 ≤ wmX x 10 := by
  obtain ⟨c, hc, e⟩ := wmX_nat x 9
  rw [e]
  exact nI_pos' (by omega)
theorem nn_w {sg : Sg} {A : Nat → Int32} {j t : Nat} (hok : ROk (rowC sg 1)) (hj : j < 6) (ht1 : 1 ≤ t) (ht : t ≤ 9) : 0 ≤ bcX ((wrR sg 6 A 3 j) ^^^ (nI 1 <<< (nI t &&& 31))) := by
  rw [wrR_n (by omega), show sg 3 j = rowC sg 1 (6 + j) from (rowC_o (sg := sg) (w := 1) hj).symm, bc_w hok hj ht1 ht]
  exact wm_nn
/-- COUNTERS are figures; BELL and TURNED are at most B -/
def XOk (f : Nat → Int32) (B : Nat) : Prop := (∀ k, k < 7 → ∃ c, c ≤ 9 ∧ f (24 + k) = nI c) ∧ (∃ b, b ≤ B ∧ f 33 = nI b) ∧ ∃ t, t ≤ B ∧ f 34 = nI t
theorem XOk.up {f : Nat → Int32} {B B' : Nat} (h : XOk f B) (hB : B ≤ B') : XOk f B' := by
  obtain ⟨h1, ⟨b, hb, e1⟩, t, ht, e2⟩ := h
  exact ⟨h1, ⟨b, by omega, e1⟩, t, by omega, e2⟩
theorem XOk.of {f f' : Nat → Int32} {B : Nat} (h : XOk f B) (hc : ∀ k, k < 7 → f' (24 + k) = f (24 + k)) (h3 : f' 33 = f 33) (h4 : f' 34 = f 34) : XOk f' B :=
  ⟨fun k hk => by rw [hc k hk]; exact h.1 k hk, by rw [h3]; exact h.2.1, by rw [h4]; exact h.2.2⟩
theorem ct_ok : ∀ c, c < 10 → (∃ d, d < 10 ∧ ctI (nI c) (nI 1) = nI d) ∧ ∃ d, d < 10 ∧ ctI (nI c) (-1) = nI d := by decide +kernel
theorem tR_x {up : Bool} {cts : Int32} {g : Nat → Nat} {f : Nat → Int32} {B : Nat} (hc : cts = nI 1 ∨ cts = -1) (hs : sN f ≤ 6) (h : XOk f B) : XOk (tR up cts g f) (B + 1) := by
  obtain ⟨h1, ⟨b, hb, e1⟩, t, ht, e2⟩ := h
  refine ⟨fun k hk => ?_, ?_, ?_⟩
  · unfold tR
    rw [upd_ne (by omega)]
    by_cases hks : k = sN f
    · subst hks
      rw [upd_same]
      obtain ⟨c, hc9, e⟩ := h1 (sN f) hk
      rw [e]
      rcases hc with rfl | rfl
      · obtain ⟨d, hd, e3⟩ := (ct_ok c (by omega)).1
        exact ⟨d, by omega, e3⟩
      · obtain ⟨d, hd, e3⟩ := (ct_ok c (by omega)).2
        exact ⟨d, by omega, e3⟩
    · rw [upd_ne (by omega), upd_ne (by omega), emb_out (by omega)]
      exact h1 k hk
  · rw [tR_33 hs, e1]
    by_cases hb2 : blP up (wN f) g (sN f) (sN f + 5 + reN f)
    · rw [bI_t hb2]
      exact ⟨b + 1, by omega, nI_1 b⟩
    · rw [bI_f hb2]
      exact ⟨b, by omega, Int32.add_zero _⟩
  · rw [tR_34, e2, nI_add]
    exact ⟨t + 1, by omega, rfl⟩
theorem itR_x {up : Bool} {cts : Int32} {g : Nat → Nat} {f : Nat → Int32} {B : Nat} (hc : cts = nI 1 ∨ cts = -1) (hf : ROk f) (hg : ∀ i, i < 6 → g i ≤ 9) (h : XOk f B) : ∀ n, XOk (itR up cts g n f) (B + n)
  | 0 => h
  | n + 1 => tR_x hc (itR_ok hf hg n).2.2.2.1.2 (itR_x hc hf hg h n)
theorem sh_x {f : Nat → Int32} {B : Nat} {x : Int32} (h : XOk f B) : XOk (upd f 31 x) B := h.of (fun k hk => upd_ne (by omega)) (upd_ne (by omega)) (upd_ne (by omega))
theorem cts_ov {how m : Nat} : (if how = 1 ∧ 5 < m % 10 then (-1 : Int32) else nI 1) = nI 1 ∨ (if how = 1 ∧ 5 < m % 10 then (-1 : Int32) else nI 1) = -1 := by
  split
  · exact Or.inr rfl
  · exact Or.inl rfl
theorem muR_x {how n : Nat} {g : Nat → Nat} {f : Nat → Int32} {B : Nat} (hf : ROk f) (hg : ∀ i, i < 6 → g i ≤ 9) (h : XOk f B) : ∀ k, k ≤ 7 → XOk (muR how n g k f) (B + smP how n k)
  | 0, _ => h
  | k + 1, hk => by
    have h1 := itR_x (up := !ovB how (mkP how n k)) (cts := if how = 1 ∧ 5 < mkP how n k % 10 then (-1) else nI 1) (g := g) cts_ov (sh_ok (k := k) (muR_ok (how := how) (n := n) hf hg k (by omega)) (by omega)) hg (sh_x (muR_x hf hg h k (by omega))) (aP how (mkP how n k))
    rw [Nat.add_assoc] at h1
    exact h1
theorem cl_x {f : Nat → Int32} {B : Nat} (h : XOk f B) : XOk (clR f) B :=
  ⟨fun k hk => ⟨0, by omega, by unfold clR; rw [fw_in (by omega)]⟩, by rw [clR_hi (by omega)]; exact h.2.1, by rw [clR_hi (by omega)]; exact h.2.2⟩
theorem cc_x {f : Nat → Int32} {B : Nat} (h : XOk f B) : XOk (ccR f) B :=
  ⟨fun k hk => ⟨0, by omega, by unfold ccR; rw [fw_in (by omega)]⟩, by rw [ccR_out (by omega)]; exact h.2.1, by rw [ccR_out (by omega)]; exact h.2.2⟩
theorem dwn_x {g : Nat → Nat} {B : Nat} (hg : ∀ i, i < 6 → g i ≤ 9) : ∀ n f, ROk f → XOk f B → XOk (dwn g n f) (B + n)
  | 0, _, _, h => h
  | n + 1, f, hf, h => by
    have h1 := tR_x (up := false) (cts := nI 1) (g := g) (Or.inl rfl) hf.2.2.2.1.2 h
    by_cases hb : blP false (wN f) g (sN f) (sN f + 5 + reN f)
    · rw [dwn_t hb]; exact h1.up (by omega)
    · rw [dwn_f hb]
      exact (dwn_x (B := B + 1) hg n _ (tR_ok hf hg) h1).up (by omega)
theorem dvF_x {g : Nat → Nat} (hg : ∀ i, i < 6 → g i ≤ 9) : ∀ s f B, s ≤ 7 → ROk f → XOk f B → XOk (dvF g s f) (B + 21 * s)
  | 0, _, _, _, _, h => h
  | s + 1, f, B, hs, hf, h => by
    have hf1 := sh_ok (k := s) hf (by omega)
    have h1 := dwn_x hg 20 _ hf1 (sh_x (x := nI s) h)
    by_cases hb : dwB g 20 (upd f 31 (nI s)) = true
    · rw [dvF_t hb]
      have h2 := tR_x (up := true) (cts := -1) (g := g) (Or.inr rfl) (dwn_ok hg 20 _ hf1).2.2.2.1.2 h1
      exact (dvF_x hg s _ _ (by omega) (dv_step_ok hf hg (by omega)) h2).up (by omega)
    · rw [dvF_f hb]; exact h1.up (by omega)
theorem opR_x {l a b B : Nat} {f f' : Nat → Int32} (hf : ROk f) (h : XOk f B) (ho : opR l a b f = some f') : XOk f' (B + 147) := by
  have hg : ∀ i, i < 6 → gN f i ≤ 9 := fun _ h => (gN_ok hf h).2
  unfold opR at ho
  split at ho
  · split at ho
    · rename_i hc; cases ho; exact (h.of (fun k hk => upd_ne (by omega)) (upd_ne (by omega)) (upd_ne (by omega))).up (by omega)
    · cases ho
  · split at ho
    · split at ho
      · cases ho; exact (sh_x h).up (by omega)
      · cases ho
    · split at ho
      · split at ho
        · rename_i hc; cases ho; exact (itR_x (Or.inl rfl) hf hg h a).up (by omega)
        · cases ho
      · split at ho
        · split at ho
          · rename_i hc; cases ho; exact (itR_x (Or.inr rfl) hf hg h a).up (by omega)
          · cases ho
        · split at ho
          · cases ho; exact (cl_x h).up (by omega)
          · split at ho
            · split at ho
              · cases ho; exact (muR_x (clR_ok hf) hg (cl_x h) 6 (by omega)).up (by have := smP_le (how := 0) (n := a) 6; omega)
              · split at ho
                · cases ho; exact (muR_x (clR_ok hf) hg (cl_x h) 7 (by omega)).up (by have := smP_le (how := 1) (n := a) 7; omega)
                · cases ho
            · split at ho
              · split at ho
                · cases ho
                · split at ho
                  · cases ho; exact (dvF_x hg 7 _ _ (by omega) (ccR_ok hf) (cc_x h)).up (by omega)
                  · cases ho
              · split at ho
                · split at ho
                  · rename_i hc; cases ho; exact (h.of (fun k hk => upd_ne (by omega)) (upd_ne (by omega)) (upd_ne (by omega))).up (by omega)
                  · cases ho
                · split at ho
                  · cases ho; exact (h.of (fun k hk => upd_ne (by omega)) (upd_ne (by omega)) (upd_ne (by omega))).up (by omega)
                  · cases ho
theorem nn_5 {f : Nat → Int32} {B : Nat} (hB : B < 2 ^ 31) (h : XOk f B) : 0 ≤ f 33 := by
  obtain ⟨b, hb, e⟩ := h.2.1
  rw [e]
  exact nI_pos' (by omega)
theorem nn_6 {f : Nat → Int32} {B : Nat} (hB : B < 2 ^ 31) (h : XOk f B) : 0 ≤ f 34 := by
  obtain ⟨b, hb, e⟩ := h.2.2
  rw [e]
  exact nI_pos' (by omega)
theorem nn_c {f : Nat → Int32} {B k : Nat} (hk : k < 7) (h : XOk f B) : 0 ≤ f (24 + k) := by
  obtain ⟨b, hb, e⟩ := h.1 k hk
  rw [e]
  exact nI_pos' (by omega)
theorem nn_2 {f : Nat → Int32} {B : Nat} (h : XOk f B) : 0 ≤ nbX f 24 7 (nI 0) := by
  have h1 : ∀ k, k < 7 → f (24 + k) = nI ((f (24 + k)).toNatClampNeg) ∧ (f (24 + k)).toNatClampNeg ≤ 9 := fun k hk => by
    obtain ⟨c, hc, e⟩ := h.1 k hk
    rw [e, cl_nI (by omega)]
    exact ⟨rfl, hc⟩
  rw [nbX_nat (d := fun k => (f (24 + k)).toNatClampNeg) 7 0 (fun k hk => (h1 k hk).1)]
  have h2 := nbN_lt (d := fun k => (f (24 + k)).toNatClampNeg) 7 0 (fun k hk => (h1 k hk).2)
  exact nI_pos' (by omega)
