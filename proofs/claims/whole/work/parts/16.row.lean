/-! THE ROW of 35 ints that is the works (digits 0, worn 6, wheels 12, counters 24, shift 31, reach 32, bell 33, turned 34), and what is done to it -/
def dN (f : Nat → Int32) (d : Nat) : Nat := (f d).toNatClampNeg
def oN (f : Nat → Int32) (d : Nat) : Nat := (f (6 + d)).toNatClampNeg
def wN (f : Nat → Int32) (k : Nat) : Nat := (f (12 + k)).toNatClampNeg
def sN (f : Nat → Int32) : Nat := (f 31).toNatClampNeg
def reN (f : Nat → Int32) : Nat := (f 32).toNatClampNeg
/-- a row as it can be -/
def ROk (f : Nat → Int32) : Prop := (∀ d, d < 6 → f d = nI (dN f d) ∧ dN f d ≤ 9) ∧ (∀ d, d < 6 → f (6 + d) = nI (oN f d) ∧ oN f d < 1024 ∧ oN f d % 2 = 0) ∧ (∀ k, k < 12 → f (12 + k) = nI (wN f k) ∧ wN f k ≤ 9) ∧ (f 31 = nI (sN f) ∧ sN f ≤ 6) ∧ (f 32 = nI (reN f) ∧ reN f ≤ 12)
theorem cl_nI {n : Nat} (h : n < 2 ^ 31) : (nI n).toNatClampNeg = n := nI_clamp h
/-- a row is as it can be, if numbers are known -/
theorem ROk.mk {f : Nat → Int32} {d o wh : Nat → Nat} {s re : Nat} (h1 : ∀ k, k < 6 → f k = nI (d k) ∧ d k ≤ 9) (h2 : ∀ k, k < 6 → f (6 + k) = nI (o k) ∧ o k < 1024 ∧ o k % 2 = 0) (h3 : ∀ k, k < 12 → f (12 + k) = nI (wh k) ∧ wh k ≤ 9) (h4 : f 31 = nI s ∧ s ≤ 6) (h5 : f 32 = nI re ∧ re ≤ 12) : ROk f := by
  refine ⟨fun k hk => ?_, fun k hk => ?_, fun k hk => ?_, ?_, ?_⟩
  · have h := h1 k hk
    have e : dN f k = d k := by unfold dN; rw [h.1]; exact nI_clamp (by omega)
    rw [e]; exact h
  · have h := h2 k hk
    have e : oN f k = o k := by unfold oN; rw [h.1]; exact nI_clamp (by omega)
    rw [e]; exact h
  · have h := h3 k hk
    have e : wN f k = wh k := by unfold wN; rw [h.1]; exact nI_clamp (by omega)
    rw [e]; exact h
  · have e : sN f = s := by unfold sN; rw [h4.1]; exact nI_clamp (by omega)
    rw [e]; exact h4
  · have e : reN f = re := by unfold reN; rw [h5.1]; exact nI_clamp (by omega)
    rw [e]; exact h5
/-- equal rows -/
def RE (f f' : Nat → Int32) : Prop := ∀ j, j < 35 → f j = f' j
theorem RE.ok {f f' : Nat → Int32} (h : RE f f') (hf : ROk f) : ROk f' := by
  obtain ⟨h1, h2, h3, h4, h5⟩ := hf
  exact ROk.mk (fun k hk => ⟨(h k (by omega)).symm.trans (h1 k hk).1, (h1 k hk).2⟩) (fun k hk => ⟨(h (6 + k) (by omega)).symm.trans (h2 k hk).1, (h2 k hk).2⟩) (fun k hk => ⟨(h (12 + k) (by omega)).symm.trans (h3 k hk).1, (h3 k hk).2⟩) ⟨(h 31 (by omega)).symm.trans h4.1, h4.2⟩ ⟨(h 32 (by omega)).symm.trans h5.1, h5.2⟩
/-- what drums give -/
def gN (f : Nat → Int32) (d : Nat) : Nat := (whX (f (6 + d)) (dN f d + 1)).toNatClampNeg
theorem whX_nat (wn : Int32) : ∀ n, ∃ c, c ≤ n ∧ whX wn (n + 1) = nI c
  | 0 => ⟨0, Nat.le_refl _, rfl⟩
  | n + 1 => by
    obtain ⟨c, hc, e⟩ := whX_nat wn n
    rw [whX_s (by omega), e]
    obtain ⟨j, hj, ej⟩ := pk_andE (wn >>> (nI (n + 1) &&& 31)) (m := nI 1) 1 (by decide)
    rw [ej]
    have hj2 : j = 0 ∨ j = 1 := by have h9 : j < 2 := hj; omega
    rcases hj2 with rfl | rfl
    · exact ⟨c + 1, by omega, by rw [show nI 0 ^^^ nI 1 = nI 1 from by decide, nI_add]⟩
    · exact ⟨c, by omega, by rw [show nI 1 ^^^ nI 1 = nI 0 from by decide, nI_add, Nat.add_zero]⟩
theorem gN_ok {f : Nat → Int32} (hf : ROk f) {d : Nat} (hd : d < 6) : whX (f (6 + d)) (dN f d + 1) = nI (gN f d) ∧ gN f d ≤ 9 := by
  obtain ⟨c, hc, e⟩ := whX_nat (f (6 + d)) (dN f d)
  have h9 := (hf.1 d hd).2
  have e2 : gN f d = c := by unfold gN; rw [e]; exact nI_clamp (by omega)
  rw [e2]
  exact ⟨e, by omega⟩
def ctI (c x : Int32) : Int32 := (c + x + nI 10) - (c + x + nI 10) / nI 10 * nI 10
def rgP (up : Bool) (g : Nat → Nat) (f : Nat → Int32) : Prop := blP up (wN f) g (sN f) (sN f + 5 + reN f)
/-- one TURN on a row -/
def tR (up : Bool) (cts : Int32) (g : Nat → Nat) (f : Nat → Int32) : Nat → Int32 :=
  upd (upd (upd (emb 12 (tw up (wN f) g (sN f) (sN f + 5 + reN f)) f) 33 (f 33 + bI (blP up (wN f) g (sN f) (sN f + 5 + reN f)))) (24 + sN f) (ctI (f (24 + sN f)) cts)) 34 (f 34 + nI 1)
theorem tR_lo {up : Bool} {cts : Int32} {g : Nat → Nat} {f : Nat → Int32} {j : Nat} (hj : j < 12) : tR up cts g f j = f j := by
  unfold tR
  rw [upd_ne (by omega), upd_ne (by omega), upd_ne (by omega), emb_out (by omega)]
theorem tR_wh {up : Bool} {cts : Int32} {g : Nat → Nat} {f : Nat → Int32} {k : Nat} (hk : k < 12) : tR up cts g f (12 + k) = nI (tw up (wN f) g (sN f) (sN f + 5 + reN f) k) := by
  unfold tR
  rw [upd_ne (by omega), upd_ne (by omega), upd_ne (by omega), emb_in hk]
theorem tR_31 {up : Bool} {cts : Int32} {g : Nat → Nat} {f : Nat → Int32} (hs : sN f ≤ 6) : tR up cts g f 31 = f 31 := by
  unfold tR
  rw [upd_ne (by omega), upd_ne (by omega), upd_ne (by omega), emb_out (by omega)]
theorem tR_32 {up : Bool} {cts : Int32} {g : Nat → Nat} {f : Nat → Int32} (hs : sN f ≤ 6) : tR up cts g f 32 = f 32 := by
  unfold tR
  rw [upd_ne (by omega), upd_ne (by omega), upd_ne (by omega), emb_out (by omega)]
theorem tR_33 {up : Bool} {cts : Int32} {g : Nat → Nat} {f : Nat → Int32} (hs : sN f ≤ 6) : tR up cts g f 33 = f 33 + bI (blP up (wN f) g (sN f) (sN f + 5 + reN f)) := by
  unfold tR
  rw [upd_ne (by omega), upd_ne (by omega), upd_same]
theorem tR_34 {up : Bool} {cts : Int32} {g : Nat → Nat} {f : Nat → Int32} : tR up cts g f 34 = f 34 + nI 1 := by
  unfold tR
  rw [upd_same]
theorem tR_ok {up : Bool} {cts : Int32} {g : Nat → Nat} {f : Nat → Int32} (hf : ROk f) (hg : ∀ i, i < 6 → g i ≤ 9) : ROk (tR up cts g f) := by
  have hs := hf.2.2.2.1.2
  refine ROk.mk (d := dN f) (o := oN f) (wh := tw up (wN f) g (sN f) (sN f + 5 + reN f)) (s := sN f) (re := reN f) (fun k hk => ?_) (fun k hk => ?_) (fun k hk => ?_) ?_ ?_
  · rw [tR_lo (by omega)]; exact hf.1 k hk
  · rw [tR_lo (by omega)]; exact hf.2.1 k hk
  · rw [tR_wh hk]; exact ⟨rfl, tw_le (fun k hk => (hf.2.2.1 k hk).2) hg hk⟩
  · rw [tR_31 hs]; exact hf.2.2.2.1
  · rw [tR_32 hs]; exact hf.2.2.2.2
theorem tR_gN {up : Bool} {cts : Int32} {g : Nat → Nat} {f : Nat → Int32} {d : Nat} (hd : d < 6) : gN (tR up cts g f) d = gN f d := by
  unfold gN dN
  rw [tR_lo (by omega), tR_lo (by omega)]
/-- n TURNS -/
def itR (up : Bool) (cts : Int32) (g : Nat → Nat) : Nat → (Nat → Int32) → Nat → Int32
  | 0, f => f
  | n + 1, f => tR up cts g (itR up cts g n f)
def rgs (up : Bool) (cts : Int32) (g : Nat → Nat) (f : Nat → Int32) : Nat → Int32
  | 0 => nI 0
  | n + 1 => rgs up cts g f n + bI (blP up (wN (itR up cts g n f)) g (sN (itR up cts g n f)) (sN (itR up cts g n f) + 5 + reN (itR up cts g n f)))
theorem itR_ok {up : Bool} {cts : Int32} {g : Nat → Nat} {f : Nat → Int32} (hf : ROk f) (hg : ∀ i, i < 6 → g i ≤ 9) : ∀ n, ROk (itR up cts g n f)
  | 0 => hf
  | n + 1 => tR_ok (itR_ok hf hg n) hg
theorem itR_lo {up : Bool} {cts : Int32} {g : Nat → Nat} {f : Nat → Int32} {j : Nat} (hj : j < 12) : ∀ n, itR up cts g n f j = f j
  | 0 => rfl
  | n + 1 => by show tR up cts g _ j = _; rw [tR_lo hj]; exact itR_lo hj n
theorem itR_34 {up : Bool} {cts : Int32} {g : Nat → Nat} {f : Nat → Int32} : ∀ n, itR up cts g n f 34 = f 34 + nI n
  | 0 => by show f 34 = f 34 + nI 0; rw [nI_0, Int32.add_zero]
  | n + 1 => by show tR up cts g _ 34 = _; rw [tR_34, itR_34 n, Int32.add_assoc, nI_add]
theorem itR_33 {up : Bool} {cts : Int32} {g : Nat → Nat} {f : Nat → Int32} (hf : ROk f) (hg : ∀ i, i < 6 → g i ≤ 9) : ∀ n, itR up cts g n f 33 = f 33 + rgs up cts g f n
  | 0 => by show f 33 = f 33 + nI 0; rw [nI_0, Int32.add_zero]
  | n + 1 => by
    show tR up cts g _ 33 = f 33 + (rgs up cts g f n + _)
    rw [tR_33 (itR_ok hf hg n).2.2.2.1.2, itR_33 hf hg n, Int32.add_assoc]
/-- WHEELS and COUNTERS 0 -/
def clR (f : Nat → Int32) : Nat → Int32 := fw 24 (fun _ => nI 0) (fw 12 (fun _ => nI 0) f 12) 7
theorem clR_lo {f : Nat → Int32} {j : Nat} (hj : j < 12) : clR f j = f j := by unfold clR; rw [fw_out (by omega), fw_out (by omega)]
theorem clR_hi {f : Nat → Int32} {j : Nat} (hj : 31 ≤ j) : clR f j = f j := by unfold clR; rw [fw_out (by omega), fw_out (by omega)]
theorem clR_ok {f : Nat → Int32} (hf : ROk f) : ROk (clR f) := by
  refine ROk.mk (d := dN f) (o := oN f) (wh := fun _ => 0) (s := sN f) (re := reN f) (fun k hk => ?_) (fun k hk => ?_) (fun k hk => ?_) ?_ ?_
  · rw [clR_lo (by omega)]; exact hf.1 k hk
  · rw [clR_lo (by omega)]; exact hf.2.1 k hk
  · unfold clR; rw [fw_out (by omega), fw_in (by omega)]; exact ⟨rfl, by omega⟩
  · rw [clR_hi (by omega)]; exact hf.2.2.2.1
  · rw [clR_hi (by omega)]; exact hf.2.2.2.2
theorem sh_ok {f : Nat → Int32} {k : Nat} (hf : ROk f) (hk : k ≤ 6) : ROk (upd f 31 (nI k)) := by
  refine ROk.mk (d := dN f) (o := oN f) (wh := wN f) (s := k) (re := reN f) (fun k hk => ?_) (fun k hk => ?_) (fun k hk => ?_) ?_ ?_
  · rw [upd_ne (by omega)]; exact hf.1 k hk
  · rw [upd_ne (by omega)]; exact hf.2.1 k hk
  · rw [upd_ne (by omega)]; exact hf.2.2.1 k hk
  · rw [upd_same]; exact ⟨rfl, hk⟩
  · rw [upd_ne (by omega)]; exact hf.2.2.2.2
/-! the plan of a product: m is what is left with what is due -/
def ovP (how m : Nat) : Prop := how = 1 ∧ 5 < m % 10
abbrev ovB (how m : Nat) : Bool := decide (how = 1 ∧ 5 < m % 10)
def aP (how m : Nat) : Nat := if how = 1 ∧ 5 < m % 10 then 10 - m % 10 else m % 10
def pI (how m : Nat) : Int32 := if how = 1 ∧ 5 < m % 10 then nI (m % 10) - nI 10 else nI (m % 10)
def nxP (how m : Nat) : Nat := m / 10 + (if how = 1 ∧ 5 < m % 10 then 1 else 0)
def mkP (how n : Nat) : Nat → Nat
  | 0 => n
  | k + 1 => nxP how (mkP how n k)
def smP (how n : Nat) : Nat → Nat
  | 0 => 0
  | k + 1 => smP how n k + aP how (mkP how n k)
theorem mkP_le {how n : Nat} (hn : n ≤ 999999) : ∀ k, mkP how n k ≤ 999999
  | 0 => hn
  | k + 1 => by
    have h := mkP_le (how := how) hn k
    show nxP how (mkP how n k) ≤ 999999
    unfold nxP
    split <;> omega
theorem aP_le {how m : Nat} : aP how m ≤ 9 := by unfold aP; split <;> omega
theorem smP_le {how n : Nat} : ∀ k, smP how n k ≤ 9 * k
  | 0 => Nat.le_refl _
  | k + 1 => by
    have h := smP_le (how := how) (n := n) k
    have h2 := aP_le (how := how) (m := mkP how n k)
    show smP how n k + aP how (mkP how n k) ≤ _
    omega
theorem ng_nI : ∀ m, m < 11 → 5 < m → ((nI m - nI 10 < 0 ↔ m < 10) ∧ (-(nI m - nI 10)) = nI (10 - m) ∧ (-1) * (nI m - nI 10) = nI (10 - m)) := by decide +kernel
/-- the first k places of a product turned -/
def muR (how n : Nat) (g : Nat → Nat) : Nat → (Nat → Int32) → Nat → Int32
  | 0, f => f
  | k + 1, f => itR (!ovB how (mkP how n k)) (if how = 1 ∧ 5 < mkP how n k % 10 then (-1) else nI 1) g (aP how (mkP how n k)) (upd (muR how n g k f) 31 (nI k))
theorem muR_ok {how n : Nat} {g : Nat → Nat} {f : Nat → Int32} (hf : ROk f) (hg : ∀ i, i < 6 → g i ≤ 9) : ∀ k, k ≤ 7 → ROk (muR how n g k f)
  | 0, _ => hf
  | k + 1, h => itR_ok (sh_ok (muR_ok hf hg k (by omega)) (by omega)) hg _
theorem muR_34 {how n : Nat} {g : Nat → Nat} {f : Nat → Int32} : ∀ k, muR how n g k f 34 = f 34 + nI (smP how n k)
  | 0 => by show f 34 = f 34 + nI 0; rw [nI_0, Int32.add_zero]
  | k + 1 => by
    show itR _ _ g _ _ 34 = f 34 + nI (smP how n k + aP how (mkP how n k))
    rw [itR_34, upd_ne (by omega), muR_34 k, Int32.add_assoc, nI_add]
theorem muR_lo {how n : Nat} {g : Nat → Nat} {f : Nat → Int32} {j : Nat} (hj : j < 12) : ∀ k, muR how n g k f j = f j
  | 0 => rfl
  | k + 1 => by show itR _ _ g _ _ j = f j; rw [itR_lo hj, upd_ne (by omega)]; exact muR_lo hj k
