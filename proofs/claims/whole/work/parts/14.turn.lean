/-! A TURN on numbers: one sweep, as the document has it; and the reference's two sweeps -/
def stp (up : Bool) (w a : Nat) : Nat := if up then (if 9 < w + a then w + a - 10 else w + a) else (if w < a then w + 10 - a else w - a)
def cry (up : Bool) (w a : Nat) : Nat := if up then (if 9 < w + a then 1 else 0) else (if w < a then 1 else 0)
/-- the CARRY due to the wheel j places above the shift -/
def crj (up : Bool) (wh g : Nat → Nat) (s last : Nat) : Nat → Nat
  | 0 => 0
  | j + 1 => cry up (wh (s + j)) ((if j < 6 then g j else 0) + (if s + j ≤ last then crj up wh g s last j else 0))
def adj (up : Bool) (wh g : Nat → Nat) (s last j : Nat) : Nat := (if j < 6 then g j else 0) + (if s + j ≤ last then crj up wh g s last j else 0)
def tw (up : Bool) (wh g : Nat → Nat) (s last k : Nat) : Nat := if s ≤ k then stp up (wh k) (adj up wh g s last (k - s)) else wh k
abbrev blP (up : Bool) (wh g : Nat → Nat) (s last : Nat) : Prop := crj up wh g s last (12 - s) = 1 ∧ 12 ≤ last
theorem cry_le {up : Bool} {w a : Nat} : cry up w a ≤ 1 := by
  unfold cry
  split <;> split <;> omega
theorem crj_le {up : Bool} {wh g : Nat → Nat} {s last j : Nat} : crj up wh g s last j ≤ 1 := by
  cases j with
  | zero => exact Nat.zero_le _
  | succ j => exact cry_le
theorem stp_le {up : Bool} {w a : Nat} (hw : w ≤ 9) (ha : a ≤ 10) : stp up w a ≤ 9 := by
  unfold stp
  split <;> split <;> omega
/-- two sweeps on a wheel: what the drum gives, then the CARRY -/
theorem two_sw {up : Bool} {w a c : Nat} (hw : w ≤ 9) (ha : a ≤ 9) (hc : c ≤ 1) : stp up (stp up w a) c = stp up w (a + c) ∧ (cry up w (a + c) = 1 ↔ cry up w a = 1 ∨ cry up (stp up w a) c = 1) := by
  unfold stp cry
  cases up <;> simp only [Bool.false_eq_true, if_false, if_true] <;> split <;> split <;> split <;> refine ⟨by omega, ?_⟩ <;> omega
def p1 (up : Bool) (wh g : Nat → Nat) (s i k : Nat) : Nat := if s ≤ k ∧ k < s + i then stp up (wh k) (g (k - s)) else wh k
/-- the first sweep's due bits -/
def D1 (up : Bool) (wh g : Nat → Nat) (s : Nat) : Nat → Nat
  | 0 => 0
  | i + 1 => if cry up (wh (i + s)) (g i) = 1 then D1 up wh g s i ||| 2 ^ (i + s + 1) else D1 up wh g s i
/-- the wheels in the second sweep, k of them through -/
def q2 (up : Bool) (wh g : Nat → Nat) (s last k m : Nat) : Nat := if m < k then tw up wh g s last m else p1 up wh g s 6 m
/-- wheels put into a row from b on -/
def emb (b : Nat) (v : Nat → Nat) (old : Nat → Int32) : Nat → Int32 := fun j => if b ≤ j ∧ j < b + 12 then nI (v (j - b)) else old j
theorem emb_in {b k : Nat} {v : Nat → Nat} {old : Nat → Int32} (h : k < 12) : emb b v old (b + k) = nI (v k) := by
  unfold emb
  rw [if_pos (by omega), Nat.add_sub_cancel_left]
theorem emb_out {b j : Nat} {v : Nat → Nat} {old : Nat → Int32} (h : ¬ (b ≤ j ∧ j < b + 12)) : emb b v old j = old j := if_neg h
theorem emb_upd {b k x : Nat} {v v' : Nat → Nat} {old : Nat → Int32} (hk : k < 12) (h1 : v' k = x) (h2 : ∀ m, m < 12 → m ≠ k → v' m = v m) : upd (emb b v old) (b + k) (nI x) = emb b v' old := by
  subst h1
  funext j
  unfold emb upd
  by_cases h : j = b + k
  · subst h
    rw [if_pos rfl, if_pos (by omega), Nat.add_sub_cancel_left]
  · rw [if_neg h]
    show (if b ≤ j ∧ j < b + 12 then nI (v (j - b)) else old j) = if b ≤ j ∧ j < b + 12 then nI (v' (j - b)) else old j
    by_cases h3 : b ≤ j ∧ j < b + 12
    · rw [if_pos h3, if_pos h3, h2 (j - b) (by omega) (by omega)]
    · rw [if_neg h3, if_neg h3]
theorem D1_lt {up : Bool} {wh g : Nat → Nat} {s : Nat} (hs : s ≤ 6) : ∀ i, i ≤ 6 → D1 up wh g s i < 2 ^ 13
  | 0, _ => by show 0 < 2 ^ 13; decide
  | i + 1, h => by
    have h1 := D1_lt (up := up) (wh := wh) (g := g) hs i (by omega)
    unfold D1
    split
    · exact Nat.or_lt_two_pow h1 (Nat.pow_lt_pow_right (by decide) (by omega))
    · exact h1
theorem D1_bit {up : Bool} {wh g : Nat → Nat} {s : Nat} : ∀ i m, (D1 up wh g s i).testBit m = decide (s + 1 ≤ m ∧ m < s + 1 + i ∧ cry up (wh (m - 1)) (g (m - 1 - s)) = 1)
  | 0, m => by
    unfold D1
    rw [Nat.zero_testBit]
    symm
    apply decide_eq_false
    omega
  | i + 1, m => by
    have ih := D1_bit (up := up) (wh := wh) (g := g) (s := s) i m
    unfold D1
    by_cases hm : m = i + s + 1
    · subst hm
      have e1 : i + s + 1 - 1 = i + s := by omega
      have e2 : i + s - s = i := by omega
      rw [e1, e2] at ih ⊢
      split
      · rename_i hc
        rw [Nat.testBit_or, ih, Nat.testBit_two_pow_self, Bool.or_true]
        symm
        exact decide_eq_true ⟨by omega, by omega, hc⟩
      · rename_i hc
        rw [ih]
        exact decide_eq_decide.mpr ⟨fun q => ⟨q.1, by omega, q.2.2⟩, fun q => absurd q.2.2 hc⟩
    · have e : decide (s + 1 ≤ m ∧ m < s + 1 + (i + 1) ∧ cry up (wh (m - 1)) (g (m - 1 - s)) = 1) = decide (s + 1 ≤ m ∧ m < s + 1 + i ∧ cry up (wh (m - 1)) (g (m - 1 - s)) = 1) :=
        decide_eq_decide.mpr ⟨fun q => ⟨q.1, by omega, q.2.2⟩, fun q => ⟨q.1, by omega, q.2.2⟩⟩
      rw [e]
      split
      · rw [Nat.testBit_or, ih, Nat.testBit_two_pow_of_ne (Ne.symm hm), Bool.or_false]
      · exact ih
/-- what holds of the due bits in the second sweep at wheel k -/
def D2 (up : Bool) (wh g : Nat → Nat) (s last k D : Nat) : Prop := D < 2 ^ 13 ∧ (D.testBit k = true ↔ crj up wh g s last (k - s) = 1) ∧ ∀ m, k < m → m ≤ 12 → (D.testBit m = true ↔ s + 1 ≤ m ∧ m < s + 7 ∧ cry up (wh (m - 1)) (g (m - 1 - s)) = 1)
theorem D2_0 {up : Bool} {wh g : Nat → Nat} {s last : Nat} (hs : s ≤ 6) : D2 up wh g s last s (D1 up wh g s 6) := by
  refine ⟨D1_lt hs 6 (Nat.le_refl _), ?_, fun m h1 h2 => ?_⟩
  · rw [D1_bit, Nat.sub_self]
    simp only [decide_eq_true_eq]
    exact ⟨fun q => absurd q.1 (by omega), fun q => absurd q (by show ¬ 0 = 1; decide)⟩
  · rw [D1_bit, decide_eq_true_eq]
/-- the second sweep's step -/
theorem q2_s {up : Bool} {wh g : Nat → Nat} {s last k D : Nat} (hw : ∀ k, k < 12 → wh k ≤ 9) (hg : ∀ i, i < 6 → g i ≤ 9) (hsk : s ≤ k) (hk : k < 12) (hl : s + 5 ≤ last) (hD : D2 up wh g s last k D) :
    (D.testBit k = true ∧ k ≤ last → tw up wh g s last k = stp up (q2 up wh g s last k k) 1 ∧ (cry up (q2 up wh g s last k k) 1 = 1 → D2 up wh g s last (k + 1) (D ||| 2 ^ (k + 1))) ∧ (¬ cry up (q2 up wh g s last k k) 1 = 1 → D2 up wh g s last (k + 1) D)) ∧
    (¬ (D.testBit k = true ∧ k ≤ last) → tw up wh g s last k = q2 up wh g s last k k ∧ D2 up wh g s last (k + 1) D) := by
  obtain ⟨hD1, hD2, hD3⟩ := hD
  have hq : q2 up wh g s last k k = p1 up wh g s 6 k := by unfold q2; rw [if_neg (Nat.lt_irrefl k)]
  rw [hq]
  have hwk := hw k hk
  have hnext : (D.testBit (k + 1) = true ↔ k < s + 6 ∧ cry up (wh k) (g (k - s)) = 1) := by
    rw [hD3 (k + 1) (by omega) (by omega)]
    have e1 : k + 1 - 1 = k := rfl
    rw [e1]
    exact ⟨fun q => ⟨by omega, q.2.2⟩, fun q => ⟨by omega, by omega, q.2⟩⟩
  have htw : tw up wh g s last k = stp up (wh k) (adj up wh g s last (k - s)) := by unfold tw; rw [if_pos hsk]
  have hcn : crj up wh g s last (k + 1 - s) = cry up (wh k) (adj up wh g s last (k - s)) := by
    rw [show k + 1 - s = (k - s) + 1 by omega]
    show cry up (wh (s + (k - s))) _ = _
    rw [show s + (k - s) = k by omega]
    unfold adj
    rw [show s + (k - s) = k by omega]
  have hcle := crj_le (up := up) (wh := wh) (g := g) (s := s) (last := last) (j := k - s)
  have hhigh : ∀ m, k + 1 < m → m ≤ 12 → (D.testBit m = true ↔ s + 1 ≤ m ∧ m < s + 7 ∧ cry up (wh (m - 1)) (g (m - 1 - s)) = 1) := fun m h1 h2 => hD3 m (by omega) h2
  by_cases hu : k < s + 6
  · -- under a drum
    have hp1 : p1 up wh g s 6 k = stp up (wh k) (g (k - s)) := by unfold p1; rw [if_pos ⟨hsk, hu⟩]
    have hgk := hg (k - s) (by omega)
    have hadj : adj up wh g s last (k - s) = g (k - s) + crj up wh g s last (k - s) := by
      unfold adj
      rw [if_pos (by omega), if_pos (by omega)]
    rw [hp1, htw, hadj]
    rw [hadj] at hcn
    refine ⟨fun ⟨hb, _⟩ => ?_, fun hn => ?_⟩
    · have hc1 := hD2.mp hb
      rw [hc1] at hcn ⊢
      have h2 := two_sw (up := up) hwk hgk (Nat.le_refl 1)
      refine ⟨h2.1.symm, fun ho => ⟨Nat.or_lt_two_pow hD1 (Nat.pow_lt_pow_right (by decide) (by omega)), ?_, fun m h3 h4 => ?_⟩, fun ho => ⟨hD1, ?_, fun m h3 h4 => hhigh m h3 h4⟩⟩
      · rw [Nat.testBit_or, Nat.testBit_two_pow_self, Bool.or_true, hcn]
        exact ⟨fun _ => h2.2.mpr (Or.inr ho), fun _ => rfl⟩
      · rw [Nat.testBit_or, Nat.testBit_two_pow_of_ne (by omega), Bool.or_false]
        exact hhigh m h3 h4
      · rw [hnext, hcn, h2.2]
        exact ⟨fun q => Or.inl q.2, fun q => ⟨hu, q.resolve_right ho⟩⟩
    · have hc0 : crj up wh g s last (k - s) = 0 := by
        have : ¬ crj up wh g s last (k - s) = 1 := fun q => hn ⟨hD2.mpr q, by omega⟩
        omega
      rw [hc0] at hcn ⊢
      refine ⟨rfl, hD1, ?_, fun m h3 h4 => hhigh m h3 h4⟩
      rw [hnext, hcn]
      exact ⟨fun q => q.2, fun q => ⟨hu, q⟩⟩
  · have hp1 : p1 up wh g s 6 k = wh k := by unfold p1; rw [if_neg (by omega)]
    have hadj : adj up wh g s last (k - s) = if k ≤ last then crj up wh g s last (k - s) else 0 := by
      unfold adj
      rw [if_neg (by omega), Nat.zero_add, show s + (k - s) = k by omega]
    rw [hp1, htw, hadj]
    rw [hadj] at hcn
    have hbn : ¬ D.testBit (k + 1) = true := fun q => hu (hnext.mp q).1
    refine ⟨fun ⟨hb, hkl⟩ => ?_, fun hn => ?_⟩
    · have hc1 := hD2.mp hb
      rw [if_pos hkl, hc1] at hcn ⊢
      refine ⟨rfl, fun ho => ⟨Nat.or_lt_two_pow hD1 (Nat.pow_lt_pow_right (by decide) (by omega)), ?_, fun m h3 h4 => ?_⟩, fun ho => ⟨hD1, ?_, fun m h3 h4 => hhigh m h3 h4⟩⟩
      · rw [Nat.testBit_or, Nat.testBit_two_pow_self, Bool.or_true, hcn]
        exact ⟨fun _ => ho, fun _ => rfl⟩
      · rw [Nat.testBit_or, Nat.testBit_two_pow_of_ne (by omega), Bool.or_false]
        exact hhigh m h3 h4
      · rw [hcn]
        exact ⟨fun q => absurd q hbn, fun q => absurd q ho⟩
    · have hz : (if k ≤ last then crj up wh g s last (k - s) else 0) = 0 := by
        by_cases hkl : k ≤ last
        · rw [if_pos hkl]
          have : ¬ crj up wh g s last (k - s) = 1 := fun q => hn ⟨hD2.mpr q, hkl⟩
          omega
        · rw [if_neg hkl]
      rw [hz] at hcn ⊢
      have e0 : stp up (wh k) 0 = wh k := by unfold stp; cases up <;> simp; omega
      have e1 : cry up (wh k) 0 = 0 := by unfold cry; cases up <;> simp; omega
      refine ⟨e0, hD1, ?_, fun m h3 h4 => hhigh m h3 h4⟩
      rw [hcn, e1]
      exact ⟨fun q => absurd q hbn, fun q => absurd q (by decide)⟩
theorem q2_end {up : Bool} {wh g : Nat → Nat} {s last m : Nat} (h : m < 12) : q2 up wh g s last 12 m = tw up wh g s last m := by unfold q2; rw [if_pos h]
theorem q2_beg {up : Bool} {wh g : Nat → Nat} {s last m : Nat} : q2 up wh g s last s m = p1 up wh g s 6 m := by
  unfold q2
  by_cases h : m < s
  · rw [if_pos h]; unfold tw p1; rw [if_neg (by omega), if_neg (by omega)]
  · rw [if_neg h]
theorem q2_n {up : Bool} {wh g : Nat → Nat} {s last k m : Nat} (h : m ≠ k) : q2 up wh g s last (k + 1) m = q2 up wh g s last k m := by
  unfold q2
  by_cases h1 : m < k
  · rw [if_pos h1, if_pos (by omega)]
  · rw [if_neg h1, if_neg (by omega)]
theorem q2_k {up : Bool} {wh g : Nat → Nat} {s last k : Nat} : q2 up wh g s last (k + 1) k = tw up wh g s last k := by unfold q2; rw [if_pos (by omega)]
theorem q2_kk {up : Bool} {wh g : Nat → Nat} {s last k : Nat} : q2 up wh g s last k k = p1 up wh g s 6 k := by unfold q2; rw [if_neg (Nat.lt_irrefl k)]
theorem p1_le {up : Bool} {wh g : Nat → Nat} {s i k : Nat} (hw : ∀ k, k < 12 → wh k ≤ 9) (hg : ∀ i, i < 6 → g i ≤ 9) (hi : i ≤ 6) (hk : k < 12) : p1 up wh g s i k ≤ 9 := by
  unfold p1
  split
  · have := hg (k - s) (by omega)
    exact stp_le (hw k hk) (by omega)
  · exact hw k hk
theorem p1_0 {up : Bool} {wh g : Nat → Nat} {s k : Nat} : p1 up wh g s 0 k = wh k := by unfold p1; rw [if_neg (by omega)]
theorem p1_s {up : Bool} {wh g : Nat → Nat} {s i : Nat} : p1 up wh g s (i + 1) (i + s) = stp up (wh (i + s)) (g i) := by
  unfold p1; rw [if_pos (by omega), Nat.add_sub_cancel]
theorem p1_n {up : Bool} {wh g : Nat → Nat} {s i m : Nat} (h : m ≠ i + s) : p1 up wh g s (i + 1) m = p1 up wh g s i m := by
  unfold p1
  by_cases h1 : s ≤ m ∧ m < s + i
  · rw [if_pos h1, if_pos (by omega)]
  · rw [if_neg h1, if_neg (by omega)]
theorem p1_at {up : Bool} {wh g : Nat → Nat} {s i : Nat} : p1 up wh g s i (i + s) = wh (i + s) := by unfold p1; rw [if_neg (by omega)]
theorem tw_le {up : Bool} {wh g : Nat → Nat} {s last k : Nat} (hw : ∀ k, k < 12 → wh k ≤ 9) (hg : ∀ i, i < 6 → g i ≤ 9) (hk : k < 12) : tw up wh g s last k ≤ 9 := by
  unfold tw
  split
  · refine stp_le (hw k hk) ?_
    unfold adj
    have h1 := crj_le (up := up) (wh := wh) (g := g) (s := s) (last := last) (j := k - s)
    split
    · have := hg (k - s) (by assumption)
      split <;> omega
    · split <;> omega
  · exact hw k hk
/-! the ints of it -/
theorem bt_nI {D k : Nat} (hD : D < 2 ^ 31) (hk : k < 31) : (nI D >>> (nI k &&& 31)) &&& nI 1 = nI (D / 2 ^ k % 2) := by
  have h31 : ∀ k, k < 31 → ((nI k &&& 31).toBitVec.smod 32).toNat = k := by decide +kernel
  rw [pk_shrN hD (nI k &&& 31) k (h31 k hk)]
  have h2 : D / 2 ^ k < 2 ^ 32 := Nat.lt_of_le_of_lt (Nat.div_le_self _ _) (by omega)
  rw [pk_andN h2 (m := nI 1) 1 (by decide)]
theorem sh_nI {k : Nat} (hk : k < 31) : nI 1 <<< (nI k &&& 31) = nI (2 ^ k) := by
  have h31 : ∀ k, k < 31 → nI 1 <<< (nI k &&& 31) = nI (2 ^ k) := by decide +kernel
  exact h31 k hk
theorem or_nI (a b : Nat) : nI a ||| nI b = nI (a ||| b) := by
  apply Int32.toBitVec_inj.mp
  show (nI a).toBitVec ||| (nI b).toBitVec = (nI (a ||| b)).toBitVec
  apply BitVec.eq_of_toNat_eq
  rw [BitVec.toNat_or]
  show (BitVec.ofNat 32 a).toNat ||| (BitVec.ofNat 32 b).toNat = (BitVec.ofNat 32 (a ||| b)).toNat
  rw [BitVec.toNat_ofNat, BitVec.toNat_ofNat, BitVec.toNat_ofNat, Nat.or_mod_two_pow]
theorem tb_iff {D k : Nat} : D / 2 ^ k % 2 = 1 ↔ D.testBit k = true := by
  rw [Nat.testBit_eq_decide_div_mod_eq]
  simp
theorem dn_A : ∀ w, w < 10 → ∀ a, a < 10 → a ≤ w → nI w + (-1) * nI a = nI (w - a) := by decide +kernel
theorem dn_B : ∀ w, w < 10 → ∀ a, a < 10 → w < a → (nI w + (-1) * nI a < 0 ∧ nI w + (-1) * nI a - nI 10 * (-1) = nI (w + 10 - a)) := by decide +kernel
theorem dn_C : ∀ w, w < 10 → 1 ≤ w → nI w + (-1) = nI (w - 1) := by decide +kernel
theorem dn_D : (nI 0 + (-1) < 0 ∧ nI 0 + (-1) - nI 10 * (-1) = nI 9) := by decide +kernel
theorem q2_no {up : Bool} {wh g : Nat → Nat} {s last k : Nat} (h : tw up wh g s last k = q2 up wh g s last k k) (m : Nat) : q2 up wh g s last k m = q2 up wh g s last (k + 1) m := by
  by_cases hm : m = k
  · subst hm; rw [q2_k, h]
  · rw [q2_n hm]
theorem emb_upd0 {k x : Nat} {v v' : Nat → Nat} {old : Nat → Int32} (hk : k < 12) (h1 : v' k = x) (h2 : ∀ m, m < 12 → m ≠ k → v' m = v m) : upd (emb 0 v old) k (nI x) = emb 0 v' old := by
  have h := emb_upd (b := 0) (old := old) hk h1 h2
  rwa [Nat.zero_add] at h
