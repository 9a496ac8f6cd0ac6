/-! the class's one sweep may stop early: nothing more moves -/
theorem cry_0 {up : Bool} {w : Nat} (hw : w ≤ 9) : cry up w 0 = 0 := by
  unfold cry
  split <;> split <;> omega
theorem stp_0 {up : Bool} {w : Nat} (hw : w ≤ 9) : stp up w 0 = w := by
  unfold stp
  split <;> split <;> omega
theorem ct_z {up : Bool} {wh g : Nat → Nat} {s last j : Nat} (hw : ∀ k, k < 12 → wh k ≤ 9) (h6 : 6 ≤ j) (h : crj up wh g s last j = 0 ∨ last < s + j) : ∀ d, s + j + d < 12 → adj up wh g s last (j + d) = 0 ∧ crj up wh g s last (j + d + 1) = 0
  | 0, hd => by
    have h1 : adj up wh g s last j = 0 := by
      unfold adj
      rw [if_neg (by omega), Nat.zero_add]
      split
      · rcases h with h | h
        · exact h
        · omega
      · rfl
    refine ⟨h1, ?_⟩
    show cry up (wh (s + j)) (adj up wh g s last j) = 0
    rw [h1]
    exact cry_0 (hw _ (by omega))
  | d + 1, hd => by
    have ih := (ct_z hw h6 h d (by omega)).2
    have h1 : adj up wh g s last (j + (d + 1)) = 0 := by
      unfold adj
      rw [if_neg (by omega), Nat.zero_add]
      split
      · exact ih
      · rfl
    refine ⟨h1, ?_⟩
    show cry up (wh (s + (j + (d + 1)))) (adj up wh g s last (j + (d + 1))) = 0
    rw [h1]
    exact cry_0 (hw _ (by omega))
theorem tw_tail {up : Bool} {wh g : Nat → Nat} {s last k m : Nat} (hw : ∀ k, k < 12 → wh k ≤ 9) (hk : s + 6 ≤ k) (h : crj up wh g s last (k - s) = 0 ∨ last < k) (hm : k ≤ m) (hm2 : m < 12) : tw up wh g s last m = wh m := by
  unfold tw
  rw [if_pos (by omega)]
  have h1 := (ct_z (up := up) (wh := wh) (g := g) (s := s) (last := last) (j := k - s) hw (by omega) (by rcases h with h | h; exact .inl h; exact .inr (by omega)) (m - k) (by omega)).1
  rw [show k - s + (m - k) = m - s by omega] at h1
  rw [h1]
  exact stp_0 (hw _ hm2)
theorem bl_tail {up : Bool} {wh g : Nat → Nat} {s last k : Nat} (hw : ∀ k, k < 12 → wh k ≤ 9) (hk : s + 6 ≤ k) (hk2 : k < 12) (h : crj up wh g s last (k - s) = 0 ∨ last < k) : ¬ blP up wh g s last := by
  intro hb
  have h1 := (ct_z (up := up) (wh := wh) (g := g) (s := s) (last := last) (j := k - s) hw (by omega) (by rcases h with h | h; exact .inl h; exact .inr (by omega)) (11 - k) (by omega)).2
  rw [show k - s + (11 - k) + 1 = 12 - s by omega] at h1
  have h2 := hb.1
  omega
/-- the class's sweep at k: done below k, old from k on -/
def q3 (up : Bool) (wh g : Nat → Nat) (s last k m : Nat) : Nat := if m < k then tw up wh g s last m else wh m
theorem q3_at {up : Bool} {wh g : Nat → Nat} {s last k : Nat} : q3 up wh g s last k k = wh k := by unfold q3; rw [if_neg (by omega)]
theorem q3_0 {up : Bool} {wh g : Nat → Nat} {s last m : Nat} : q3 up wh g s last s m = wh m := by
  unfold q3
  split
  · unfold tw
    rw [if_neg (by omega)]
  · rfl
theorem q3_12 {up : Bool} {wh g : Nat → Nat} {s last m : Nat} (h : m < 12) : q3 up wh g s last 12 m = tw up wh g s last m := by unfold q3; rw [if_pos h]
theorem q3_end {up : Bool} {wh g : Nat → Nat} {s last k m : Nat} (hw : ∀ k, k < 12 → wh k ≤ 9) (hk : s + 6 ≤ k) (h : crj up wh g s last (k - s) = 0 ∨ last < k) (hm2 : m < 12) : q3 up wh g s last k m = tw up wh g s last m := by
  unfold q3
  split
  · rfl
  · exact (tw_tail hw hk h (by omega) hm2).symm
theorem q3_n {up : Bool} {wh g : Nat → Nat} {s last k m : Nat} (h : m ≠ k) : q3 up wh g s last (k + 1) m = q3 up wh g s last k m := by
  unfold q3
  by_cases h1 : m < k
  · rw [if_pos h1, if_pos (by omega)]
  · rw [if_neg h1, if_neg (by omega)]
/-- a wheel at its turn, under a drum -/
theorem tw_u {up : Bool} {wh g : Nat → Nat} {s last k : Nat} (hs : s ≤ k) (hk : k < s + 6) (hl : s + 5 ≤ last) : tw up wh g s last k = stp up (wh k) (g (k - s) + crj up wh g s last (k - s)) := by
  unfold tw adj
  rw [if_pos hs, if_pos (by omega), if_pos (by omega)]
theorem crj_u {up : Bool} {wh g : Nat → Nat} {s last k : Nat} (hs : s ≤ k) (hk : k < s + 6) (hl : s + 5 ≤ last) : crj up wh g s last (k + 1 - s) = cry up (wh k) (g (k - s) + crj up wh g s last (k - s)) := by
  obtain ⟨j, rfl⟩ : ∃ j, k = s + j := ⟨k - s, by omega⟩
  rw [show s + j + 1 - s = j + 1 by omega, Nat.add_sub_cancel_left]
  show cry up (wh (s + j)) (_ + _) = _
  rw [if_pos (by omega), if_pos (by omega)]
/-- a wheel above the drums -/
theorem tw_a {up : Bool} {wh g : Nat → Nat} {s last k : Nat} (hk : s + 6 ≤ k) (hl : k ≤ last) : tw up wh g s last k = stp up (wh k) (0 + crj up wh g s last (k - s)) := by
  unfold tw adj
  rw [if_pos (by omega), if_neg (by omega), if_pos (by omega)]
theorem crj_a {up : Bool} {wh g : Nat → Nat} {s last k : Nat} (hk : s + 6 ≤ k) (hl : k ≤ last) : crj up wh g s last (k + 1 - s) = cry up (wh k) (0 + crj up wh g s last (k - s)) := by
  obtain ⟨j, rfl⟩ : ∃ j, k = s + j := ⟨k - s, by omega⟩
  rw [show s + j + 1 - s = j + 1 by omega, Nat.add_sub_cancel_left]
  show cry up (wh (s + j)) (_ + _) = _
  rw [if_neg (by omega), if_pos (by omega)]
/-- the ints of one go, upwards and downwards -/
theorem go_A : ∀ w, w < 10 → ∀ a, a < 11 → a ≤ w → nI w + (-1) * nI a = nI (w - a) := by decide +kernel
theorem go_B : ∀ w, w < 10 → ∀ a, a < 11 → w < a → (nI w + (-1) * nI a < 0 ∧ nI w + (-1) * nI a - (-1) * nI 10 * nI 1 = nI (w + 10 - a)) := by decide +kernel
