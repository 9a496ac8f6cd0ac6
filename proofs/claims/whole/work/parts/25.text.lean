/-! THE TEXT: reading it, on numbers -/
theorem in_iff {lo x hi : Nat} (h1 : lo < 2 ^ 31) (h2 : x < 2 ^ 31) (h3 : hi < 2 ^ 31) : (Int32.toInt64 (nI lo) ≤ Int32.toInt64 (nI x) ∧ Int32.toInt64 (nI x) ≤ Int32.toInt64 (nI hi)) ↔ lo ≤ x ∧ x ≤ hi := by
  rw [nI_l h1, nI_l h2, nI_l h3, pk_lLE (by omega) (by omega), pk_lLE (by omega) (by omega)]
abbrev atP (tx : Nat → Nat) (len lo hi p : Nat) : Prop := p < len ∧ lo ≤ tx p ∧ tx p ≤ hi
def skp (tx : Nat → Nat) (len : Nat) : Nat → Nat → Nat
  | 0, p => p
  | r + 1, p => if atP tx len 32 32 p then skp tx len r (p + 1) else p
/-- behind blanks -/
def sk (tx : Nat → Nat) (len p : Nat) : Nat := skp tx len (len - p) p
theorem sk_t {tx : Nat → Nat} {len p : Nat} (h : atP tx len 32 32 p) : sk tx len p = sk tx len (p + 1) := by
  unfold sk
  obtain ⟨r, hr⟩ : ∃ r, len - p = r + 1 := ⟨len - p - 1, by have := h.1; omega⟩
  rw [hr, show len - (p + 1) = r by omega]
  exact if_pos h
theorem sk_f {tx : Nat → Nat} {len p : Nat} (h : ¬ atP tx len 32 32 p) : sk tx len p = p := by
  unfold sk
  cases len - p with
  | zero => rfl
  | succ r => exact if_neg h
theorem skp_ge {tx : Nat → Nat} {len : Nat} : ∀ r p, p ≤ skp tx len r p
  | 0, p => Nat.le_refl _
  | r + 1, p => by
    unfold skp
    split
    · exact Nat.le_trans (Nat.le_succ p) (skp_ge r (p + 1))
    · exact Nat.le_refl _
theorem sk_ge {tx : Nat → Nat} {len p : Nat} : p ≤ sk tx len p := skp_ge _ _
theorem skp_le {tx : Nat → Nat} {len : Nat} : ∀ r p, p ≤ len → skp tx len r p ≤ len
  | 0, _, h => h
  | r + 1, p, h => by
    unfold skp
    split
    · rename_i hb
      exact skp_le r (p + 1) hb.1
    · exact h
theorem sk_le {tx : Nat → Nat} {len p : Nat} (h : p ≤ len) : sk tx len p ≤ len := skp_le _ _ h
/-- up to r figures read from p on, above v: where that ends, and the number -/
def rdn (tx : Nat → Nat) (len : Nat) : Nat → Nat → Nat → Nat × Nat
  | 0, p, v => (p, v)
  | r + 1, p, v => if atP tx len 48 57 p then rdn tx len r (p + 1) (10 * v + tx p - 48) else (p, v)
theorem rdn_t {tx : Nat → Nat} {len r p v : Nat} (h : atP tx len 48 57 p) : rdn tx len (r + 1) p v = rdn tx len r (p + 1) (10 * v + tx p - 48) := if_pos h
theorem rdn_f {tx : Nat → Nat} {len r p v : Nat} (h : ¬ atP tx len 48 57 p) : rdn tx len r p v = (p, v) := by
  cases r with
  | zero => rfl
  | succ r => exact if_neg h
theorem rdn_ge {tx : Nat → Nat} {len : Nat} : ∀ r p v, p ≤ (rdn tx len r p v).1 ∧ (rdn tx len r p v).1 ≤ p + r
  | 0, p, v => ⟨Nat.le_refl _, Nat.le_refl _⟩
  | r + 1, p, v => by
    unfold rdn
    split
    · have h := rdn_ge (tx := tx) (len := len) r (p + 1) (10 * v + tx p - 48)
      exact ⟨by omega, by omega⟩
    · exact ⟨Nat.le_refl _, by omega⟩
theorem rdn_le {tx : Nat → Nat} {len : Nat} : ∀ r p v, p ≤ len → (rdn tx len r p v).1 ≤ len
  | 0, _, _, h => h
  | r + 1, p, v, h => by
    unfold rdn
    split
    · rename_i hb
      exact rdn_le r (p + 1) _ hb.1
    · exact h
/-- a figure still stands there: then six were read -/
theorem rdn_6 {tx : Nat → Nat} {len : Nat} : ∀ r p v, atP tx len 48 57 (rdn tx len r p v).1 → (rdn tx len r p v).1 = p + r
  | 0, _, _, _ => rfl
  | r + 1, p, v, h => by
    unfold rdn at h ⊢
    split
    · rename_i hb
      rw [if_pos hb] at h
      rw [rdn_6 r (p + 1) _ h]
      omega
    · rename_i hb
      rw [if_neg hb] at h
      exact absurd h hb
theorem rdn_v {tx : Nat → Nat} {len : Nat} : ∀ r p v, (rdn tx len r p v).2 < (v + 1) * 10 ^ r
  | 0, _, v => by show v < (v + 1) * 1; omega
  | r + 1, p, v => by
    unfold rdn
    split
    · rename_i hb
      have h := rdn_v (tx := tx) (len := len) r (p + 1) (10 * v + tx p - 48)
      have h2 := hb.2.2
      have h3 : (10 * v + tx p - 48 + 1) * 10 ^ r ≤ ((v + 1) * 10) * 10 ^ r := Nat.mul_le_mul_right _ (by omega)
      rw [Nat.pow_succ, Nat.mul_comm (10 ^ r) 10, ← Nat.mul_assoc]
      omega
    · have h : (v + 1) * 1 ≤ (v + 1) * 10 ^ (r + 1) := Nat.mul_le_mul_left _ (Nat.pos_of_ne_zero (by simp))
      show v < _
      omega
theorem upd_upd {f : Nat → Int32} {k : Nat} {x y : Int32} : upd (upd f k x) k y = upd f k y := by
  funext j
  unfold upd
  by_cases h : j = k <;> simp [h]
/-- how many numbers an order has -/
def mnI (c : Nat) : Int32 := if c = 105 ∨ c = 116 ∨ c = 119 then nI 2 else if c = 115 ∨ c = 117 ∨ c = 100 ∨ c = 114 then nI 1 else if c = 99 ∨ c = 118 then nI 0 else (-1)
