/-! words for the contracts: ranges, rows -/
theorem in_ok {j n : Nat} (h : j ≤ n) (hn : n < 2 ^ 31) : (0 : Int64) ≤ Int32.toInt64 (nI j) ∧ Int32.toInt64 (nI j) ≤ lN n := by
  rw [nI_l (by omega)]
  exact ⟨(pk_lLE (a := 0) (by omega) (by omega)).mpr (Nat.zero_le _), (pk_lLE (by omega) (by omega)).mpr h⟩
theorem in_ok1 {j n : Nat} (h0 : 1 ≤ j) (h : j ≤ n) (hn : n < 2 ^ 31) : (1 : Int64) ≤ Int32.toInt64 (nI j) ∧ Int32.toInt64 (nI j) ≤ lN n := by
  rw [nI_l (by omega)]
  exact ⟨(pk_lLE (a := 1) (by omega) (by omega)).mpr h0, (pk_lLE (by omega) (by omega)).mpr h⟩
theorem in_of {x : Int32} {n : Nat} (hn : n < 2 ^ 31) (h : (0 : Int64) ≤ Int32.toInt64 x ∧ Int32.toInt64 x ≤ lN n) : ∃ j, j ≤ n ∧ x = nI j := by
  obtain ⟨h1, h2⟩ := h
  rw [Int64.le_iff_toInt_le] at h1 h2
  have h3 : (Int32.toInt64 x).toInt = x.toInt := Int32.toInt_toInt64 x
  rw [h3] at h1 h2
  rw [pk_lT (by omega)] at h2
  have h0 : (0 : Int64).toInt = 0 := by decide
  rw [h0] at h1
  refine ⟨x.toInt.toNat, by omega, ?_⟩
  apply Int32.toInt_inj.mp
  rw [nI_toInt (by omega)]
  omega
theorem in_of1 {x : Int32} {n : Nat} (hn : n < 2 ^ 31) (h : (1 : Int64) ≤ Int32.toInt64 x ∧ Int32.toInt64 x ≤ lN n) : ∃ j, 1 ≤ j ∧ j ≤ n ∧ x = nI j := by
  obtain ⟨j, hj, rfl⟩ := in_of hn ⟨by
    have h1 := h.1
    rw [Int64.le_iff_toInt_le] at h1 ⊢
    have e0 : (0 : Int64).toInt = 0 := by decide
    have e1 : (1 : Int64).toInt = 1 := by decide
    rw [e1] at h1
    rw [e0]
    omega, h.2⟩
  refine ⟨j, ?_, hj, rfl⟩
  have h1 := h.1
  rw [nI_l (by omega)] at h1
  exact (pk_lLE (a := 1) (by omega) (by omega)).mp h1
theorem upd_same {f : Nat → Int32} {k : Nat} {x : Int32} : upd f k x k = x := if_pos rfl
theorem upd_ne {f : Nat → Int32} {k j : Nat} {x : Int32} (h : j ≠ k) : upd f k x j = f j := if_neg h
/-- two heaps that differ at most in one cell -/
theorem Sq.us {sg : Sg} {k : Nat} {f g : Nat → Int32} (h : ∀ j, j < ln k → f j = g j) : Sq (us sg k f) (us sg k g) := by
  intro i j hj
  by_cases hi : i = k
  · subst hi; rw [us_same, us_same]; exact h j hj
  · rw [us_ne hi, us_ne hi]
theorem Sq.trans {a b c : Sg} (h1 : Sq a b) (h2 : Sq b c) : Sq a c := fun k j hj => (h1 k j hj).trans (h2 k j hj)
theorem Sq.symm {a b : Sg} (h1 : Sq a b) : Sq b a := fun k j hj => (h1 k j hj).symm
theorem us_us {sg : Sg} {k : Nat} {f g : Nat → Int32} : us (us sg k f) k g = us sg k g := by
  funext i
  by_cases h : i = k
  · subst h; rw [us_same, us_same]
  · rw [us_ne h, us_ne h, us_ne h]
theorem us_id {sg : Sg} {k : Nat} : us sg k (sg k) = sg := by
  funext i
  by_cases h : i = k
  · subst h; rw [us_same]
  · rw [us_ne h]
theorem us_comm {sg : Sg} {k l : Nat} {f g : Nat → Int32} (h : k ≠ l) : us (us sg k f) l g = us (us sg l g) k f := by
  funext i
  by_cases h1 : i = k
  · subst h1; rw [us_ne h, us_same, us_same]
  · by_cases h2 : i = l
    · subst h2; rw [us_same, us_ne h1, us_same]
    · rw [us_ne h2, us_ne h1, us_ne h1, us_ne h2]
/-- a row whose places from b on, i of them, are new -/
def fw (b : Nat) (new old : Nat → Int32) (i : Nat) : Nat → Int32 := fun j => if b ≤ j ∧ j < b + i then new j else old j
theorem fw_0 {b : Nat} {new old : Nat → Int32} : fw b new old 0 = old := by
  funext j
  unfold fw
  rw [if_neg (by omega)]
theorem fw_s {b i : Nat} {new old : Nat → Int32} {x : Int32} (h : x = new (b + i)) : upd (fw b new old i) (b + i) x = fw b new old (i + 1) := by
  subst h
  funext j
  unfold fw upd
  by_cases h1 : j = b + i
  · subst h1; rw [if_pos rfl, if_pos (by omega)]
  · rw [if_neg h1]
    show (if b ≤ j ∧ j < b + i then new j else old j) = if b ≤ j ∧ j < b + (i + 1) then new j else old j
    by_cases h2 : b ≤ j ∧ j < b + i
    · rw [if_pos h2, if_pos (by omega)]
    · rw [if_neg h2, if_neg (by omega)]
theorem fw_s0 {i : Nat} {new old : Nat → Int32} {x : Int32} (h : x = new i) : upd (fw 0 new old i) i x = fw 0 new old (i + 1) := by
  have h1 := fw_s (b := 0) (i := i) (new := new) (old := old) (x := x) (by rw [Nat.zero_add]; exact h)
  rwa [Nat.zero_add] at h1
theorem fw_in {b i j : Nat} {new old : Nat → Int32} (h : b ≤ j ∧ j < b + i) : fw b new old i j = new j := if_pos h
theorem fw_out {b i j : Nat} {new old : Nat → Int32} (h : ¬ (b ≤ j ∧ j < b + i)) : fw b new old i j = old j := if_neg h
/-! sums that the loops make, as they make them -/
def whX (wn : Int32) : Nat → Int32
  | 0 => nI 0
  | n + 1 => whX wn n + (if n = 0 then nI 0 else ((wn >>> (nI n &&& 31)) &&& nI 1) ^^^ nI 1)
theorem whX_s {wn : Int32} {n : Nat} (h : 1 ≤ n) : whX wn (n + 1) = whX wn n + (((wn >>> (nI n &&& 31)) &&& nI 1) ^^^ nI 1) := by
  show whX wn n + (if n = 0 then nI 0 else _) = _
  rw [if_neg (by omega)]
theorem whX_1 {wn : Int32} : whX wn 1 = nI 0 := rfl
def wmX (wn : Int32) : Nat → Int32
  | 0 => nI 0
  | n + 1 => wmX wn n + (if n = 0 then nI 0 else (wn >>> (nI n &&& 31)) &&& nI 1)
theorem wmX_s {wn : Int32} {n : Nat} (h : 1 ≤ n) : wmX wn (n + 1) = wmX wn n + ((wn >>> (nI n &&& 31)) &&& nI 1) := by
  show wmX wn n + (if n = 0 then nI 0 else _) = _
  rw [if_neg (by omega)]
theorem wmX_1 {wn : Int32} : wmX wn 1 = nI 0 := rfl
/-- how many of n places from b on are not as 'g' says -/
def czX (f g : Nat → Int32) (b : Nat) : Nat → Int32
  | 0 => nI 0
  | n + 1 => czX f g b n + (if f (b + n) = g n then nI 0 else nI 1)
theorem czX_t {f g : Nat → Int32} {b n : Nat} (h : f (b + n) = g n) : czX f g b (n + 1) = czX f g b n + nI 0 := by
  show czX f g b n + (if f (b + n) = g n then nI 0 else nI 1) = _
  rw [if_pos h]
theorem czX_f {f g : Nat → Int32} {b n : Nat} (h : ¬ f (b + n) = g n) : czX f g b (n + 1) = czX f g b n + nI 1 := by
  show czX f g b n + (if f (b + n) = g n then nI 0 else nI 1) = _
  rw [if_neg h]
/-- places b .. b + r of a row as a number's figures, above what stands there already -/
def nbX (f : Nat → Int32) (b : Nat) : Nat → Int32 → Int32
  | 0, v => v
  | r + 1, v => nbX f b r (nI 10 * v + f (b + r))
def vlX (f : Nat → Int32) (b : Nat) : Nat → Int64 → Int64
  | 0, v => v
  | r + 1, v => vlX f b r (10 * v + Int32.toInt64 (f (b + r)))
/-- the states, one more laid on them -/
def pastP (past aside : Nat → Int32) (st : Nat) : Nat → Int32 := fun k => if st = 5 then (if k < 140 then past (k + 35) else aside (k - 140)) else if 35 * st ≤ k ∧ k < 35 * st + 35 then aside (k - 35 * st) else past k
def stP (st : Nat) : Nat := if st = 5 then 5 else st + 1
theorem m2_lt {a : Nat} (ha : a < 2 ^ 31) : (-2 : Int32) < nI a := by
  rw [Int32.lt_iff_toInt_lt, nI_toInt ha]
  have h : (-2 : Int32).toInt = -2 := by decide
  omega
