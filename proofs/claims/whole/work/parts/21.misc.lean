/-! answers are not refusals; numbers of rows -/
theorem m2_of {x : Int32} (h : ∃ c, c < 2 ^ 31 ∧ x = nI c) : (-2 : Int32) < x := by
  obtain ⟨c, hc, rfl⟩ := h
  exact m2_lt hc
theorem czX_nat {f g : Nat → Int32} {b : Nat} : ∀ n, ∃ c, c ≤ n ∧ czX f g b n = nI c
  | 0 => ⟨0, Nat.le_refl _, rfl⟩
  | n + 1 => by
    obtain ⟨c, hc, e⟩ := czX_nat (f := f) (g := g) (b := b) n
    by_cases h : f (b + n) = g n
    · exact ⟨c, by omega, by rw [czX_t h, e, nI_add, Nat.add_zero]⟩
    · exact ⟨c + 1, by omega, by rw [czX_f h, e, nI_add]⟩
theorem czX_gt {f g : Nat → Int32} {b n : Nat} (hn : n < 2 ^ 30) : (-2 : Int32) < czX f g b n := by
  obtain ⟨c, hc, e⟩ := czX_nat (f := f) (g := g) (b := b) n
  exact m2_of ⟨c, by omega, e⟩
theorem rgs_nat {up : Bool} {cts : Int32} {g : Nat → Nat} {f : Nat → Int32} : ∀ n, ∃ c, c ≤ n ∧ rgs up cts g f n = nI c
  | 0 => ⟨0, Nat.le_refl _, rfl⟩
  | n + 1 => by
    obtain ⟨c, hc, e⟩ := rgs_nat (up := up) (cts := cts) (g := g) (f := f) n
    show ∃ c, c ≤ n + 1 ∧ rgs up cts g f n + bI _ = nI c
    by_cases h : blP up (wN (itR up cts g n f)) g (sN (itR up cts g n f)) (sN (itR up cts g n f) + 5 + reN (itR up cts g n f))
    · exact ⟨c + 1, by omega, by rw [bI_t h, e]; exact nI_1 c⟩
    · exact ⟨c, by omega, by rw [bI_f h, e]; exact Int32.add_zero _⟩
theorem rgs_gt {up : Bool} {cts : Int32} {g : Nat → Nat} {f : Nat → Int32} {n : Nat} (hn : n ≤ 99) : (-2 : Int32) < rgs up cts g f n := by
  obtain ⟨c, hc, e⟩ := rgs_nat (up := up) (cts := cts) (g := g) (f := f) n
  exact m2_of ⟨c, by omega, e⟩
theorem wmX_nat (wn : Int32) : ∀ n, ∃ c, c ≤ n ∧ wmX wn (n + 1) = nI c
  | 0 => ⟨0, Nat.le_refl _, rfl⟩
  | n + 1 => by
    obtain ⟨c, hc, e⟩ := wmX_nat wn n
    rw [wmX_s (by omega), e]
    obtain ⟨j, hj, ej⟩ := pk_andE (wn >>> (nI (n + 1) &&& 31)) (m := nI 1) 1 (by decide)
    have hj2 : j < 2 := hj
    exact ⟨c + j, by omega, by rw [ej, nI_add]⟩
theorem wmX_gt {wn : Int32} : (-2 : Int32) < wmX wn 10 := by
  obtain ⟨c, hc, e⟩ := wmX_nat wn 9
  exact m2_of ⟨c, by omega, e⟩
def nbN (d : Nat → Nat) : Nat → Nat → Nat
  | 0, v => v
  | r + 1, v => nbN d r (10 * v + d r)
theorem nbX_nat {f : Nat → Int32} {b : Nat} {d : Nat → Nat} : ∀ r v, (∀ k, k < r → f (b + k) = nI (d k)) → nbX f b r (nI v) = nI (nbN d r v)
  | 0, _, _ => rfl
  | r + 1, v, h => by
    show nbX f b r (nI 10 * nI v + f (b + r)) = nI (nbN d r (10 * v + d r))
    rw [h r (by omega), pk_mul, nI_add]
    exact nbX_nat r _ (fun k hk => h k (by omega))
theorem nbN_lt {d : Nat → Nat} : ∀ r v, (∀ k, k < r → d k ≤ 9) → nbN d r v < (v + 1) * 10 ^ r
  | 0, v, _ => by show v < (v + 1) * 1; omega
  | r + 1, v, h => by
    have h1 := nbN_lt r (10 * v + d r) (fun k hk => h k (by omega))
    have h2 := h r (by omega)
    show nbN d r (10 * v + d r) < _
    have h3 : (10 * v + d r + 1) * 10 ^ r ≤ ((v + 1) * 10) * 10 ^ r := Nat.mul_le_mul_right _ (by omega)
    rw [Nat.pow_succ, Nat.mul_comm (10 ^ r) 10, ← Nat.mul_assoc]
    omega
theorem nb_dig {f : Nat → Int32} (hf : ROk f) : nbX f 0 6 (nI 0) = nI (nbN (dN f) 6 0) ∧ nbN (dN f) 6 0 < 1000000 :=
  ⟨nbX_nat 6 0 (fun k hk => by rw [Nat.zero_add]; exact (hf.1 k hk).1), by have h := nbN_lt (d := dN f) 6 0 (fun k hk => (hf.1 k hk).2); omega⟩
theorem dig_gt {f : Nat → Int32} (hf : ROk f) : (-2 : Int32) < nbX f 0 6 (nI 0) := m2_of ⟨_, by have := (nb_dig hf).2; omega, (nb_dig hf).1⟩
/-- figures of a number put -/
def inR (n : Nat) (f : Nat → Int32) : Nat → Int32 := fw 0 (fun d => nI (n / 10 ^ d % 10)) f 6
def laR (m : Nat) (f : Nat → Int32) : Nat → Int32 := fw 12 (fun j => nI (m / 10 ^ (j - 12) % 10)) f 12
theorem dp10 (v i : Nat) : v / 10 ^ i / 10 = v / 10 ^ (i + 1) := by rw [Nat.div_div_eq_div_mul, Nat.pow_succ]
theorem inR_ok {n : Nat} {f : Nat → Int32} (hf : ROk f) : ROk (inR n f) := by
  refine ROk.mk (d := fun d => n / 10 ^ d % 10) (o := oN f) (wh := wN f) (s := sN f) (re := reN f) (fun k hk => ?_) (fun k hk => ?_) (fun k hk => ?_) ?_ ?_
  · unfold inR; rw [fw_in (by omega)]; exact ⟨rfl, by have := Nat.mod_lt (n / 10 ^ k) (show 0 < 10 by decide); omega⟩
  · unfold inR; rw [fw_out (by omega)]; exact hf.2.1 k hk
  · unfold inR; rw [fw_out (by omega)]; exact hf.2.2.1 k hk
  · unfold inR; rw [fw_out (by omega)]; exact hf.2.2.2.1
  · unfold inR; rw [fw_out (by omega)]; exact hf.2.2.2.2
theorem laR_ok {m : Nat} {f : Nat → Int32} (hf : ROk f) : ROk (laR m f) := by
  refine ROk.mk (d := dN f) (o := oN f) (wh := fun k => m / 10 ^ k % 10) (s := sN f) (re := reN f) (fun k hk => ?_) (fun k hk => ?_) (fun k hk => ?_) ?_ ?_
  · unfold laR; rw [fw_out (by omega)]; exact hf.1 k hk
  · unfold laR; rw [fw_out (by omega)]; exact hf.2.1 k hk
  · unfold laR; rw [fw_in (by omega), Nat.add_sub_cancel_left]; exact ⟨rfl, by have := Nat.mod_lt (m / 10 ^ k) (show 0 < 10 by decide); omega⟩
  · unfold laR; rw [fw_out (by omega)]; exact hf.2.2.2.1
  · unfold laR; rw [fw_out (by omega)]; exact hf.2.2.2.2
theorem vlX_congr {f f' : Nat → Int32} {b b' : Nat} : ∀ r v, (∀ k, k < r → f (b + k) = f' (b' + k)) → vlX f b r v = vlX f' b' r v
  | 0, _, _ => rfl
  | r + 1, v, h => by
    show vlX f b r (10 * v + Int32.toInt64 (f (b + r))) = vlX f' b' r (10 * v + Int32.toInt64 (f' (b' + r)))
    rw [h r (by omega)]
    exact vlX_congr r _ (fun k hk => h k (by omega))
/-- TRIAL: wheels behind n turns from 0 -/
def twI (g : Nat → Nat) (re : Nat) : Nat → Nat → Nat
  | 0 => fun _ => 0
  | n + 1 => tw true (twI g re n) g 0 (5 + re)
theorem twI_le {g : Nat → Nat} {re : Nat} (hg : ∀ i, i < 6 → g i ≤ 9) : ∀ n k, k < 12 → twI g re n k ≤ 9
  | 0, _, _ => Nat.zero_le _
  | n + 1, _, hk => tw_le (fun k hk => twI_le hg n k hk) hg hk
theorem emb_emb {b : Nat} {v v' : Nat → Nat} {old : Nat → Int32} : emb b v (emb b v' old) = emb b v old := by
  funext j
  unfold emb
  by_cases h : b ≤ j ∧ j < b + 12
  · rw [if_pos h, if_pos h]
  · rw [if_neg h, if_neg h]
    exact (if_neg h).symm
def trv (g : Nat → Nat) (re n : Nat) : Int64 := vlX (fun k => nI (twI g re n k)) 0 12 0
theorem trv_of {g : Nat → Nat} {re n : Nat} {old : Nat → Int32} : vlX (emb 0 (twI g re n) old) 0 12 0 = trv g re n :=
  vlX_congr 12 0 (fun k hk => by rw [emb_in hk, Nat.zero_add])
/-- drums' gifts, were one tooth alone worn -/
def gw (f : Nat → Int32) (d t : Nat) : Nat → Nat := fun e => (whX (if e = d then nI 1 <<< (nI t &&& 31) else nI 0) (dN f e + 1)).toNatClampNeg
theorem gw_ok {f : Nat → Int32} (hf : ROk f) {d t e : Nat} (he : e < 6) : whX (if e = d then nI 1 <<< (nI t &&& 31) else nI 0) (dN f e + 1) = nI (gw f d t e) ∧ gw f d t e ≤ 9 := by
  obtain ⟨c, hc, e1⟩ := whX_nat (if e = d then nI 1 <<< (nI t &&& 31) else nI 0) (dN f e)
  have h9 := (hf.1 e he).2
  have e2 : gw f d t e = c := by unfold gw; rw [e1]; exact nI_clamp (by omega)
  rw [e2]
  exact ⟨e1, by omega⟩
/-- which teeth explain: how many, the least, the greatest, teeth of drums below d and of drum d up to t gone through -/
def exS (v : Int64) (n : Nat) (f : Nat → Int32) (d t : Nat) (q : Int32 × Int32 × Int32) : Int32 × Int32 × Int32 := if trv (gw f d t) (reN f) n = v then (q.1 + nI 1, (if q.2.1 = (-1) then nI (10 * d + t) else q.2.1), nI (10 * d + t)) else q
def ex1 (v : Int64) (n : Nat) (f : Nat → Int32) (d : Nat) : Nat → Int32 × Int32 × Int32 → Int32 × Int32 × Int32
  | 0, q => q
  | t + 1, q => exS v n f d (t + 1) (ex1 v n f d t q)
def ex6 (v : Int64) (n : Nat) (f : Nat → Int32) : Nat → Int32 × Int32 × Int32
  | 0 => (nI 0, (-1), (-1))
  | d + 1 => ex1 v n f d 9 (ex6 v n f d)
