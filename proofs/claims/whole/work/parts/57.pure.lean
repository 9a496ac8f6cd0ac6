/-! what the class tells is what the reference tells: pure equalities of the row -/
theorem vl_nb {f h : Nat → Int32} {b : Nat} : ∀ r v, (∀ k, k < r → f k = h (b + k)) → Int64.toInt32 (vlY f r v) = nbX h b r (Int64.toInt32 v)
  | 0, _, _ => rfl
  | r + 1, v, hh => by
    show Int64.toInt32 (vlY f r (v * 10 + Int32.toInt64 (f r))) = nbX h b r (nI 10 * Int64.toInt32 v + h (b + r))
    rw [vl_nb r _ (fun k hk => hh k (by omega)), hh r (by omega)]
    congr 1
    rw [Int64.toInt32_add, Int64.toInt32_mul, Int32.toInt32_toInt64, Int32.mul_comm]
    rfl
theorem vl_vl {f h : Nat → Int32} {b : Nat} : ∀ r v, (∀ k, k < r → f k = h (b + k)) → vlY f r v = vlX h b r v
  | 0, _, _ => rfl
  | r + 1, v, hh => by
    show vlY f r (v * 10 + Int32.toInt64 (f r)) = vlX h b r (10 * v + Int32.toInt64 (h (b + r)))
    rw [vl_vl r _ (fun k hk => hh k (by omega)), hh r (by omega), Int64.mul_comm]
theorem p_dig {sg : Sg} : Int64.toInt32 (vlY (sg 2) 6 0) = nbX (rowC sg 1) 0 6 (nI 0) :=
  vl_nb 6 0 (fun k hk => by rw [Nat.zero_add]; exact (rowC_d (sg := sg) (w := 1) hk).symm)
theorem p_cnt {sg : Sg} : Int64.toInt32 (vlY (sg 5) 7 0) = nbX (rowC sg 1) 24 7 (nI 0) :=
  vl_nb 7 0 (fun k hk => (rowC_c (sg := sg) (w := 1) hk).symm)
theorem p_whl {sg : Sg} : vlY (sg 4) 12 0 = vlX (rowC sg 1) 12 12 0 :=
  vl_vl 12 0 (fun k hk => (rowC_w (sg := sg) (w := 1) hk).symm)
theorem ng_nb {g : Nat → Nat} : ∀ r v, ngX g r v = nbN g r v
  | 0, _ => rfl
  | r + 1, v => by
    show ngX g r (v * 10 + g r) = nbN g r (10 * v + g r)
    rw [ng_nb r, Nat.mul_comm]
theorem p_giv {f : Nat → Int32} (hf : ROk f) : nbX (fun d => whX (f (6 + d)) (dN f d + 1)) 0 6 (nI 0) = nI (ngX (gN f) 6 0) := by
  rw [ng_nb]
  exact nbX_nat 6 0 (fun k hk => by rw [Nat.zero_add]; exact (gN_ok hf hk).1)
theorem p_wrn {sg : Sg} (hf : ROk (rowC sg 1)) : ∀ d, d ≤ 6 → wsC (sg 3) d = wsX (rowC sg 1) d
  | 0, _ => rfl
  | d + 1, h => by
    show wsC (sg 3) d + bcX (sg 3 d) = wsX (rowC sg 1) d + wmX (rowC sg 1 (6 + d)) 10
    have h1 := hf.2.1 d (by omega)
    have h2 : sg 3 d = rowC sg 1 (6 + d) := (rowC_o (sg := sg) (w := 1) (show d < 6 by omega)).symm
    have h3 := bc_eq h1.2.1 h1.2.2
    rw [← h1.1] at h3
    rw [p_wrn hf d (by omega), h2, h3]
theorem cz_cz {f h g : Nat → Int32} {b : Nat} : ∀ n, (∀ k, k < n → f k = h (b + k)) → czX f g 0 n = czX h g b n
  | 0, _ => rfl
  | n + 1, hh => by
    have e : f (0 + n) = h (b + n) := by rw [Nat.zero_add]; exact hh n (by omega)
    show czX f g 0 n + (if f (0 + n) = g n then nI 0 else nI 1) = czX h g b n + (if h (b + n) = g n then nI 0 else nI 1)
    rw [cz_cz n (fun k hk => hh k (by omega)), e]
theorem p_cz {sg : Sg} {g : Nat → Int32} : czX (sg 4) g 0 12 = czX (rowC sg 1) g 12 12 := cz_cz 12 (fun k hk => (rowC_w (sg := sg) (w := 1) hk).symm)
theorem cz_0 : (fun k => nI (0 / 10 ^ k % 10)) = fun _ => nI 0 := by funext k; rw [Nat.zero_div]
theorem ng_6 (g : Nat → Nat) : ngX g 6 0 = (((((0 * 10 + g 5) * 10 + g 4) * 10 + g 3) * 10 + g 2) * 10 + g 1) * 10 + g 0 := rfl
theorem gsm_6 (g : Nat → Nat) : gsm g 6 = 0 + g 0 + g 1 + g 2 + g 3 + g 4 + g 5 := rfl
theorem ng_gs {g : Nat → Nat} : ngX g 6 0 = 0 ↔ gsm g 6 = 0 := by
  rw [ng_6, gsm_6]
  omega
theorem mk0 {n : Nat} : ∀ k, mkP 0 n k = n / 10 ^ k
  | 0 => (Nat.div_one n).symm
  | k + 1 => by
    show nxP 0 (mkP 0 n k) = _
    unfold nxP
    rw [if_neg (by omega), mk0 k, Nat.add_zero, dp10]
theorem p_sm {n : Nat} (hn : n ≤ 999999) : smP 0 n 7 = smP 0 n 6 := by
  show smP 0 n 6 + aP 0 (mkP 0 n 6) = _
  rw [mk0]
  unfold aP
  rw [if_neg (by omega), show n / 10 ^ 6 = 0 from Nat.div_eq_of_lt (by omega)]
  rfl
/-! TRIAL: turns from 0 add up -/
theorem nbN_dig {d : Nat → Nat} {y : Nat} : ∀ r, (∀ k, k < r → d k = y / 10 ^ k % 10) → nbN d r (y / 10 ^ r) = y
  | 0, _ => Nat.div_one y
  | r + 1, h => by
    show nbN d r (10 * (y / 10 ^ (r + 1)) + d r) = y
    rw [h r (by omega), ← dp10, show 10 * (y / 10 ^ r / 10) + y / 10 ^ r % 10 = y / 10 ^ r by omega]
    exact nbN_dig r (fun k hk => h k (by omega))
theorem dg_of {g : Nat → Nat} (hg : ∀ i, i < 6 → g i ≤ 9) {k : Nat} (hk : k < 6) : ngX g 6 0 / 10 ^ k % 10 = g k := by
  have h0 := hg 0 (by omega)
  have h1 := hg 1 (by omega)
  have h2 := hg 2 (by omega)
  have h3 := hg 3 (by omega)
  have h4 := hg 4 (by omega)
  have h5 := hg 5 (by omega)
  rw [ng_6]
  rcases (show k = 0 ∨ k = 1 ∨ k = 2 ∨ k = 3 ∨ k = 4 ∨ k = 5 by omega) with rfl | rfl | rfl | rfl | rfl | rfl <;> omega
theorem dg_hi {g : Nat → Nat} (hg : ∀ i, i < 6 → g i ≤ 9) {k : Nat} (hk : 6 ≤ k) : ngX g 6 0 / 10 ^ k = 0 := by
  have h := ngX_lt (g := g) 6 0 hg
  refine Nat.div_eq_of_lt (Nat.lt_of_lt_of_le h ?_)
  rw [show (0 + 1) * 10 ^ 6 = 10 ^ 6 from rfl]
  exact Nat.pow_le_pow_right (by decide) hk
/-- the CARRY into place j, the wheels being N's figures -/
theorem cr_add {wh g : Nat → Nat} {re N : Nat} (hg : ∀ i, i < 6 → g i ≤ 9) (hw : ∀ k, k ≤ 5 + re → wh k = N / 10 ^ k % 10) : ∀ j, j ≤ 6 + re → (N + ngX g 6 0) / 10 ^ j = N / 10 ^ j + ngX g 6 0 / 10 ^ j + crj true wh g 0 (5 + re) j
  | 0, _ => by
    show (N + ngX g 6 0) / 1 = N / 1 + ngX g 6 0 / 1 + 0
    rw [Nat.div_one, Nat.div_one, Nat.div_one]
    rfl
  | j + 1, h => by
    have ih := cr_add hg hw j (by omega)
    have hc := crj_le (up := true) (wh := wh) (g := g) (s := 0) (last := 5 + re) (j := j)
    rw [← dp10, ← dp10, ← dp10, ih]
    have e : crj true wh g 0 (5 + re) (j + 1) = cry true (wh (0 + j)) ((if j < 6 then g j else 0) + (if 0 + j ≤ 5 + re then crj true wh g 0 (5 + re) j else 0)) := rfl
    have eg : (if j < 6 then g j else 0) = ngX g 6 0 / 10 ^ j % 10 := by
      by_cases hj : j < 6
      · rw [if_pos hj, dg_of hg hj]
      · rw [if_neg hj, dg_hi hg (by omega)]
    rw [e, eg, if_pos (by omega), Nat.zero_add, hw j (by omega)]
    unfold cry
    rw [if_pos rfl]
    split <;> omega
theorem tw_add {wh g : Nat → Nat} {re N k : Nat} (hg : ∀ i, i < 6 → g i ≤ 9) (hw : ∀ k, k ≤ 5 + re → wh k = N / 10 ^ k % 10) (hk : k ≤ 5 + re) : tw true wh g 0 (5 + re) k = (N + ngX g 6 0) / 10 ^ k % 10 := by
  have h1 := cr_add hg hw k (by omega)
  have hc := crj_le (up := true) (wh := wh) (g := g) (s := 0) (last := 5 + re) (j := k)
  have eg : (if k < 6 then g k else 0) = ngX g 6 0 / 10 ^ k % 10 := by
    by_cases hj : k < 6
    · rw [if_pos hj, dg_of hg hj]
    · rw [if_neg hj, dg_hi hg (by omega)]
  unfold tw adj
  rw [if_pos (Nat.zero_le _), Nat.sub_zero, eg, if_pos (by omega), hw k hk, h1]
  unfold stp
  rw [if_pos rfl]
  split <;> omega
theorem twI_dig {g : Nat → Nat} {re : Nat} (hg : ∀ i, i < 6 → g i ≤ 9) : ∀ n k, twI g re n k = if k ≤ 5 + re then (ngX g 6 0 * n) / 10 ^ k % 10 else 0
  | 0, k => by
    show 0 = _
    rw [Nat.mul_zero, Nat.zero_div]
    split <;> rfl
  | n + 1, k => by
    show tw true (twI g re n) g 0 (5 + re) k = _
    by_cases hk : k ≤ 5 + re
    · rw [if_pos hk, Nat.mul_succ]
      exact tw_add hg (fun j hj => by rw [twI_dig hg n j, if_pos hj]) hk
    · rw [if_neg hk]
      unfold tw adj
      rw [if_pos (Nat.zero_le _), if_neg (by omega), if_neg (by omega), twI_dig hg n k, if_neg hk]
      rfl
theorem vlX_nat {f : Nat → Int32} {b : Nat} {d : Nat → Nat} : ∀ r v, (∀ k, k < r → f (b + k) = nI (d k) ∧ d k < 2 ^ 31) → vlX f b r (lN v) = lN (nbN d r v)
  | 0, _, _ => rfl
  | r + 1, v, h => by
    show vlX f b r (10 * lN v + Int32.toInt64 (f (b + r))) = lN (nbN d r (10 * v + d r))
    have e := h r (by omega)
    rw [e.1, nI_l e.2, show (10 : Int64) = lN 10 from rfl, lN_mul, lN_add]
    exact vlX_nat r _ (fun k hk => h k (by omega))
theorem p_tri {g : Nat → Nat} {re n : Nat} (hg : ∀ i, i < 6 → g i ≤ 9) (hn : n ≤ 99) : trv g re n = trC re (ngX g 6 0) n := by
  have hG := ngX_lt (g := g) 6 0 hg
  have hx : ngX g 6 0 * n < 100000000 := Nat.lt_of_le_of_lt (Nat.mul_le_mul (show ngX g 6 0 ≤ 999999 by omega) hn) (by decide)
  have hd := twI_dig (re := re) hg n
  have key : trv g re n = lN (nbN (twI g re n) 12 0) := by
    unfold trv
    exact vlX_nat 12 0 (fun k hk => by rw [Nat.zero_add]; exact ⟨rfl, by have := twI_le (re := re) hg n k hk; omega⟩)
  rw [key]
  unfold trC
  generalize ngX g 6 0 * n = x at hx hd
  have fin : ∀ y, y < 1000000000000 → (∀ k, k < 12 → twI g re n k = y / 10 ^ k % 10) → nbN (twI g re n) 12 0 = y := by
    intro y hy h
    have := nbN_dig (y := y) 12 h
    rwa [show y / 10 ^ 12 = 0 from Nat.div_eq_of_lt (by omega)] at this
  have k12 : ∀ k, k < 12 → k = 0 ∨ k = 1 ∨ k = 2 ∨ k = 3 ∨ k = 4 ∨ k = 5 ∨ k = 6 ∨ k = 7 ∨ k = 8 ∨ k = 9 ∨ k = 10 ∨ k = 11 := fun k hk => by omega
  by_cases h0 : re = 0
  · rw [if_pos h0, fin (x % 1000000) (by omega) (fun k hk => ?_)]
    rw [hd, h0]
    rcases k12 k hk with rfl | rfl | rfl | rfl | rfl | rfl | rfl | rfl | rfl | rfl | rfl | rfl <;> simp only [Nat.reduceLeDiff, Nat.reduceAdd, if_true, if_false] <;> omega
  · rw [if_neg h0]
    by_cases h1 : re = 1
    · rw [if_pos h1, fin (x % 10000000) (by omega) (fun k hk => ?_)]
      rw [hd, h1]
      rcases k12 k hk with rfl | rfl | rfl | rfl | rfl | rfl | rfl | rfl | rfl | rfl | rfl | rfl <;> simp only [Nat.reduceLeDiff, Nat.reduceAdd, if_true, if_false] <;> omega
    · rw [if_neg h1, fin x (by omega) (fun k hk => ?_)]
      rw [hd]
      by_cases hk2 : k ≤ 5 + re
      · rw [if_pos hk2]
      · rw [if_neg hk2]
        rcases (show k = 8 ∨ k = 9 ∨ k = 10 ∨ k = 11 by omega) with rfl | rfl | rfl | rfl <;> omega
/-! one TOOTH alone WORN -/
theorem wh_0 : ∀ g, g < 10 → whX (nI 0) (g + 1) = nI g := by decide +kernel
theorem wh_t : ∀ g, g < 10 → ∀ t, t < 10 → 1 ≤ t → whX (nI 1 <<< (nI t &&& 31)) (g + 1) = nI (if t ≤ g then g - 1 else g) := by decide +kernel
theorem gw_eq {f : Nat → Int32} (hf : ROk f) {d t e : Nat} (ht1 : 1 ≤ t) (ht : t ≤ 9) (he : e < 6) : gw f d t e = if e = d ∧ t ≤ dN f d then dN f e - 1 else dN f e := by
  have h9 := (hf.1 e he).2
  unfold gw
  by_cases hd : e = d
  · subst hd
    rw [if_pos rfl, wh_t (dN f e) (by omega) t (by omega) ht1, cl_nI (by split <;> omega)]
    by_cases h : t ≤ dN f e
    · rw [if_pos h, if_pos ⟨rfl, h⟩]
    · rw [if_neg h, if_neg (fun q => h q.2)]
  · rw [if_neg hd, if_neg (fun q => hd q.1), wh_0 (dN f e) (by omega), cl_nI (by omega)]
/-- what would be given, as the class makes it -/
def gtN (f : Nat → Int32) (d t : Nat) : Nat := if t ≤ dN f d then ngX (dN f) 6 0 - 10 ^ d else ngX (dN f) 6 0
theorem ng_gw {f : Nat → Int32} (hf : ROk f) {d t : Nat} (ht1 : 1 ≤ t) (ht : t ≤ 9) (hd : d < 6) : ngX (gw f d t) 6 0 = gtN f d t := by
  have e0 := gw_eq hf (d := d) ht1 ht (show 0 < 6 by omega)
  have e1 := gw_eq hf (d := d) ht1 ht (show 1 < 6 by omega)
  have e2 := gw_eq hf (d := d) ht1 ht (show 2 < 6 by omega)
  have e3 := gw_eq hf (d := d) ht1 ht (show 3 < 6 by omega)
  have e4 := gw_eq hf (d := d) ht1 ht (show 4 < 6 by omega)
  have e5 := gw_eq hf (d := d) ht1 ht (show 5 < 6 by omega)
  unfold gtN
  rw [ng_6, ng_6, e0, e1, e2, e3, e4, e5]
  by_cases h : t ≤ dN f d
  · rw [if_pos h]
    rcases (show d = 0 ∨ d = 1 ∨ d = 2 ∨ d = 3 ∨ d = 4 ∨ d = 5 by omega) with rfl | rfl | rfl | rfl | rfl | rfl <;> simp [h] <;> omega
  · rw [if_neg h]
    simp [h]
theorem p_exp {f : Nat → Int32} (hf : ROk f) {d t n : Nat} (ht1 : 1 ≤ t) (ht : t ≤ 9) (hd : d < 6) (hn : n ≤ 99) : trC (reN f) (gtN f d t) n = trv (gw f d t) (reN f) n := by
  rw [p_tri (fun i hi => (gw_ok hf hi).2) hn, ng_gw hf ht1 ht hd]
theorem ng_dig {f : Nat → Int32} (hf : ROk f) : ngX (dN f) 6 0 < 1000000 := by
  have h := ngX_lt (g := dN f) 6 0 (fun k hk => (hf.1 k hk).2)
  omega
theorem gt_ge {f : Nat → Int32} {d t : Nat} (h1 : 1 ≤ t) (hd : d < 6) (h : t ≤ dN f d) : 10 ^ d ≤ ngX (dN f) 6 0 := by
  rw [ng_6]
  rcases (show d = 0 ∨ d = 1 ∨ d = 2 ∨ d = 3 ∨ d = 4 ∨ d = 5 by omega) with rfl | rfl | rfl | rfl | rfl | rfl <;> omega
theorem p_all {sg : Sg} (hf : ROk (rowC sg 1)) : Int64.toInt32 (vlY (sg 2) 6 0) = nI (ngX (dN (rowC sg 1)) 6 0) := by
  rw [p_dig, (nb_dig hf).1, ng_nb]
theorem gt_lt {f : Nat → Int32} (hf : ROk f) {d t : Nat} : gtN f d t < 2 ^ 31 := by
  have h := ng_dig hf
  unfold gtN
  split
  · exact Nat.lt_of_le_of_lt (Nat.sub_le _ _) (by omega)
  · omega
