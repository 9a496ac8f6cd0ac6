/-! plan's steps; turning down till the bell; division -/
theorem plan_not {how lf du : Nat} (h : how = 1 → lf % 10 + du ≤ 5) (h9 : lf % 10 + du ≤ 9) : pI how (lf + du) = nI (lf % 10 + du) ∧ aP how (lf + du) = lf % 10 + du ∧ nxP how (lf + du) = lf / 10 + 0 := by
  have e : (lf + du) % 10 = lf % 10 + du := by omega
  have hn : ¬ (how = 1 ∧ 5 < (lf + du) % 10) := fun q => by have := h q.1; omega
  unfold pI aP nxP
  rw [if_neg hn, if_neg hn, if_neg hn, e]
  exact ⟨rfl, rfl, by omega⟩
theorem plan_ov {lf du : Nat} (h : 5 < lf % 10 + du) (hd : du ≤ 1) : pI 1 (lf + du) = nI (lf % 10 + du) - nI 10 ∧ aP 1 (lf + du) = 10 - (lf % 10 + du) ∧ nxP 1 (lf + du) = lf / 10 + 1 := by
  unfold pI aP nxP
  by_cases h10 : lf % 10 + du = 10
  · have e : (lf + du) % 10 = 0 := by omega
    have hn : ¬ ((1 : Nat) = 1 ∧ 5 < (lf + du) % 10) := fun q => by omega
    rw [if_neg hn, if_neg hn, if_neg hn, e, h10]
    exact ⟨by decide, by omega, by omega⟩
  · have e : (lf + du) % 10 = lf % 10 + du := by omega
    have hy : (1 : Nat) = 1 ∧ 5 < (lf + du) % 10 := ⟨rfl, by omega⟩
    rw [if_pos hy, if_pos hy, if_pos hy, e]
    exact ⟨rfl, rfl, by omega⟩
theorem muR_no {how n k : Nat} {g : Nat → Nat} {f : Nat → Int32} (h : ¬ (how = 1 ∧ 5 < mkP how n k % 10)) : muR how n g (k + 1) f = itR true (nI 1) g (mkP how n k % 10) (upd (muR how n g k f) 31 (nI k)) := by
  show itR (!ovB how (mkP how n k)) (if how = 1 ∧ 5 < mkP how n k % 10 then (-1) else nI 1) g (aP how (mkP how n k)) _ = _
  unfold aP ovB
  rw [if_neg h, if_neg h, decide_eq_false h]
  rfl
theorem muR_ov {how n k : Nat} {g : Nat → Nat} {f : Nat → Int32} (h : how = 1 ∧ 5 < mkP how n k % 10) : muR how n g (k + 1) f = itR false (-1) g (10 - mkP how n k % 10) (upd (muR how n g k f) 31 (nI k)) := by
  show itR (!ovB how (mkP how n k)) (if how = 1 ∧ 5 < mkP how n k % 10 then (-1) else nI 1) g (aP how (mkP how n k)) _ = _
  unfold aP ovB
  rw [if_pos h, if_pos h, decide_eq_true h]
  rfl
theorem us_rot {sg : Sg} {a b c : Nat} {f g h : Nat → Int32} (h1 : a ≠ b) (h2 : a ≠ c) : us (us (us sg a f) b g) c h = us (us (us sg b g) c h) a f := by
  rw [us_comm (sg := sg) h1, us_comm h2]
/-- turned down till the bell, at most n times: the row then, whether it rang, how many turns -/
def dwn (g : Nat → Nat) : Nat → (Nat → Int32) → Nat → Int32
  | 0, f => f
  | n + 1, f => if blP false (wN f) g (sN f) (sN f + 5 + reN f) then tR false (nI 1) g f else dwn g n (tR false (nI 1) g f)
def dwB (g : Nat → Nat) : Nat → (Nat → Int32) → Bool
  | 0, _ => false
  | n + 1, f => if blP false (wN f) g (sN f) (sN f + 5 + reN f) then true else dwB g n (tR false (nI 1) g f)
def dwC (g : Nat → Nat) : Nat → (Nat → Int32) → Nat
  | 0, _ => 0
  | n + 1, f => if blP false (wN f) g (sN f) (sN f + 5 + reN f) then 1 else dwC g n (tR false (nI 1) g f) + 1
theorem dwn_t {g : Nat → Nat} {n : Nat} {f : Nat → Int32} (h : blP false (wN f) g (sN f) (sN f + 5 + reN f)) : dwn g (n + 1) f = tR false (nI 1) g f := if_pos h
theorem dwn_f {g : Nat → Nat} {n : Nat} {f : Nat → Int32} (h : ¬ blP false (wN f) g (sN f) (sN f + 5 + reN f)) : dwn g (n + 1) f = dwn g n (tR false (nI 1) g f) := if_neg h
theorem dwB_t {g : Nat → Nat} {n : Nat} {f : Nat → Int32} (h : blP false (wN f) g (sN f) (sN f + 5 + reN f)) : dwB g (n + 1) f = true := if_pos h
theorem dwB_f {g : Nat → Nat} {n : Nat} {f : Nat → Int32} (h : ¬ blP false (wN f) g (sN f) (sN f + 5 + reN f)) : dwB g (n + 1) f = dwB g n (tR false (nI 1) g f) := if_neg h
theorem dwn_ok {g : Nat → Nat} (hg : ∀ i, i < 6 → g i ≤ 9) : ∀ n f, ROk f → ROk (dwn g n f)
  | 0, _, h => h
  | n + 1, f, h => by
    by_cases hb : blP false (wN f) g (sN f) (sN f + 5 + reN f)
    · rw [dwn_t hb]; exact tR_ok h hg
    · rw [dwn_f hb]; exact dwn_ok hg n _ (tR_ok h hg)
theorem dwn_lo {g : Nat → Nat} {j : Nat} (hj : j < 12) : ∀ n f, dwn g n f j = f j
  | 0, _ => rfl
  | n + 1, f => by
    by_cases hb : blP false (wN f) g (sN f) (sN f + 5 + reN f)
    · rw [dwn_t hb, tR_lo hj]
    · rw [dwn_f hb, dwn_lo hj n, tR_lo hj]
theorem dwC_le {g : Nat → Nat} : ∀ n f, dwC g n f ≤ n
  | 0, _ => Nat.le_refl _
  | n + 1, f => by
    have h := dwC_le (g := g) n (tR false (nI 1) g f)
    unfold dwC
    split <;> omega
theorem dwn_34 {g : Nat → Nat} : ∀ n f, dwn g n f 34 = f 34 + nI (dwC g n f)
  | 0, f => by show f 34 = f 34 + nI 0; rw [nI_0, Int32.add_zero]
  | n + 1, f => by
    unfold dwn dwC
    split
    · rw [tR_34]
    · rw [dwn_34 n, tR_34, Int32.add_assoc, nI_add, Nat.add_comm]
def ccR (f : Nat → Int32) : Nat → Int32 := fw 24 (fun _ => nI 0) f 7
theorem ccR_out {f : Nat → Int32} {j : Nat} (hj : j < 24 ∨ 31 ≤ j) : ccR f j = f j := by unfold ccR; rw [fw_out (by omega)]
theorem ccR_ok {f : Nat → Int32} (hf : ROk f) : ROk (ccR f) := by
  refine ROk.mk (d := dN f) (o := oN f) (wh := wN f) (s := sN f) (re := reN f) (fun k hk => ?_) (fun k hk => ?_) (fun k hk => ?_) ?_ ?_
  · rw [ccR_out (by omega)]; exact hf.1 k hk
  · rw [ccR_out (by omega)]; exact hf.2.1 k hk
  · rw [ccR_out (by omega)]; exact hf.2.2.1 k hk
  · rw [ccR_out (by omega)]; exact hf.2.2.2.1
  · rw [ccR_out (by omega)]; exact hf.2.2.2.2
/-- the shifts of a division from s - 1 down -/
def dvF (g : Nat → Nat) : Nat → (Nat → Int32) → Nat → Int32
  | 0, f => f
  | s + 1, f => if dwB g 20 (upd f 31 (nI s)) = true then dvF g s (tR true (-1) g (dwn g 20 (upd f 31 (nI s)))) else dwn g 20 (upd f 31 (nI s))
def dvB (g : Nat → Nat) : Nat → (Nat → Int32) → Bool
  | 0, _ => true
  | s + 1, f => if dwB g 20 (upd f 31 (nI s)) = true then dvB g s (tR true (-1) g (dwn g 20 (upd f 31 (nI s)))) else false
def dvC (g : Nat → Nat) : Nat → (Nat → Int32) → Nat
  | 0, _ => 0
  | s + 1, f => dwC g 20 (upd f 31 (nI s)) + 1 + dvC g s (tR true (-1) g (dwn g 20 (upd f 31 (nI s))))
theorem dvF_t {g : Nat → Nat} {s : Nat} {f : Nat → Int32} (h : dwB g 20 (upd f 31 (nI s)) = true) : dvF g (s + 1) f = dvF g s (tR true (-1) g (dwn g 20 (upd f 31 (nI s)))) := if_pos h
theorem dvF_f {g : Nat → Nat} {s : Nat} {f : Nat → Int32} (h : ¬ dwB g 20 (upd f 31 (nI s)) = true) : dvF g (s + 1) f = dwn g 20 (upd f 31 (nI s)) := if_neg h
theorem dvB_t {g : Nat → Nat} {s : Nat} {f : Nat → Int32} (h : dwB g 20 (upd f 31 (nI s)) = true) : dvB g (s + 1) f = dvB g s (tR true (-1) g (dwn g 20 (upd f 31 (nI s)))) := if_pos h
theorem dvB_f {g : Nat → Nat} {s : Nat} {f : Nat → Int32} (h : ¬ dwB g 20 (upd f 31 (nI s)) = true) : dvB g (s + 1) f = false := if_neg h
theorem dv_step_ok {g : Nat → Nat} {s : Nat} {f : Nat → Int32} (hf : ROk f) (hg : ∀ i, i < 6 → g i ≤ 9) (hs : s ≤ 6) : ROk (tR true (-1) g (dwn g 20 (upd f 31 (nI s)))) := tR_ok (dwn_ok hg 20 _ (sh_ok hf hs)) hg
theorem dvF_ok {g : Nat → Nat} (hg : ∀ i, i < 6 → g i ≤ 9) : ∀ s f, s ≤ 7 → ROk f → ROk (dvF g s f)
  | 0, _, _, h => h
  | s + 1, f, hs, h => by
    by_cases hb : dwB g 20 (upd f 31 (nI s)) = true
    · rw [dvF_t hb]; exact dvF_ok hg s _ (by omega) (dv_step_ok h hg (by omega))
    · rw [dvF_f hb]; exact dwn_ok hg 20 _ (sh_ok h (by omega))
theorem dvC_le {g : Nat → Nat} : ∀ s f, dvC g s f ≤ 21 * s
  | 0, _ => Nat.le_refl _
  | s + 1, f => by
    have h1 := dwC_le (g := g) 20 (upd f 31 (nI s))
    have h2 := dvC_le (g := g) s (tR true (-1) g (dwn g 20 (upd f 31 (nI s))))
    show dwC g 20 (upd f 31 (nI s)) + 1 + dvC g s _ ≤ _
    omega
theorem dvF_34 {g : Nat → Nat} : ∀ s f, dvB g s f = true → dvF g s f 34 = f 34 + nI (dvC g s f)
  | 0, f, _ => by show f 34 = f 34 + nI 0; rw [nI_0, Int32.add_zero]
  | s + 1, f, h => by
    by_cases hb : dwB g 20 (upd f 31 (nI s)) = true
    · rw [dvB_t hb] at h
      rw [dvF_t hb, dvF_34 s _ h, tR_34, dwn_34, upd_ne (by omega)]
      show f 34 + nI (dwC g 20 (upd f 31 (nI s))) + nI 1 + nI _ = f 34 + nI (dwC g 20 (upd f 31 (nI s)) + 1 + _)
      rw [Int32.add_assoc, Int32.add_assoc, nI_add, nI_add, Nat.add_assoc]
    · rw [dvB_f hb] at h; cases h
def gsm (g : Nat → Nat) : Nat → Nat
  | 0 => 0
  | n + 1 => gsm g n + g n
theorem gsm_le {g : Nat → Nat} (hg : ∀ i, i < 6 → g i ≤ 9) : ∀ n, n ≤ 6 → gsm g n ≤ 9 * n
  | 0, _ => Nat.le_refl _
  | n + 1, h => by
    have h1 := gsm_le hg n (by omega)
    have h2 := hg n (by omega)
    show gsm g n + g n ≤ _
    omega
