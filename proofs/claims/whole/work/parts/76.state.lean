/-! the heap behind both constructors, and what it stands for -/
def sg0 : Sg := fun k => if k = 1 ∨ k = 6 ∨ k = 13 ∨ k = 18 ∨ k = 23 ∨ k = 28 ∨ k = 33 then (fun j => if j = 5 then 12 else 0) else if k = 45 then upd (fun _ => 0) 32 12 else fun _ => 0
def f00 : Nat → Int32 := upd (fun _ => 0) 32 12
def a00 : AS := (f00, fun _ _ => 0, 0, fun _ => 0, fun _ => 0, 0)
def w00 (l : Launch) (D : va_G) (cI cB cO : ClassId) (t u : Nat → Nat) (A : Nat → Prop) : GW := (l, D.1, D.2, fun k => if k < 44 then t k else u (k - 44), fun k => if k = 0 then cI else if k = 1 then cB else cO, A)
theorem f00_32 : f00 32 = 12 := rfl
theorem f00_0 {j : Nat} (h : j ≠ 32) : f00 j = 0 := upd_ne h
theorem row00 : rowC sg0 1 = f00 := by
  funext j
  unfold rowC
  by_cases h6 : j < 6
  · rw [if_pos h6, f00_0 (by omega)]; rfl
  · rw [if_neg h6]
    by_cases h12 : j < 12
    · rw [if_pos h12, f00_0 (by omega)]; rfl
    · rw [if_neg h12]
      by_cases h24 : j < 24
      · rw [if_pos h24, f00_0 (by omega)]; rfl
      · rw [if_neg h24]
        by_cases h31 : j < 31
        · rw [if_pos h31, f00_0 (by omega)]; rfl
        · rw [if_neg h31]
          show (if j - 27 = 5 then (12 : Int32) else 0) = _
          by_cases h32 : j = 32
          · subst h32; rfl
          · rw [if_neg (by omega), f00_0 h32]
theorem CA00 : CA sg0 a00 := ⟨row00, ⟨0, by decide, rfl, fun i hi => absurd hi (Nat.not_lt_zero i)⟩, rfl, fun i hi => rfl, rfl, fun j hj => absurd hj (Nat.not_lt_zero j)⟩
theorem RA00 : RA sg0 a00 := ⟨rfl, rfl, fun i hi => absurd hi (Nat.not_lt_zero i), fun i hi => rfl, rfl, fun j hj => absurd hj (Nat.not_lt_zero j)⟩
theorem OA00 : OA a00 (10000 * 0) := by
  refine ⟨?_, ?_, Nat.zero_le _, fun i hi => absurd hi (Nat.not_lt_zero i), Nat.zero_le _, fun j hj => absurd hj (Nat.not_lt_zero j)⟩
  · show ROk f00
    refine ROk.mk (d := fun _ => 0) (o := fun _ => 0) (wh := fun _ => 0) (s := 0) (re := 12) (fun k hk => ?_) (fun k hk => ?_) (fun k hk => ?_) ?_ ?_
    · rw [f00_0 (by omega)]; exact ⟨rfl, by omega⟩
    · rw [f00_0 (by omega)]; exact ⟨rfl, by omega, rfl⟩
    · rw [f00_0 (by omega)]; exact ⟨rfl, by omega⟩
    · rw [f00_0 (by omega)]; exact ⟨rfl, by omega⟩
    · exact ⟨rfl, by omega⟩
  · show XOk f00 0
    exact ⟨fun k hk => ⟨0, by omega, f00_0 (by omega)⟩, ⟨0, by omega, f00_0 (by omega)⟩, 0, by omega, f00_0 (by omega)⟩
theorem ad00 {w : GW} {sg : Sg} {tu : Int64} (h : va_D (gA w) (wl w sg tu)) : AdOk w := by
  have hg : ∀ i, i < 55 → ∃ sh, shapes[i]? = some sh := fun i hi => ⟨shapes[i]'hi, List.getElem?_eq_getElem hi⟩
  refine ⟨fun i j hi hj e => ?_, fun i hi => ?_⟩
  · obtain ⟨s1, h1⟩ := hg i hi
    obtain ⟨s2, h2⟩ := hg j hj
    exact h.1 i j _ _ (wl_get h1) (wl_get h2) e
  · obtain ⟨s1, h1⟩ := hg i hi
    exact h.2 i _ (wl_get h1)
set_option maxRecDepth 100000 in
theorem wl_0 (l : Launch) (D : va_G) (cI cB cO : ClassId) (t u : Nat → Nat) (A : Nat → Prop) : ((dcL cI cB cO t ++ mdL cI u).set 12 (t 12, .inl (cO, 5, .inr (.inr (.inr (.inr (fun j => some (ad (w00 l D cI cB cO t u A) (13 + 5 * j)))))))))[0]? = some (ad (w00 l D cI cB cO t u A) 0, ce (w00 l D cI cB cO t u A) sg0 0 0 (.inr (4, [(1, 1), (1, 6), (1, 11), (1, 38), (1, 40), (0, 0), (0, 0), (0, 0)]))) := by
  rfl
set_option maxRecDepth 100000 in
theorem wl_1 (l : Launch) (D : va_G) (cI cB cO : ClassId) (t u : Nat → Nat) (A : Nat → Prop) : ((dcL cI cB cO t ++ mdL cI u).set 12 (t 12, .inl (cO, 5, .inr (.inr (.inr (.inr (fun j => some (ad (w00 l D cI cB cO t u A) (13 + 5 * j)))))))))[1]? = some (ad (w00 l D cI cB cO t u A) 1, ce (w00 l D cI cB cO t u A) sg0 0 1 (.inr (3, [(1, 2), (1, 3), (1, 4), (1, 5), (0, 0), (0, 0), (0, 0), (0, 0)]))) := by
  rfl
set_option maxRecDepth 100000 in
theorem wl_2 (l : Launch) (D : va_G) (cI cB cO : ClassId) (t u : Nat → Nat) (A : Nat → Prop) : ((dcL cI cB cO t ++ mdL cI u).set 12 (t 12, .inl (cO, 5, .inr (.inr (.inr (.inr (fun j => some (ad (w00 l D cI cB cO t u A) (13 + 5 * j)))))))))[2]? = some (ad (w00 l D cI cB cO t u A) 2, ce (w00 l D cI cB cO t u A) sg0 0 2 (.inl (0, 6))) := by
  rfl
set_option maxRecDepth 100000 in
theorem wl_3 (l : Launch) (D : va_G) (cI cB cO : ClassId) (t u : Nat → Nat) (A : Nat → Prop) : ((dcL cI cB cO t ++ mdL cI u).set 12 (t 12, .inl (cO, 5, .inr (.inr (.inr (.inr (fun j => some (ad (w00 l D cI cB cO t u A) (13 + 5 * j)))))))))[3]? = some (ad (w00 l D cI cB cO t u A) 3, ce (w00 l D cI cB cO t u A) sg0 0 3 (.inl (0, 6))) := by
  rfl
set_option maxRecDepth 100000 in
theorem wl_4 (l : Launch) (D : va_G) (cI cB cO : ClassId) (t u : Nat → Nat) (A : Nat → Prop) : ((dcL cI cB cO t ++ mdL cI u).set 12 (t 12, .inl (cO, 5, .inr (.inr (.inr (.inr (fun j => some (ad (w00 l D cI cB cO t u A) (13 + 5 * j)))))))))[4]? = some (ad (w00 l D cI cB cO t u A) 4, ce (w00 l D cI cB cO t u A) sg0 0 4 (.inl (0, 12))) := by
  rfl
set_option maxRecDepth 100000 in
theorem wl_5 (l : Launch) (D : va_G) (cI cB cO : ClassId) (t u : Nat → Nat) (A : Nat → Prop) : ((dcL cI cB cO t ++ mdL cI u).set 12 (t 12, .inl (cO, 5, .inr (.inr (.inr (.inr (fun j => some (ad (w00 l D cI cB cO t u A) (13 + 5 * j)))))))))[5]? = some (ad (w00 l D cI cB cO t u A) 5, ce (w00 l D cI cB cO t u A) sg0 0 5 (.inl (0, 7))) := by
  rfl
set_option maxRecDepth 100000 in
theorem wl_6 (l : Launch) (D : va_G) (cI cB cO : ClassId) (t u : Nat → Nat) (A : Nat → Prop) : ((dcL cI cB cO t ++ mdL cI u).set 12 (t 12, .inl (cO, 5, .inr (.inr (.inr (.inr (fun j => some (ad (w00 l D cI cB cO t u A) (13 + 5 * j)))))))))[6]? = some (ad (w00 l D cI cB cO t u A) 6, ce (w00 l D cI cB cO t u A) sg0 0 6 (.inr (3, [(1, 7), (1, 8), (1, 9), (1, 10), (0, 0), (0, 0), (0, 0), (0, 0)]))) := by
  rfl
set_option maxRecDepth 100000 in
theorem wl_7 (l : Launch) (D : va_G) (cI cB cO : ClassId) (t u : Nat → Nat) (A : Nat → Prop) : ((dcL cI cB cO t ++ mdL cI u).set 12 (t 12, .inl (cO, 5, .inr (.inr (.inr (.inr (fun j => some (ad (w00 l D cI cB cO t u A) (13 + 5 * j)))))))))[7]? = some (ad (w00 l D cI cB cO t u A) 7, ce (w00 l D cI cB cO t u A) sg0 0 7 (.inl (0, 6))) := by
  rfl
set_option maxRecDepth 100000 in
theorem wl_8 (l : Launch) (D : va_G) (cI cB cO : ClassId) (t u : Nat → Nat) (A : Nat → Prop) : ((dcL cI cB cO t ++ mdL cI u).set 12 (t 12, .inl (cO, 5, .inr (.inr (.inr (.inr (fun j => some (ad (w00 l D cI cB cO t u A) (13 + 5 * j)))))))))[8]? = some (ad (w00 l D cI cB cO t u A) 8, ce (w00 l D cI cB cO t u A) sg0 0 8 (.inl (0, 6))) := by
  rfl
set_option maxRecDepth 100000 in
theorem wl_9 (l : Launch) (D : va_G) (cI cB cO : ClassId) (t u : Nat → Nat) (A : Nat → Prop) : ((dcL cI cB cO t ++ mdL cI u).set 12 (t 12, .inl (cO, 5, .inr (.inr (.inr (.inr (fun j => some (ad (w00 l D cI cB cO t u A) (13 + 5 * j)))))))))[9]? = some (ad (w00 l D cI cB cO t u A) 9, ce (w00 l D cI cB cO t u A) sg0 0 9 (.inl (0, 12))) := by
  rfl
set_option maxRecDepth 100000 in
theorem wl_10 (l : Launch) (D : va_G) (cI cB cO : ClassId) (t u : Nat → Nat) (A : Nat → Prop) : ((dcL cI cB cO t ++ mdL cI u).set 12 (t 12, .inl (cO, 5, .inr (.inr (.inr (.inr (fun j => some (ad (w00 l D cI cB cO t u A) (13 + 5 * j)))))))))[10]? = some (ad (w00 l D cI cB cO t u A) 10, ce (w00 l D cI cB cO t u A) sg0 0 10 (.inl (0, 7))) := by
  rfl
set_option maxRecDepth 100000 in
theorem wl_11 (l : Launch) (D : va_G) (cI cB cO : ClassId) (t u : Nat → Nat) (A : Nat → Prop) : ((dcL cI cB cO t ++ mdL cI u).set 12 (t 12, .inl (cO, 5, .inr (.inr (.inr (.inr (fun j => some (ad (w00 l D cI cB cO t u A) (13 + 5 * j)))))))))[11]? = some (ad (w00 l D cI cB cO t u A) 11, ce (w00 l D cI cB cO t u A) sg0 0 11 (.inr (1, [(1, 12), (0, 0), (0, 0)]))) := by
  rfl
set_option maxRecDepth 100000 in
theorem wl_12 (l : Launch) (D : va_G) (cI cB cO : ClassId) (t u : Nat → Nat) (A : Nat → Prop) : ((dcL cI cB cO t ++ mdL cI u).set 12 (t 12, .inl (cO, 5, .inr (.inr (.inr (.inr (fun j => some (ad (w00 l D cI cB cO t u A) (13 + 5 * j)))))))))[12]? = some (ad (w00 l D cI cB cO t u A) 12, ce (w00 l D cI cB cO t u A) sg0 0 12 (.inl (2, 5))) := by
  rfl
set_option maxRecDepth 100000 in
theorem wl_13 (l : Launch) (D : va_G) (cI cB cO : ClassId) (t u : Nat → Nat) (A : Nat → Prop) : ((dcL cI cB cO t ++ mdL cI u).set 12 (t 12, .inl (cO, 5, .inr (.inr (.inr (.inr (fun j => some (ad (w00 l D cI cB cO t u A) (13 + 5 * j)))))))))[13]? = some (ad (w00 l D cI cB cO t u A) 13, ce (w00 l D cI cB cO t u A) sg0 0 13 (.inr (3, [(1, 14), (1, 15), (1, 16), (1, 17), (0, 0), (0, 0), (0, 0), (0, 0)]))) := by
  rfl
set_option maxRecDepth 100000 in
theorem wl_14 (l : Launch) (D : va_G) (cI cB cO : ClassId) (t u : Nat → Nat) (A : Nat → Prop) : ((dcL cI cB cO t ++ mdL cI u).set 12 (t 12, .inl (cO, 5, .inr (.inr (.inr (.inr (fun j => some (ad (w00 l D cI cB cO t u A) (13 + 5 * j)))))))))[14]? = some (ad (w00 l D cI cB cO t u A) 14, ce (w00 l D cI cB cO t u A) sg0 0 14 (.inl (0, 6))) := by
  rfl
set_option maxRecDepth 100000 in
theorem wl_15 (l : Launch) (D : va_G) (cI cB cO : ClassId) (t u : Nat → Nat) (A : Nat → Prop) : ((dcL cI cB cO t ++ mdL cI u).set 12 (t 12, .inl (cO, 5, .inr (.inr (.inr (.inr (fun j => some (ad (w00 l D cI cB cO t u A) (13 + 5 * j)))))))))[15]? = some (ad (w00 l D cI cB cO t u A) 15, ce (w00 l D cI cB cO t u A) sg0 0 15 (.inl (0, 6))) := by
  rfl
set_option maxRecDepth 100000 in
theorem wl_16 (l : Launch) (D : va_G) (cI cB cO : ClassId) (t u : Nat → Nat) (A : Nat → Prop) : ((dcL cI cB cO t ++ mdL cI u).set 12 (t 12, .inl (cO, 5, .inr (.inr (.inr (.inr (fun j => some (ad (w00 l D cI cB cO t u A) (13 + 5 * j)))))))))[16]? = some (ad (w00 l D cI cB cO t u A) 16, ce (w00 l D cI cB cO t u A) sg0 0 16 (.inl (0, 12))) := by
  rfl
set_option maxRecDepth 100000 in
theorem wl_17 (l : Launch) (D : va_G) (cI cB cO : ClassId) (t u : Nat → Nat) (A : Nat → Prop) : ((dcL cI cB cO t ++ mdL cI u).set 12 (t 12, .inl (cO, 5, .inr (.inr (.inr (.inr (fun j => some (ad (w00 l D cI cB cO t u A) (13 + 5 * j)))))))))[17]? = some (ad (w00 l D cI cB cO t u A) 17, ce (w00 l D cI cB cO t u A) sg0 0 17 (.inl (0, 7))) := by
  rfl
set_option maxRecDepth 100000 in
theorem wl_18 (l : Launch) (D : va_G) (cI cB cO : ClassId) (t u : Nat → Nat) (A : Nat → Prop) : ((dcL cI cB cO t ++ mdL cI u).set 12 (t 12, .inl (cO, 5, .inr (.inr (.inr (.inr (fun j => some (ad (w00 l D cI cB cO t u A) (13 + 5 * j)))))))))[18]? = some (ad (w00 l D cI cB cO t u A) 18, ce (w00 l D cI cB cO t u A) sg0 0 18 (.inr (3, [(1, 19), (1, 20), (1, 21), (1, 22), (0, 0), (0, 0), (0, 0), (0, 0)]))) := by
  rfl
set_option maxRecDepth 100000 in
theorem wl_19 (l : Launch) (D : va_G) (cI cB cO : ClassId) (t u : Nat → Nat) (A : Nat → Prop) : ((dcL cI cB cO t ++ mdL cI u).set 12 (t 12, .inl (cO, 5, .inr (.inr (.inr (.inr (fun j => some (ad (w00 l D cI cB cO t u A) (13 + 5 * j)))))))))[19]? = some (ad (w00 l D cI cB cO t u A) 19, ce (w00 l D cI cB cO t u A) sg0 0 19 (.inl (0, 6))) := by
  rfl
set_option maxRecDepth 100000 in
theorem wl_20 (l : Launch) (D : va_G) (cI cB cO : ClassId) (t u : Nat → Nat) (A : Nat → Prop) : ((dcL cI cB cO t ++ mdL cI u).set 12 (t 12, .inl (cO, 5, .inr (.inr (.inr (.inr (fun j => some (ad (w00 l D cI cB cO t u A) (13 + 5 * j)))))))))[20]? = some (ad (w00 l D cI cB cO t u A) 20, ce (w00 l D cI cB cO t u A) sg0 0 20 (.inl (0, 6))) := by
  rfl
set_option maxRecDepth 100000 in
theorem wl_21 (l : Launch) (D : va_G) (cI cB cO : ClassId) (t u : Nat → Nat) (A : Nat → Prop) : ((dcL cI cB cO t ++ mdL cI u).set 12 (t 12, .inl (cO, 5, .inr (.inr (.inr (.inr (fun j => some (ad (w00 l D cI cB cO t u A) (13 + 5 * j)))))))))[21]? = some (ad (w00 l D cI cB cO t u A) 21, ce (w00 l D cI cB cO t u A) sg0 0 21 (.inl (0, 12))) := by
  rfl
set_option maxRecDepth 100000 in
theorem wl_22 (l : Launch) (D : va_G) (cI cB cO : ClassId) (t u : Nat → Nat) (A : Nat → Prop) : ((dcL cI cB cO t ++ mdL cI u).set 12 (t 12, .inl (cO, 5, .inr (.inr (.inr (.inr (fun j => some (ad (w00 l D cI cB cO t u A) (13 + 5 * j)))))))))[22]? = some (ad (w00 l D cI cB cO t u A) 22, ce (w00 l D cI cB cO t u A) sg0 0 22 (.inl (0, 7))) := by
  rfl
set_option maxRecDepth 100000 in
theorem wl_23 (l : Launch) (D : va_G) (cI cB cO : ClassId) (t u : Nat → Nat) (A : Nat → Prop) : ((dcL cI cB cO t ++ mdL cI u).set 12 (t 12, .inl (cO, 5, .inr (.inr (.inr (.inr (fun j => some (ad (w00 l D cI cB cO t u A) (13 + 5 * j)))))))))[23]? = some (ad (w00 l D cI cB cO t u A) 23, ce (w00 l D cI cB cO t u A) sg0 0 23 (.inr (3, [(1, 24), (1, 25), (1, 26), (1, 27), (0, 0), (0, 0), (0, 0), (0, 0)]))) := by
  rfl
set_option maxRecDepth 100000 in
theorem wl_24 (l : Launch) (D : va_G) (cI cB cO : ClassId) (t u : Nat → Nat) (A : Nat → Prop) : ((dcL cI cB cO t ++ mdL cI u).set 12 (t 12, .inl (cO, 5, .inr (.inr (.inr (.inr (fun j => some (ad (w00 l D cI cB cO t u A) (13 + 5 * j)))))))))[24]? = some (ad (w00 l D cI cB cO t u A) 24, ce (w00 l D cI cB cO t u A) sg0 0 24 (.inl (0, 6))) := by
  rfl
set_option maxRecDepth 100000 in
theorem wl_25 (l : Launch) (D : va_G) (cI cB cO : ClassId) (t u : Nat → Nat) (A : Nat → Prop) : ((dcL cI cB cO t ++ mdL cI u).set 12 (t 12, .inl (cO, 5, .inr (.inr (.inr (.inr (fun j => some (ad (w00 l D cI cB cO t u A) (13 + 5 * j)))))))))[25]? = some (ad (w00 l D cI cB cO t u A) 25, ce (w00 l D cI cB cO t u A) sg0 0 25 (.inl (0, 6))) := by
  rfl
set_option maxRecDepth 100000 in
theorem wl_26 (l : Launch) (D : va_G) (cI cB cO : ClassId) (t u : Nat → Nat) (A : Nat → Prop) : ((dcL cI cB cO t ++ mdL cI u).set 12 (t 12, .inl (cO, 5, .inr (.inr (.inr (.inr (fun j => some (ad (w00 l D cI cB cO t u A) (13 + 5 * j)))))))))[26]? = some (ad (w00 l D cI cB cO t u A) 26, ce (w00 l D cI cB cO t u A) sg0 0 26 (.inl (0, 12))) := by
  rfl
set_option maxRecDepth 100000 in
theorem wl_27 (l : Launch) (D : va_G) (cI cB cO : ClassId) (t u : Nat → Nat) (A : Nat → Prop) : ((dcL cI cB cO t ++ mdL cI u).set 12 (t 12, .inl (cO, 5, .inr (.inr (.inr (.inr (fun j => some (ad (w00 l D cI cB cO t u A) (13 + 5 * j)))))))))[27]? = some (ad (w00 l D cI cB cO t u A) 27, ce (w00 l D cI cB cO t u A) sg0 0 27 (.inl (0, 7))) := by
  rfl
set_option maxRecDepth 100000 in
theorem wl_28 (l : Launch) (D : va_G) (cI cB cO : ClassId) (t u : Nat → Nat) (A : Nat → Prop) : ((dcL cI cB cO t ++ mdL cI u).set 12 (t 12, .inl (cO, 5, .inr (.inr (.inr (.inr (fun j => some (ad (w00 l D cI cB cO t u A) (13 + 5 * j)))))))))[28]? = some (ad (w00 l D cI cB cO t u A) 28, ce (w00 l D cI cB cO t u A) sg0 0 28 (.inr (3, [(1, 29), (1, 30), (1, 31), (1, 32), (0, 0), (0, 0), (0, 0), (0, 0)]))) := by
  rfl
set_option maxRecDepth 100000 in
theorem wl_29 (l : Launch) (D : va_G) (cI cB cO : ClassId) (t u : Nat → Nat) (A : Nat → Prop) : ((dcL cI cB cO t ++ mdL cI u).set 12 (t 12, .inl (cO, 5, .inr (.inr (.inr (.inr (fun j => some (ad (w00 l D cI cB cO t u A) (13 + 5 * j)))))))))[29]? = some (ad (w00 l D cI cB cO t u A) 29, ce (w00 l D cI cB cO t u A) sg0 0 29 (.inl (0, 6))) := by
  rfl
set_option maxRecDepth 100000 in
theorem wl_30 (l : Launch) (D : va_G) (cI cB cO : ClassId) (t u : Nat → Nat) (A : Nat → Prop) : ((dcL cI cB cO t ++ mdL cI u).set 12 (t 12, .inl (cO, 5, .inr (.inr (.inr (.inr (fun j => some (ad (w00 l D cI cB cO t u A) (13 + 5 * j)))))))))[30]? = some (ad (w00 l D cI cB cO t u A) 30, ce (w00 l D cI cB cO t u A) sg0 0 30 (.inl (0, 6))) := by
  rfl
set_option maxRecDepth 100000 in
theorem wl_31 (l : Launch) (D : va_G) (cI cB cO : ClassId) (t u : Nat → Nat) (A : Nat → Prop) : ((dcL cI cB cO t ++ mdL cI u).set 12 (t 12, .inl (cO, 5, .inr (.inr (.inr (.inr (fun j => some (ad (w00 l D cI cB cO t u A) (13 + 5 * j)))))))))[31]? = some (ad (w00 l D cI cB cO t u A) 31, ce (w00 l D cI cB cO t u A) sg0 0 31 (.inl (0, 12))) := by
  rfl
set_option maxRecDepth 100000 in
theorem wl_32 (l : Launch) (D : va_G) (cI cB cO : ClassId) (t u : Nat → Nat) (A : Nat → Prop) : ((dcL cI cB cO t ++ mdL cI u).set 12 (t 12, .inl (cO, 5, .inr (.inr (.inr (.inr (fun j => some (ad (w00 l D cI cB cO t u A) (13 + 5 * j)))))))))[32]? = some (ad (w00 l D cI cB cO t u A) 32, ce (w00 l D cI cB cO t u A) sg0 0 32 (.inl (0, 7))) := by
  rfl
set_option maxRecDepth 100000 in
theorem wl_33 (l : Launch) (D : va_G) (cI cB cO : ClassId) (t u : Nat → Nat) (A : Nat → Prop) : ((dcL cI cB cO t ++ mdL cI u).set 12 (t 12, .inl (cO, 5, .inr (.inr (.inr (.inr (fun j => some (ad (w00 l D cI cB cO t u A) (13 + 5 * j)))))))))[33]? = some (ad (w00 l D cI cB cO t u A) 33, ce (w00 l D cI cB cO t u A) sg0 0 33 (.inr (3, [(1, 34), (1, 35), (1, 36), (1, 37), (0, 0), (0, 0), (0, 0), (0, 0)]))) := by
  rfl
set_option maxRecDepth 100000 in
theorem wl_34 (l : Launch) (D : va_G) (cI cB cO : ClassId) (t u : Nat → Nat) (A : Nat → Prop) : ((dcL cI cB cO t ++ mdL cI u).set 12 (t 12, .inl (cO, 5, .inr (.inr (.inr (.inr (fun j => some (ad (w00 l D cI cB cO t u A) (13 + 5 * j)))))))))[34]? = some (ad (w00 l D cI cB cO t u A) 34, ce (w00 l D cI cB cO t u A) sg0 0 34 (.inl (0, 6))) := by
  rfl
set_option maxRecDepth 100000 in
theorem wl_35 (l : Launch) (D : va_G) (cI cB cO : ClassId) (t u : Nat → Nat) (A : Nat → Prop) : ((dcL cI cB cO t ++ mdL cI u).set 12 (t 12, .inl (cO, 5, .inr (.inr (.inr (.inr (fun j => some (ad (w00 l D cI cB cO t u A) (13 + 5 * j)))))))))[35]? = some (ad (w00 l D cI cB cO t u A) 35, ce (w00 l D cI cB cO t u A) sg0 0 35 (.inl (0, 6))) := by
  rfl
set_option maxRecDepth 100000 in
theorem wl_36 (l : Launch) (D : va_G) (cI cB cO : ClassId) (t u : Nat → Nat) (A : Nat → Prop) : ((dcL cI cB cO t ++ mdL cI u).set 12 (t 12, .inl (cO, 5, .inr (.inr (.inr (.inr (fun j => some (ad (w00 l D cI cB cO t u A) (13 + 5 * j)))))))))[36]? = some (ad (w00 l D cI cB cO t u A) 36, ce (w00 l D cI cB cO t u A) sg0 0 36 (.inl (0, 12))) := by
  rfl
set_option maxRecDepth 100000 in
theorem wl_37 (l : Launch) (D : va_G) (cI cB cO : ClassId) (t u : Nat → Nat) (A : Nat → Prop) : ((dcL cI cB cO t ++ mdL cI u).set 12 (t 12, .inl (cO, 5, .inr (.inr (.inr (.inr (fun j => some (ad (w00 l D cI cB cO t u A) (13 + 5 * j)))))))))[37]? = some (ad (w00 l D cI cB cO t u A) 37, ce (w00 l D cI cB cO t u A) sg0 0 37 (.inl (0, 7))) := by
  rfl
set_option maxRecDepth 100000 in
theorem wl_38 (l : Launch) (D : va_G) (cI cB cO : ClassId) (t u : Nat → Nat) (A : Nat → Prop) : ((dcL cI cB cO t ++ mdL cI u).set 12 (t 12, .inl (cO, 5, .inr (.inr (.inr (.inr (fun j => some (ad (w00 l D cI cB cO t u A) (13 + 5 * j)))))))))[38]? = some (ad (w00 l D cI cB cO t u A) 38, ce (w00 l D cI cB cO t u A) sg0 0 38 (.inr (2, [(1, 39), (0, 0)]))) := by
  rfl
set_option maxRecDepth 100000 in
theorem wl_39 (l : Launch) (D : va_G) (cI cB cO : ClassId) (t u : Nat → Nat) (A : Nat → Prop) : ((dcL cI cB cO t ++ mdL cI u).set 12 (t 12, .inl (cO, 5, .inr (.inr (.inr (.inr (fun j => some (ad (w00 l D cI cB cO t u A) (13 + 5 * j)))))))))[39]? = some (ad (w00 l D cI cB cO t u A) 39, ce (w00 l D cI cB cO t u A) sg0 0 39 (.inl (1, 120))) := by
  rfl
set_option maxRecDepth 100000 in
theorem wl_40 (l : Launch) (D : va_G) (cI cB cO : ClassId) (t u : Nat → Nat) (A : Nat → Prop) : ((dcL cI cB cO t ++ mdL cI u).set 12 (t 12, .inl (cO, 5, .inr (.inr (.inr (.inr (fun j => some (ad (w00 l D cI cB cO t u A) (13 + 5 * j)))))))))[40]? = some (ad (w00 l D cI cB cO t u A) 40, ce (w00 l D cI cB cO t u A) sg0 0 40 (.inr (0, [(1, 41), (1, 42), (1, 43), (0, 0), (0, 0), (0, 0)]))) := by
  rfl
set_option maxRecDepth 100000 in
theorem wl_41 (l : Launch) (D : va_G) (cI cB cO : ClassId) (t u : Nat → Nat) (A : Nat → Prop) : ((dcL cI cB cO t ++ mdL cI u).set 12 (t 12, .inl (cO, 5, .inr (.inr (.inr (.inr (fun j => some (ad (w00 l D cI cB cO t u A) (13 + 5 * j)))))))))[41]? = some (ad (w00 l D cI cB cO t u A) 41, ce (w00 l D cI cB cO t u A) sg0 0 41 (.inl (0, 60))) := by
  rfl
set_option maxRecDepth 100000 in
theorem wl_42 (l : Launch) (D : va_G) (cI cB cO : ClassId) (t u : Nat → Nat) (A : Nat → Prop) : ((dcL cI cB cO t ++ mdL cI u).set 12 (t 12, .inl (cO, 5, .inr (.inr (.inr (.inr (fun j => some (ad (w00 l D cI cB cO t u A) (13 + 5 * j)))))))))[42]? = some (ad (w00 l D cI cB cO t u A) 42, ce (w00 l D cI cB cO t u A) sg0 0 42 (.inl (0, 60))) := by
  rfl
set_option maxRecDepth 100000 in
theorem wl_43 (l : Launch) (D : va_G) (cI cB cO : ClassId) (t u : Nat → Nat) (A : Nat → Prop) : ((dcL cI cB cO t ++ mdL cI u).set 12 (t 12, .inl (cO, 5, .inr (.inr (.inr (.inr (fun j => some (ad (w00 l D cI cB cO t u A) (13 + 5 * j)))))))))[43]? = some (ad (w00 l D cI cB cO t u A) 43, ce (w00 l D cI cB cO t u A) sg0 0 43 (.inl (0, 60))) := by
  rfl
set_option maxRecDepth 100000 in
theorem wl_44 (l : Launch) (D : va_G) (cI cB cO : ClassId) (t u : Nat → Nat) (A : Nat → Prop) : ((dcL cI cB cO t ++ mdL cI u).set 12 (t 12, .inl (cO, 5, .inr (.inr (.inr (.inr (fun j => some (ad (w00 l D cI cB cO t u A) (13 + 5 * j)))))))))[44]? = some (ad (w00 l D cI cB cO t u A) 44, ce (w00 l D cI cB cO t u A) sg0 0 44 (.inr (5, [(1, 45), (1, 46), (1, 47), (0, 0), (1, 48), (1, 49), (0, 0), (1, 50), (1, 51), (1, 52), (1, 53), (1, 54), (0, 0), (0, 0), (0, 0), (2, 0)]))) := by
  rfl
set_option maxRecDepth 100000 in
theorem wl_45 (l : Launch) (D : va_G) (cI cB cO : ClassId) (t u : Nat → Nat) (A : Nat → Prop) : ((dcL cI cB cO t ++ mdL cI u).set 12 (t 12, .inl (cO, 5, .inr (.inr (.inr (.inr (fun j => some (ad (w00 l D cI cB cO t u A) (13 + 5 * j)))))))))[45]? = some (ad (w00 l D cI cB cO t u A) 45, ce (w00 l D cI cB cO t u A) sg0 0 45 (.inl (0, 35))) := by
  rfl
set_option maxRecDepth 100000 in
theorem wl_46 (l : Launch) (D : va_G) (cI cB cO : ClassId) (t u : Nat → Nat) (A : Nat → Prop) : ((dcL cI cB cO t ++ mdL cI u).set 12 (t 12, .inl (cO, 5, .inr (.inr (.inr (.inr (fun j => some (ad (w00 l D cI cB cO t u A) (13 + 5 * j)))))))))[46]? = some (ad (w00 l D cI cB cO t u A) 46, ce (w00 l D cI cB cO t u A) sg0 0 46 (.inl (0, 35))) := by
  rfl
set_option maxRecDepth 100000 in
theorem wl_47 (l : Launch) (D : va_G) (cI cB cO : ClassId) (t u : Nat → Nat) (A : Nat → Prop) : ((dcL cI cB cO t ++ mdL cI u).set 12 (t 12, .inl (cO, 5, .inr (.inr (.inr (.inr (fun j => some (ad (w00 l D cI cB cO t u A) (13 + 5 * j)))))))))[47]? = some (ad (w00 l D cI cB cO t u A) 47, ce (w00 l D cI cB cO t u A) sg0 0 47 (.inl (0, 175))) := by
  rfl
set_option maxRecDepth 100000 in
theorem wl_48 (l : Launch) (D : va_G) (cI cB cO : ClassId) (t u : Nat → Nat) (A : Nat → Prop) : ((dcL cI cB cO t ++ mdL cI u).set 12 (t 12, .inl (cO, 5, .inr (.inr (.inr (.inr (fun j => some (ad (w00 l D cI cB cO t u A) (13 + 5 * j)))))))))[48]? = some (ad (w00 l D cI cB cO t u A) 48, ce (w00 l D cI cB cO t u A) sg0 0 48 (.inl (0, 3))) := by
  rfl
set_option maxRecDepth 100000 in
theorem wl_49 (l : Launch) (D : va_G) (cI cB cO : ClassId) (t u : Nat → Nat) (A : Nat → Prop) : ((dcL cI cB cO t ++ mdL cI u).set 12 (t 12, .inl (cO, 5, .inr (.inr (.inr (.inr (fun j => some (ad (w00 l D cI cB cO t u A) (13 + 5 * j)))))))))[49]? = some (ad (w00 l D cI cB cO t u A) 49, ce (w00 l D cI cB cO t u A) sg0 0 49 (.inl (0, 120))) := by
  rfl
set_option maxRecDepth 100000 in
theorem wl_50 (l : Launch) (D : va_G) (cI cB cO : ClassId) (t u : Nat → Nat) (A : Nat → Prop) : ((dcL cI cB cO t ++ mdL cI u).set 12 (t 12, .inl (cO, 5, .inr (.inr (.inr (.inr (fun j => some (ad (w00 l D cI cB cO t u A) (13 + 5 * j)))))))))[50]? = some (ad (w00 l D cI cB cO t u A) 50, ce (w00 l D cI cB cO t u A) sg0 0 50 (.inl (0, 6))) := by
  rfl
set_option maxRecDepth 100000 in
theorem wl_51 (l : Launch) (D : va_G) (cI cB cO : ClassId) (t u : Nat → Nat) (A : Nat → Prop) : ((dcL cI cB cO t ++ mdL cI u).set 12 (t 12, .inl (cO, 5, .inr (.inr (.inr (.inr (fun j => some (ad (w00 l D cI cB cO t u A) (13 + 5 * j)))))))))[51]? = some (ad (w00 l D cI cB cO t u A) 51, ce (w00 l D cI cB cO t u A) sg0 0 51 (.inl (0, 12))) := by
  rfl
set_option maxRecDepth 100000 in
theorem wl_52 (l : Launch) (D : va_G) (cI cB cO : ClassId) (t u : Nat → Nat) (A : Nat → Prop) : ((dcL cI cB cO t ++ mdL cI u).set 12 (t 12, .inl (cO, 5, .inr (.inr (.inr (.inr (fun j => some (ad (w00 l D cI cB cO t u A) (13 + 5 * j)))))))))[52]? = some (ad (w00 l D cI cB cO t u A) 52, ce (w00 l D cI cB cO t u A) sg0 0 52 (.inl (0, 7))) := by
  rfl
set_option maxRecDepth 100000 in
theorem wl_53 (l : Launch) (D : va_G) (cI cB cO : ClassId) (t u : Nat → Nat) (A : Nat → Prop) : ((dcL cI cB cO t ++ mdL cI u).set 12 (t 12, .inl (cO, 5, .inr (.inr (.inr (.inr (fun j => some (ad (w00 l D cI cB cO t u A) (13 + 5 * j)))))))))[53]? = some (ad (w00 l D cI cB cO t u A) 53, ce (w00 l D cI cB cO t u A) sg0 0 53 (.inl (0, 60))) := by
  rfl
set_option maxRecDepth 100000 in
theorem wl_54 (l : Launch) (D : va_G) (cI cB cO : ClassId) (t u : Nat → Nat) (A : Nat → Prop) : ((dcL cI cB cO t ++ mdL cI u).set 12 (t 12, .inl (cO, 5, .inr (.inr (.inr (.inr (fun j => some (ad (w00 l D cI cB cO t u A) (13 + 5 * j)))))))))[54]? = some (ad (w00 l D cI cB cO t u A) 54, ce (w00 l D cI cB cO t u A) sg0 0 54 (.inl (0, 120))) := by
  rfl
set_option maxRecDepth 100000 in
set_option maxHeartbeats 1000000 in
theorem wl00 (l : Launch) (D : va_G) (cI cB cO : ClassId) (t u : Nat → Nat) (A : Nat → Prop) : (dcL cI cB cO t ++ mdL cI u).set 12 (t 12, .inl (cO, 5, .inr (.inr (.inr (.inr (fun j => some (ad (w00 l D cI cB cO t u A) (13 + 5 * j)))))))) = wl (w00 l D cI cB cO t u A) sg0 0 := by
  refine wl_ext rfl (fun k sh h => ?_)
  have hk := shapes_lt h
  rcases (show k = 0 ∨ k = 1 ∨ k = 2 ∨ k = 3 ∨ k = 4 ∨ k = 5 ∨ k = 6 ∨ k = 7 ∨ k = 8 ∨ k = 9 ∨ k = 10 ∨ k = 11 ∨ k = 12 ∨ k = 13 ∨ k = 14 ∨ k = 15 ∨ k = 16 ∨ k = 17 ∨ k = 18 ∨ k = 19 ∨ k = 20 ∨ k = 21 ∨ k = 22 ∨ k = 23 ∨ k = 24 ∨ k = 25 ∨ k = 26 ∨ k = 27 ∨ k = 28 ∨ k = 29 ∨ k = 30 ∨ k = 31 ∨ k = 32 ∨ k = 33 ∨ k = 34 ∨ k = 35 ∨ k = 36 ∨ k = 37 ∨ k = 38 ∨ k = 39 ∨ k = 40 ∨ k = 41 ∨ k = 42 ∨ k = 43 ∨ k = 44 ∨ k = 45 ∨ k = 46 ∨ k = 47 ∨ k = 48 ∨ k = 49 ∨ k = 50 ∨ k = 51 ∨ k = 52 ∨ k = 53 ∨ k = 54 by omega) with rfl | rfl | rfl | rfl | rfl | rfl | rfl | rfl | rfl | rfl | rfl | rfl | rfl | rfl | rfl | rfl | rfl | rfl | rfl | rfl | rfl | rfl | rfl | rfl | rfl | rfl | rfl | rfl | rfl | rfl | rfl | rfl | rfl | rfl | rfl | rfl | rfl | rfl | rfl | rfl | rfl | rfl | rfl | rfl | rfl | rfl | rfl | rfl | rfl | rfl | rfl | rfl | rfl | rfl | rfl
  · cases (e_0.symm.trans h); exact wl_0 l D cI cB cO t u A
  · cases (e_1.symm.trans h); exact wl_1 l D cI cB cO t u A
  · cases (e_2.symm.trans h); exact wl_2 l D cI cB cO t u A
  · cases (e_3.symm.trans h); exact wl_3 l D cI cB cO t u A
  · cases (e_4.symm.trans h); exact wl_4 l D cI cB cO t u A
  · cases (e_5.symm.trans h); exact wl_5 l D cI cB cO t u A
  · cases (e_6.symm.trans h); exact wl_6 l D cI cB cO t u A
  · cases (e_7.symm.trans h); exact wl_7 l D cI cB cO t u A
  · cases (e_8.symm.trans h); exact wl_8 l D cI cB cO t u A
  · cases (e_9.symm.trans h); exact wl_9 l D cI cB cO t u A
  · cases (e_10.symm.trans h); exact wl_10 l D cI cB cO t u A
  · cases (e_11.symm.trans h); exact wl_11 l D cI cB cO t u A
  · cases (e_12.symm.trans h); exact wl_12 l D cI cB cO t u A
  · cases (e_13.symm.trans h); exact wl_13 l D cI cB cO t u A
  · cases (e_14.symm.trans h); exact wl_14 l D cI cB cO t u A
  · cases (e_15.symm.trans h); exact wl_15 l D cI cB cO t u A
  · cases (e_16.symm.trans h); exact wl_16 l D cI cB cO t u A
  · cases (e_17.symm.trans h); exact wl_17 l D cI cB cO t u A
  · cases (e_18.symm.trans h); exact wl_18 l D cI cB cO t u A
  · cases (e_19.symm.trans h); exact wl_19 l D cI cB cO t u A
  · cases (e_20.symm.trans h); exact wl_20 l D cI cB cO t u A
  · cases (e_21.symm.trans h); exact wl_21 l D cI cB cO t u A
  · cases (e_22.symm.trans h); exact wl_22 l D cI cB cO t u A
  · cases (e_23.symm.trans h); exact wl_23 l D cI cB cO t u A
  · cases (e_24.symm.trans h); exact wl_24 l D cI cB cO t u A
  · cases (e_25.symm.trans h); exact wl_25 l D cI cB cO t u A
  · cases (e_26.symm.trans h); exact wl_26 l D cI cB cO t u A
  · cases (e_27.symm.trans h); exact wl_27 l D cI cB cO t u A
  · cases (e_28.symm.trans h); exact wl_28 l D cI cB cO t u A
  · cases (e_29.symm.trans h); exact wl_29 l D cI cB cO t u A
  · cases (e_30.symm.trans h); exact wl_30 l D cI cB cO t u A
  · cases (e_31.symm.trans h); exact wl_31 l D cI cB cO t u A
  · cases (e_32.symm.trans h); exact wl_32 l D cI cB cO t u A
  · cases (e_33.symm.trans h); exact wl_33 l D cI cB cO t u A
  · cases (e_34.symm.trans h); exact wl_34 l D cI cB cO t u A
  · cases (e_35.symm.trans h); exact wl_35 l D cI cB cO t u A
  · cases (e_36.symm.trans h); exact wl_36 l D cI cB cO t u A
  · cases (e_37.symm.trans h); exact wl_37 l D cI cB cO t u A
  · cases (e_38.symm.trans h); exact wl_38 l D cI cB cO t u A
  · cases (e_39.symm.trans h); exact wl_39 l D cI cB cO t u A
  · cases (e_40.symm.trans h); exact wl_40 l D cI cB cO t u A
  · cases (e_41.symm.trans h); exact wl_41 l D cI cB cO t u A
  · cases (e_42.symm.trans h); exact wl_42 l D cI cB cO t u A
  · cases (e_43.symm.trans h); exact wl_43 l D cI cB cO t u A
  · cases (e_44.symm.trans h); exact wl_44 l D cI cB cO t u A
  · cases (e_45.symm.trans h); exact wl_45 l D cI cB cO t u A
  · cases (e_46.symm.trans h); exact wl_46 l D cI cB cO t u A
  · cases (e_47.symm.trans h); exact wl_47 l D cI cB cO t u A
  · cases (e_48.symm.trans h); exact wl_48 l D cI cB cO t u A
  · cases (e_49.symm.trans h); exact wl_49 l D cI cB cO t u A
  · cases (e_50.symm.trans h); exact wl_50 l D cI cB cO t u A
  · cases (e_51.symm.trans h); exact wl_51 l D cI cB cO t u A
  · cases (e_52.symm.trans h); exact wl_52 l D cI cB cO t u A
  · cases (e_53.symm.trans h); exact wl_53 l D cI cB cO t u A
  · cases (e_54.symm.trans h); exact wl_54 l D cI cB cO t u A
