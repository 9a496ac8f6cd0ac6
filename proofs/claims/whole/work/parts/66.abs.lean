/-! WHAT BOTH SIDES STAND FOR: the row, the STATES (oldest first) and how many, refusals, THE TEXT and its length -/
abbrev AS : Type := (Nat → Int32) × (Nat → Nat → Int32) × Nat × (Nat → Int32) × (Nat → Nat) × Nat
def CA (sg : Sg) (a : AS) : Prop := rowC sg 1 = a.1 ∧ (∃ nx, nx < 5 ∧ sg 11 1 = nI nx ∧ ∀ i, i < a.2.2.1 → RE (rowC sg (13 + 5 * ((nx + 5 - a.2.2.1 + i) % 5))) (a.2.1 i)) ∧ sg 11 2 = nI a.2.2.1 ∧ (∀ i, i < 3 → sg 0 (5 + i) = a.2.2.2.1 i) ∧ sg 38 1 = nI a.2.2.2.2.2 ∧ ∀ j, j < a.2.2.2.2.2 → sg 39 j = nI (a.2.2.2.2.1 j)
def RA (sg : Sg) (a : AS) : Prop := sg 45 = a.1 ∧ sg 44 3 = nI a.2.2.1 ∧ (∀ i, i < a.2.2.1 → ∀ k, k < 35 → sg 47 (35 * i + k) = a.2.1 i k) ∧ (∀ i, i < 3 → sg 48 i = a.2.2.2.1 i) ∧ sg 44 6 = nI a.2.2.2.2.2 ∧ ∀ j, j < a.2.2.2.2.2 → sg 49 j = nI (a.2.2.2.2.1 j)
def OA (a : AS) (B : Nat) : Prop := ROk a.1 ∧ XOk a.1 B ∧ a.2.2.1 ≤ 5 ∧ (∀ i, i < a.2.2.1 → ROk (a.2.1 i) ∧ XOk (a.2.1 i) B) ∧ a.2.2.2.2.2 ≤ 120 ∧ ∀ j, j < a.2.2.2.2.2 → a.2.2.2.2.1 j ≤ 127
def pp (ps : Nat → Nat → Int32) (f : Nat → Int32) (st i : Nat) : Nat → Int32 := if st = 5 then (if i < 4 then ps (i + 1) else f) else if i = st then f else ps i
def pushA (a : AS) (F : Nat → Int32) : AS := (F, pp a.2.1 a.1 a.2.2.1, stP a.2.2.1, a.2.2.2)
def badA (a : AS) (i : Nat) : AS := (a.1, a.2.1, a.2.2.1, upd a.2.2.2.1 i (a.2.2.2.1 i + nI 1), a.2.2.2.2)
def kpS (S : Sg) (nx sz : Nat) : Sg := us (wrR S (13 + 5 * nx) (rowC S 6)) 11 (upd (upd (S 11) 1 (nI ((nx + 1) % 5))) 2 (nI (if sz < 5 then sz + 1 else 5)))
theorem rowC_us {sg : Sg} {k v : Nat} {g : Nat → Int32} (h : k < v ∨ v + 4 < k) : rowC (us sg k g) v = rowC sg v := by
  funext j
  unfold rowC
  rw [us_ne (by omega), us_ne (by omega), us_ne (by omega), us_ne (by omega), us_ne (by omega)]
theorem rowC_eq {S sg : Sg} {v : Nat} (h : ∀ k, v ≤ k → k ≤ v + 4 → S k = sg k) : rowC S v = rowC sg v := by
  funext j
  unfold rowC
  rw [h (v + 1) (by omega) (by omega), h (v + 2) (by omega) (by omega), h (v + 3) (by omega) (by omega), h (v + 4) (by omega) (by omega), h v (by omega) (by omega)]
theorem kp_row {S : Sg} {nx sz : Nat} : rowC (kpS S nx sz) 1 = rowC S 1 := by
  unfold kpS
  rw [rowC_us (by omega), rowC_n (by omega)]
theorem kp_slot {S : Sg} {nx sz q : Nat} : rowC (kpS S nx sz) (13 + 5 * q) = if q = nx then rowC S 6 else rowC S (13 + 5 * q) := by
  unfold kpS
  rw [rowC_us (by omega)]
  by_cases h : q = nx
  · subst h
    rw [if_pos rfl, rowC_wr]
  · rw [if_neg h, rowC_n (by omega)]
theorem kp_far {S : Sg} {nx sz k : Nat} (hn : nx < 5) (h : k < 11 ∨ 37 < k) : kpS S nx sz k = S k := by
  unfold kpS
  rw [us_ne (by omega), wrR_n (by omega)]
theorem CA_kp {sg S : Sg} {a : AS} {F : Nat → Int32} {nx : Nat} (h : CA sg a) (h5 : a.2.2.1 ≤ 5) (hn5 : nx < 5) (hring : ∀ i, i < a.2.2.1 → RE (rowC sg (13 + 5 * ((nx + 5 - a.2.2.1 + i) % 5))) (a.2.1 i)) (h1 : rowC S 1 = F) (h6 : rowC S 6 = a.1) (h0 : S 0 = sg 0) (hS : ∀ k, 11 ≤ k → k < 40 → S k = sg k) : CA (kpS S nx a.2.2.1) (pushA a F) := by
  obtain ⟨c1, -, c3, c4, c5, c6⟩ := h
  refine ⟨kp_row.trans h1, ⟨(nx + 1) % 5, by omega, ?_, fun i hi => ?_⟩, ?_, fun i hi => ?_, ?_, fun j hj => ?_⟩
  · show us _ 11 _ 11 1 = _
    rw [us_same, upd_ne (by decide), upd_same]
  · have hi2 : i < stP a.2.2.1 := hi
    show RE (rowC (kpS S nx a.2.2.1) (13 + 5 * (((nx + 1) % 5 + 5 - stP a.2.2.1 + i) % 5))) (pp a.2.1 a.1 a.2.2.1 i)
    rw [kp_slot]
    unfold stP at hi2 ⊢
    unfold pp
    by_cases hs : a.2.2.1 = 5
    · rw [if_pos hs] at hi2 ⊢
      rw [if_pos hs]
      by_cases h4 : i < 4
      · rw [if_pos h4, if_neg (by omega), rowC_eq (S := S) (sg := sg) (fun k h1 h2 => hS k (by omega) (by omega))]
        have h9 := hring (i + 1) (by omega)
        rw [hs, show (nx + 5 - 5 + (i + 1)) % 5 = ((nx + 1) % 5 + 5 - 5 + i) % 5 by omega] at h9
        exact h9
      · rw [if_neg h4, if_pos (by omega), h6]
        exact fun _ _ => rfl
    · rw [if_neg hs] at hi2 ⊢
      rw [if_neg hs]
      by_cases hi3 : i = a.2.2.1
      · rw [if_pos hi3, if_pos (by omega), h6]
        exact fun _ _ => rfl
      · rw [if_neg hi3, if_neg (by omega), rowC_eq (S := S) (sg := sg) (fun k h1 h2 => hS k (by omega) (by omega))]
        have h9 := hring i (by omega)
        rw [show (nx + 5 - a.2.2.1 + i) % 5 = ((nx + 1) % 5 + 5 - (a.2.2.1 + 1) + i) % 5 by omega] at h9
        exact h9
  · show us _ 11 _ 11 2 = nI (stP a.2.2.1)
    rw [us_same, upd_same]
    unfold stP
    congr 1
    split <;> split <;> omega
  · rw [kp_far hn5 (by omega), h0]; exact c4 i hi
  · rw [kp_far hn5 (by omega), hS 38 (by omega) (by omega)]; exact c5
  · rw [kp_far hn5 (by omega), hS 39 (by omega) (by omega)]; exact c6 j hj
/-- cells that count are the same -/
theorem CA_same {sg S : Sg} {a : AS} (h : CA sg a) (h1 : rowC S 1 = rowC sg 1) (h0 : S 0 = sg 0) (hS : ∀ k, 11 ≤ k → k < 40 → S k = sg k) : CA S a := by
  obtain ⟨c1, ⟨nx, hn5, hnx, hring⟩, c3, c4, c5, c6⟩ := h
  refine ⟨h1.trans c1, ⟨nx, hn5, by rw [hS 11 (by omega) (by omega)]; exact hnx, fun i hi => ?_⟩, by rw [hS 11 (by omega) (by omega)]; exact c3, fun i hi => by rw [h0]; exact c4 i hi, by rw [hS 38 (by omega) (by omega)]; exact c5, fun j hj => by rw [hS 39 (by omega) (by omega)]; exact c6 j hj⟩
  rw [rowC_eq (S := S) (sg := sg) (fun k h1 h2 => hS k (by omega) (by omega))]
  exact hring i hi
theorem CA_bad {sg S : Sg} {a : AS} {i : Nat} (hi : i < 3) (h : CA sg a) (h1 : rowC S 1 = rowC sg 1) (h0 : S 0 = sg 0) (hS : ∀ k, 11 ≤ k → k < 40 → S k = sg k) : CA (us S 0 (upd (S 0) (5 + i) (S 0 (5 + i) + nI 1))) (badA a i) := by
  obtain ⟨c1, ⟨nx, hn5, hnx, hring⟩, c3, c4, c5, c6⟩ := CA_same h h1 h0 hS
  refine ⟨by rw [rowC_us (by omega)]; exact c1, ⟨nx, hn5, by rw [us_ne (by omega)]; exact hnx, fun i hi => by rw [rowC_us (by omega)]; exact hring i hi⟩, by rw [us_ne (by omega)]; exact c3, fun j hj => ?_, by rw [us_ne (by omega)]; exact c5, fun j hj => by rw [us_ne (by omega)]; exact c6 j hj⟩
  rw [us_same]
  show _ = upd a.2.2.2.1 i (a.2.2.2.1 i + nI 1) j
  by_cases hji : j = i
  · subst hji
    rw [upd_same, upd_same, c4 j hj]
  · rw [upd_ne (by omega), upd_ne hji]
    exact c4 j hj
theorem RA_push {sg S : Sg} {a : AS} {F : Nat → Int32} (h : RA sg a) (h5 : a.2.2.1 ≤ 5) (h45 : S 45 = F) (h47 : S 47 = pastP (sg 47) (sg 45) a.2.2.1) (h3 : S 44 3 = nI (stP a.2.2.1)) (h6 : S 44 6 = sg 44 6) (h48 : S 48 = sg 48) (h49 : S 49 = sg 49) : RA S (pushA a F) := by
  obtain ⟨c1, c2, c3, c4, c5, c6⟩ := h
  refine ⟨h45, h3, fun i hi k hk => ?_, fun i hi => by rw [h48]; exact c4 i hi, h6.trans c5, fun j hj => by rw [h49]; exact c6 j hj⟩
  have hi2 : i < stP a.2.2.1 := hi
  show S 47 (35 * i + k) = pp a.2.1 a.1 a.2.2.1 i k
  rw [h47, c1]
  unfold stP at hi2
  unfold pastP pp
  by_cases hs : a.2.2.1 = 5
  · rw [if_pos hs] at hi2
    rw [if_pos hs, if_pos hs]
    by_cases h4 : i < 4
    · rw [if_pos h4, if_pos (by omega), show 35 * i + k + 35 = 35 * (i + 1) + k by omega]
      exact c3 (i + 1) (by omega) k hk
    · rw [if_neg h4, if_neg (by omega), show 35 * i + k - 140 = k by omega]
  · rw [if_neg hs] at hi2
    rw [if_neg hs, if_neg hs]
    by_cases hi3 : i = a.2.2.1
    · rw [if_pos hi3, if_pos (by omega), show 35 * i + k - 35 * a.2.2.1 = k by omega]
    · rw [if_neg hi3, if_neg (by omega)]
      exact c3 i (by omega) k hk
theorem RA_same {sg S : Sg} {a : AS} (h : RA sg a) (h45 : S 45 = sg 45) (h3 : S 44 3 = sg 44 3) (h47 : S 47 = sg 47) (h6 : S 44 6 = sg 44 6) (h48 : S 48 = sg 48) (h49 : S 49 = sg 49) : RA S a := by
  obtain ⟨c1, c2, c3, c4, c5, c6⟩ := h
  exact ⟨h45.trans c1, h3.trans c2, fun i hi k hk => by rw [h47]; exact c3 i hi k hk, fun i hi => by rw [h48]; exact c4 i hi, h6.trans c5, fun j hj => by rw [h49]; exact c6 j hj⟩
theorem RA_bad {sg S : Sg} {a : AS} {i : Nat} (hi : i < 3) (h : RA sg a) (h45 : S 45 = sg 45) (h3 : S 44 3 = sg 44 3) (h47 : S 47 = sg 47) (h6 : S 44 6 = sg 44 6) (h48 : S 48 = upd (sg 48) i (sg 48 i + nI 1)) (h49 : S 49 = sg 49) : RA S (badA a i) := by
  obtain ⟨c1, c2, c3, c4, c5, c6⟩ := h
  refine ⟨h45.trans c1, h3.trans c2, fun i hi k hk => by rw [h47]; exact c3 i hi k hk, fun j hj => ?_, h6.trans c5, fun j hj => by rw [h49]; exact c6 j hj⟩
  show S 48 j = upd a.2.2.2.1 i (a.2.2.2.1 i + nI 1) j
  rw [h48]
  by_cases hji : j = i
  · subst hji
    rw [upd_same, upd_same, c4 j hj]
  · rw [upd_ne hji, upd_ne hji]
    exact c4 j hj
theorem OA_up {a : AS} {B B' : Nat} (hB : B ≤ B') (h : OA a B) : OA a B' := ⟨h.1, h.2.1.up hB, h.2.2.1, fun i hi => ⟨(h.2.2.2.1 i hi).1, (h.2.2.2.1 i hi).2.up hB⟩, h.2.2.2.2⟩
theorem OA_bad {a : AS} {B B' i : Nat} (hB : B ≤ B') (h : OA a B) : OA (badA a i) B' := OA_up hB h
theorem OA_push {a : AS} {B B' : Nat} {F : Nat → Int32} (hB : B ≤ B') (h : OA a B) (hF : ROk F) (hx : XOk F B') : OA (pushA a F) B' := by
  obtain ⟨h1, h2, h3, h4, h5⟩ := OA_up hB h
  refine ⟨hF, hx, ?_, fun i hi => ?_, h5⟩
  · show stP a.2.2.1 ≤ 5
    unfold stP
    split <;> omega
  · have hi2 : i < stP a.2.2.1 := hi
    show ROk (pp a.2.1 a.1 a.2.2.1 i) ∧ XOk (pp a.2.1 a.1 a.2.2.1 i) B'
    unfold stP at hi2
    unfold pp
    by_cases hs : a.2.2.1 = 5
    · rw [if_pos hs]
      rw [if_pos hs] at hi2
      by_cases h4' : i < 4
      · rw [if_pos h4']; exact h4 (i + 1) (by omega)
      · rw [if_neg h4']; exact ⟨h1, h2⟩
    · rw [if_neg hs]
      rw [if_neg hs] at hi2
      by_cases hi3 : i = a.2.2.1
      · rw [if_pos hi3]; exact ⟨h1, h2⟩
      · rw [if_neg hi3]; exact h4 i (by omega)
def PC (w : GW) (y : MethodName) (cc : ByteArray) (n : Nat) (ret : Option FieldType) (as : List Value) (a : AS) (r : Value) (a' : AS) : Prop := ∃ d, d ≤ 8 ∧ ∀ (tu : Int64) (sg : Sg), CA sg a → KtP w y cc n ret d as sg tu (fun r' s2 _ => r' = some r ∧ CA s2 a' ∧ ∀ k, 44 ≤ k → s2 k = sg k)
def PR (w : GW) (y : MethodName) (cc : ByteArray) (n : Nat) (ret : Option FieldType) (as : List Value) (a : AS) (r : Value) (a' : AS) : Prop := ∃ d, d ≤ 8 ∧ ∀ (tu : Int64) (sg : Sg), RA sg a → KtP w y cc n ret d as sg tu (fun r' s2 _ => r' = some r ∧ RA s2 a' ∧ ∀ k, k < 44 → s2 k = sg k)
/-- an answer of the kind -/
def VK : Option FieldType → Value → Prop
  | some .long, r => ∃ v : Int64, r = .long v
  | _, r => ∃ v : Int32, r = .int v
/-- both sides answer alike -/
def Pair (w : GW) (y : MethodName) (cc : ByteArray) (n : Nat) (y' : MethodName) (cc' : ByteArray) (n' : Nat) (ret : Option FieldType) (as : List Value) (B : Nat) (a : AS) : Prop := ∃ r a', VK ret r ∧ OA a' (B + 10000) ∧ PC w y cc n ret (.ref (ad w 0) :: as) a r a' ∧ PR w y' cc' n' ret (.ref (ad w 44) :: as) a r a'
/-- the works behind 'remember' and a change -/
theorem ch_1 {sg : Sg} {F : Nat → Int32} : rowC (wrR (wrR sg 6 (rowC sg 1)) 1 F) 1 = F := rowC_wr
theorem ch_6 {sg : Sg} {F : Nat → Int32} : rowC (wrR (wrR sg 6 (rowC sg 1)) 1 F) 6 = rowC sg 1 := by
  rw [rowC_n (by omega), rowC_wr]
theorem ch_n {sg : Sg} {A F : Nat → Int32} {k : Nat} (h : k = 0 ∨ 11 ≤ k) : wrR (wrR sg 6 A) 1 F k = sg k := by
  rw [wrR_n (by omega), wrR_n (by omega)]
/-- a call of the class that left a STATE -/
theorem PC_ok {sg : Sg} {a : AS} {F : Nat → Int32} {nx : Nat} (h : CA sg a) (h5 : a.2.2.1 ≤ 5) (hn5 : nx < 5) (hring : ∀ i, i < a.2.2.1 → RE (rowC sg (13 + 5 * ((nx + 5 - a.2.2.1 + i) % 5))) (a.2.1 i)) : CA (kpS (wrR (wrR sg 6 (rowC sg 1)) 1 F) nx a.2.2.1) (pushA a F) ∧ ∀ k, 44 ≤ k → kpS (wrR (wrR sg 6 (rowC sg 1)) 1 F) nx a.2.2.1 k = sg k :=
  ⟨CA_kp h h5 hn5 hring ch_1 (ch_6.trans h.1) (ch_n (by omega)) (fun k h1 h2 => ch_n (by omega)), fun k hk => by rw [kp_far hn5 (by omega), ch_n (by omega)]⟩
/-- a call of the class that was refused, the works put back -/
theorem bk_1 {sg : Sg} {F : Nat → Int32} : rowC (wrR (wrR (wrR sg 6 (rowC sg 1)) 1 F) 1 (rowC (wrR (wrR sg 6 (rowC sg 1)) 1 F) 6)) 1 = rowC sg 1 := by
  rw [rowC_wr, ch_6]
theorem PC_no {sg S : Sg} {a : AS} {i : Nat} (hi : i < 3) (h : CA sg a) (h1 : rowC S 1 = rowC sg 1) (hS : ∀ k, k = 0 ∨ 11 ≤ k → S k = sg k) : CA (us S 0 (upd (S 0) (5 + i) (S 0 (5 + i) + nI 1))) (badA a i) ∧ ∀ k, 44 ≤ k → us S 0 (upd (S 0) (5 + i) (S 0 (5 + i) + nI 1)) k = sg k :=
  ⟨CA_bad hi h h1 (hS 0 (by omega)) (fun k h1 h2 => hS k (by omega)), fun k hk => by rw [us_ne (by omega)]; exact hS k (by omega)⟩
/-- refused at once: the works were not changed -/
theorem rb_1 {sg : Sg} : rowC (wrR (wrR sg 6 (rowC sg 1)) 1 (rowC (wrR sg 6 (rowC sg 1)) 6)) 1 = rowC sg 1 := by
  rw [rowC_wr, rowC_wr]
