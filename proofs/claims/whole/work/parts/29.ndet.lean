/-! contracts whose heap behind is told by what holds of it -/
def KQP (w : GW) (Post : Option Value → Sg → Int64 → Prop) : Array Value → State → Outcome → State → Prop := fun _ st oc t => (∃ (r : Option Value) (sg : Sg) (tu : Int64), oc = .returned r ∧ Post r sg tu ∧ Hp w sg tu t.heap) ∧ va_F (gA w) st t
def EndsP (z : GZ) (w : GW) (ret : Option FieldType) (Post : Option Value → Sg → Int64 → Prop) : Prop := match z with
  | (_, _, _, _, s, _, args, below, meth, _, cells, slots, Q) => meth.sig.returnType = ret ∧ meth.locks = false ∧ Q = MQ below (KQP w Post) args s cells slots (gA w)
def KtP (w : GW) (y : MethodName) (cc : ByteArray) (n : Nat) (ret : Option FieldType) (d : Nat) (as : List Value) (sg : Sg) (tu : Int64) (Post : Option Value → Sg → Int64 → Prop) : Prop := Met (gl w) y (.code y cc n ret :: TG) (rmD d) (kPc w as sg tu) (KQP w Post) 0 0 (gA w)
theorem KtP.of {w : GW} {y : MethodName} {cc : ByteArray} {n : Nat} {ret : Option FieldType} {d : Nat} {as : List Value} {sg : Sg} {tu : Int64} {Post : Option Value → Sg → Int64 → Prop} (own : String) (ho : y.cls = own) (L0 : List (Nat × Value)) (hn : plainName y.cls = true) (hL : lv_args 0 as = L0) (hlen : (lg_sl as).length ≤ n) (body : ∀ z, Cx z w cc n own d → EndsP z w ret Post → G z w n sg tu 0 L0 []) : KtP w y cc n ret d as sg tu Post := by
  subst ho
  refine Met.ofW (cc := cc) (maxL := n) (ret := ret) hn rfl ?_
  intro p e s m args below meth c s₁ B hml hv
  obtain ⟨rfl, hH, hK⟩ := hv
  have hts := atoms_spec (ws := .code y cc n ret :: TG) B.pre
  have hown : s.vm.findClass y.cls = some m.cls := findClass_of_methodNamed B.named
  have h := body (p, gl w, e, rmD d, s, m, as.toArray, below, meth, c, 0, 0, MQ below (KQP w Post) as.toArray s 0 0 (gA w)) ⟨rfl, B.exec, B.bytes, hml, hown, fun x hx => hts x (List.mem_cons_of_mem _ hx), hK, ⟨Nat.le_refl _, Nat.le_refl _⟩, Nat.zero_le _, Nat.zero_le _⟩ ⟨B.returns, B.notSynchronized, rfl⟩
  rw [lg_entry_eq]
  exact h s.heap _ [] hH va_S.rf (by rw [← hL]; exact lv_entry as hlen)
/-- a contract that tells the heap is one that tells what holds of it -/
theorem Kt.toP {w : GW} {y : MethodName} {cc : ByteArray} {n : Nat} {ret : Option FieldType} {d : Nat} {as : List Value} {sg : Sg} {tu : Int64} {r : Option Value} {sg' : Sg} {tu' : Int64} {Post : Option Value → Sg → Int64 → Prop} (h : Kt w y cc n ret d as sg tu r sg' tu') (hp : Post r sg' tu') : KtP w y cc n ret d as sg tu Post := by
  intro p e ha hc hk s m args below hf happ hP hT
  obtain ⟨k, o, h1, h2, h3, ⟨⟨hr, hH, hF⟩, L, hL⟩⟩ := h p e ha hc hk s m args below hf happ hP hT
  exact ⟨k, o, h1, h2, h3, ⟨⟨r, sg', tu', hr, hp, hH⟩, hF⟩, L, hL⟩
section GP
variable {z : GZ} {w : GW} {cc : ByteArray} {nL : Nat} {own : String} {d : Nat} {sg : Sg} {tu : Int64} {pc : Nat} {L : List (Nat × Value)} {S : List Value}
variable {y : MethodName} {bc : ByteArray} {n np d' idx : Nat} {ret : Option FieldType} {As : List Value} {Post : Option Value → Sg → Int64 → Prop}
theorem g_runP {p : Program} {l : Launch} {e : Env} {R : Room} {s : State} {m : MethodId} {args : Array Value} {below : List Frame} {meth : Method} {c : Code} {cells slots : Nat} {Q : State → Prop} {st0 : List Value} {a : Array Value}
    (hr : ∀ (H : Heap) (ls : Array Slot) (locs : List Loc), Hp w sg tu H → va_S (gA w) s.heap H locs → lv_has ls nL L → va_Run p l e R s m args below meth c H locs cells slots 0 0 (F0 m pc ls st0) S (KQP w Post a) (gA w))
    (k : ∀ r sg' tu', Post r sg' tu' → G (p, l, e, R, s, m, args, below, meth, c, cells, slots, Q) w nL sg' tu' (pc + 3) L (r.toList ++ S)) : G (p, l, e, R, s, m, args, below, meth, c, cells, slots, Q) w nL sg tu pc L st0 := by
  intro H ls locs hH hS hl T hT X
  obtain ⟨v, st₀, t, T', Lc, h0, X', hL, e1, e2, ⟨⟨r, sg', tu', hv, hp, hH'⟩, hz, hk⟩, st⟩ := hr H ls locs hH hS hl T hT X
  cases hv
  rw [h0] at hz hk
  obtain ⟨t2, a1, b1⟩ := k v sg' tu' hp T'.heap ls (locs ++ Lc) (by rw [e1]; exact hH') ⟨Nat.le_trans hS.1 (by rw [e1]; exact hz), fun q h1 h2 => by rw [e1, hk q (Nat.lt_of_lt_of_le h1 hS.1) h2]; exact hS.2.1 q h1 h2, fun q hq => by
      rcases List.mem_append.mp hq with h | h
      · exact hS.2.2 q h
      · exact hL q h⟩ hl T' rfl X'
  exact ⟨t2, st t2 a1, b1⟩
theorem g_callVP (S : List Value) (C : Cx z w cc nL own d) {q ci N : Nat} {fs : List (Nat × Nat)} {T : u_T} (hM : KtP w y bc n ret d' (.ref (ad w q) :: As) sg tu Post) (hm : Mt y bc n ret np) (hq : shapes[q]? = some (.inr (ci, fs))) (hci : vwCl[ci]? = some (y.cls, T, N)) (hlink : Cond.methodLink own idx y ∈ TG) (hin : Cond.instanceMethod y ∈ TG) (hse : Cond.selects y.cls y y ∈ TG) (hd : d' + 1 ≤ d) (hn : As.length = np) (hrest : (S.map fun v => v.category).sum ≤ 8) (hdg : decode cc pc = .ok (.invokevirtual idx, 3))
    (k : ∀ r sg' tu', Post r sg' tu' → G z w nL sg' tu' (pc + 3) L (r.toList ++ S)) : G z w nL sg tu pc L (As.reverse ++ .ref (ad w q) :: S) := by
  obtain ⟨p, l, e, R, s, m, args, below, meth, c, cells, slots, Q⟩ := z
  obtain ⟨rfl, hx, hb, hml, hown, hts, hK, hR, hc, hs⟩ := C
  refine g_runP (a := (Value.ref (ad w q) :: As).toArray) (fun H ls locs hH hS hl => ?_) k
  exact va_runV (Ts := TG) (own := own) (nL := nL) (C := y.cls) ⟨hx, hb, hml, hown, hts⟩ hM ⟨callB_of np hts (mt_good hm) rfl rfl rfl (hts _ hm.2.1) (hts _ hlink) hm.2.2.1 ⟨by show d' + 1 ≤ _; omega, by have := hm.2.2.2; show 8 + (n + 11) + 32 * d' ≤ _; omega⟩, hts _ hin, hts _ hse⟩ ⟨kPc_blind, va_recv hK.1 hH hci (wl_get hq), fun U hU hW => ⟨rfl, by rw [hU]; exact hH, hK.warm hW⟩⟩ rfl hn hl.1 rfl (lv_room hrest) hdg ⟨hc, hs⟩
theorem g_iretP (C : Cx z w cc nL own d) (E : EndsP z w (some .int) Post) {v : Int32} (hdg : decode cc pc = .ok (.ireturn, 1)) (hp : Post (some (.int v)) sg tu) : G z w nL sg tu pc L [.int v] := by
  obtain ⟨p, l, e, R, s, m, args, below, meth, c, cells, slots, Q⟩ := z
  obtain ⟨-, hx, hb, -⟩ := C
  obtain ⟨hr, hlocks, rfl⟩ := E
  exact fun H ls locs hH hS hl => W.iret hx hb hr (fun t ht hW => ⟨⟨_, sg, tu, rfl, hp, by rw [ht]; exact hH⟩, hS.F ht⟩) hS.2.2 hdg hlocks
theorem g_zretP (C : Cx z w cc nL own d) (E : EndsP z w (some .boolean) Post) {v : Int32} (hdg : decode cc pc = .ok (.ireturn, 1)) (hn : narrow .boolean (.int v) = .int v) (hp : Post (some (.int v)) sg tu) : G z w nL sg tu pc L [.int v] := by
  obtain ⟨p, l, e, R, s, m, args, below, meth, c, cells, slots, Q⟩ := z
  obtain ⟨-, hx, hb, -⟩ := C
  obtain ⟨hr, hlocks, rfl⟩ := E
  exact fun H ls locs hH hS hl => W.zret hx hb hr hn (fun t ht hW => ⟨⟨_, sg, tu, rfl, hp, by rw [ht]; exact hH⟩, hS.F ht⟩) hS.2.2 hdg hlocks
end GP
/-! reading orders, on numbers -/
abbrev nuP (tx : Nat → Nat) (len p : Nat) : Nat × Nat := rdn tx len 6 (sk tx len p) 0
abbrev nuOk (tx : Nat → Nat) (len p : Nat) : Prop := ¬ atP tx len 48 57 (nuP tx len p).1 ∧ sk tx len p < (nuP tx len p).1
def enR (tx : Nat → Nat) (len q a b : Nat) : Bool × Nat × Nat × Nat := if atP tx len 59 59 (sk tx len q) then (true, sk tx len q + 1, a, b) else (false, sk tx len q, 0, 0)
def odR (tx : Nat → Nat) (len p : Nat) : Bool × Nat × Nat × Nat :=
  if mnI (tx p) = (-1) then (false, p, 0, 0)
  else if mnI (tx p) = nI 0 then enR tx len (p + 1) 0 0
  else if nuOk tx len (p + 1) then
    (if mnI (tx p) = nI 1 then enR tx len (nuP tx len (p + 1)).1 (nuP tx len (p + 1)).2 0
     else if nuOk tx len (nuP tx len (p + 1)).1 then enR tx len (nuP tx len (nuP tx len (p + 1)).1).1 (nuP tx len (p + 1)).2 (nuP tx len (nuP tx len (p + 1)).1).2
     else (false, (nuP tx len (nuP tx len (p + 1)).1).1, 0, 0))
  else (false, (nuP tx len (p + 1)).1, 0, 0)
theorem mnI_4 (c : Nat) : mnI c = (-1) ∨ mnI c = nI 0 ∨ mnI c = nI 1 ∨ mnI c = nI 2 := by
  unfold mnI
  split
  · exact Or.inr (Or.inr (Or.inr rfl))
  · split
    · exact Or.inr (Or.inr (Or.inl rfl))
    · split
      · exact Or.inr (Or.inl rfl)
      · exact Or.inl rfl
theorem nuP_ge {tx : Nat → Nat} {len p : Nat} : p ≤ (nuP tx len p).1 := Nat.le_trans sk_ge (rdn_ge 6 _ 0).1
theorem nuP_le {tx : Nat → Nat} {len p : Nat} (h : p ≤ len) : (nuP tx len p).1 ≤ len := rdn_le 6 _ 0 (sk_le h)
theorem enR_pos {tx : Nat → Nat} {len q a b : Nat} (hq : q ≤ len) (h : (enR tx len q a b).1 = true) : q + 1 ≤ (enR tx len q a b).2.1 ∧ (enR tx len q a b).2.1 ≤ len := by
  unfold enR at h ⊢
  split
  · rename_i h1
    have h2 := sk_ge (tx := tx) (len := len) (p := q)
    have h3 := h1.1
    exact ⟨by show q + 1 ≤ sk tx len q + 1; omega, by show sk tx len q + 1 ≤ len; omega⟩
  · rename_i h1; rw [if_neg h1] at h; cases h
theorem odR_pos {tx : Nat → Nat} {len p : Nat} (hp : p < len) (h : (odR tx len p).1 = true) : p + 2 ≤ (odR tx len p).2.1 ∧ (odR tx len p).2.1 ≤ len := by
  have g1 := nuP_ge (tx := tx) (len := len) (p := p + 1)
  have g2 := nuP_ge (tx := tx) (len := len) (p := (nuP tx len (p + 1)).1)
  have l1 : (nuP tx len (p + 1)).1 ≤ len := nuP_le hp
  have l2 : (nuP tx len (nuP tx len (p + 1)).1).1 ≤ len := nuP_le l1
  unfold odR at h ⊢
  split
  · rename_i h1; rw [if_pos h1] at h; cases h
  · rename_i h1; rw [if_neg h1] at h
    split
    · rename_i h2; rw [if_pos h2] at h
      have := enR_pos (q := p + 1) hp h; exact ⟨by omega, this.2⟩
    · rename_i h2; rw [if_neg h2] at h
      split
      · rename_i h3; rw [if_pos h3] at h
        split
        · rename_i h4; rw [if_pos h4] at h
          have := enR_pos l1 h; exact ⟨by omega, this.2⟩
        · rename_i h4; rw [if_neg h4] at h
          split
          · rename_i h5; rw [if_pos h5] at h
            have := enR_pos l2 h; exact ⟨by omega, this.2⟩
          · rename_i h5; rw [if_neg h5] at h; cases h
      · rename_i h3; rw [if_neg h3] at h; cases h
/-- where the o-th order begins -/
def pst (tx : Nat → Nat) (len : Nat) : Nat → Nat
  | 0 => sk tx len 0
  | o + 1 => sk tx len (odR tx len (pst tx len o)).2.1
/-- the first m orders stand -/
def okP (tx : Nat → Nat) (len m : Nat) : Prop := ∀ o, o < m → pst tx len o < len ∧ (odR tx len (pst tx len o)).1 = true
theorem pst_ge {tx : Nat → Nat} {len : Nat} : ∀ m, okP tx len m → 2 * m ≤ pst tx len m ∧ pst tx len m ≤ len
  | 0, _ => ⟨Nat.zero_le _, sk_le (Nat.zero_le _)⟩
  | m + 1, h => by
    have h1 := pst_ge m (fun o ho => h o (by omega))
    have h2 := h m (by omega)
    have h3 := odR_pos h2.1 h2.2
    have h4 := sk_ge (tx := tx) (len := len) (p := (odR tx len (pst tx len m)).2.1)
    show 2 * (m + 1) ≤ sk tx len _ ∧ sk tx len _ ≤ len
    exact ⟨by omega, sk_le h3.2⟩
/-- reading ends: at the text's end, or at an order that can't stand -/
theorem prs_total {tx : Nat → Nat} {len : Nat} (hl : len ≤ 120) : ∃ m, m ≤ 60 ∧ okP tx len m ∧ (pst tx len m = len ∨ (pst tx len m < len ∧ (odR tx len (pst tx len m)).1 = false)) := by
  have key : ∀ r m, m + r = 61 → okP tx len m → ∃ m, m ≤ 60 ∧ okP tx len m ∧ (pst tx len m = len ∨ (pst tx len m < len ∧ (odR tx len (pst tx len m)).1 = false)) := by
    intro r
    induction r with
    | zero => intro m hm hok; exact absurd (pst_ge m hok) (by omega)
    | succ r ih =>
      intro m hm hok
      have h1 := pst_ge m hok
      by_cases he : pst tx len m = len
      · exact ⟨m, by omega, hok, Or.inl he⟩
      · cases hb : (odR tx len (pst tx len m)).1 with
        | false => exact ⟨m, by omega, hok, Or.inr ⟨by omega, hb⟩⟩
        | true =>
          refine ih (m + 1) (by omega) (fun o ho => ?_)
          by_cases hom : o = m
          · subst hom; exact ⟨by omega, hb⟩
          · exact hok o (by omega)
  exact key 61 0 rfl (fun o ho => absurd ho (by omega))
