/-! THE FRAME OF ALL WALKS: the whole heap as one function of numbers. A cell has a number k (its shape in 'shapes'), its address is 'ad w k'; sg k j is the int at place j of cell k (an array's element, an object's field); tu is the reference's one long field. -/
def TG : List Cond := lw_tbl.filter goodWord
theorem TG_good : ∀ w ∈ TG, w ∈ TG ∧ ((w.onTables && w.keeps) = true ∨ ∃ ty, w = .arrayClass ty) := fun w h => ⟨h, good_of_word (List.mem_filter.mp h).2⟩
theorem TG_in {w : Cond} (i : Nat) (h : lw_tbl[i]? = some w) (g : goodWord w = true) : w ∈ TG := List.mem_filter.mpr ⟨List.mem_of_getElem? h, g⟩
abbrev Sg : Type := Nat → Nat → Int32
abbrev Shp : Type := (Nat × Nat) ⊕ (Nat × List (Nat × Nat))
abbrev GW : Type := Launch × (Nat → ClassId) × (Nat → Nat → Nat) × (Nat → Nat) × (Nat → ClassId) × (Nat → Prop)
def gl (w : GW) : Launch := w.1
def gD (w : GW) : va_G := (w.2.1, w.2.2.1)
def ad (w : GW) (k : Nat) : Nat := w.2.2.2.1 k
def gc (w : GW) (k : Nat) : ClassId := w.2.2.2.2.1 k
def gA (w : GW) : Nat → Prop := w.2.2.2.2.2
/-- a field's value by its kind: 0 an int, 1 a reference to the cell of that number, 2 the long -/
def va1 (w : GW) (x : Int32) (tu : Int64) (q : Nat × Nat) : Value := if q.1 = 0 then .int x else if q.1 = 1 then .ref (ad w q.2) else .long tu
def ce (w : GW) (sg : Sg) (tu : Int64) (k : Nat) : Shp → va_E
  | .inl (0, n) => .inl (gc w 0, n, .inl (sg k))
  | .inl (1, n) => .inl (gc w 1, n, .inl (sg k))
  | .inl (_, n) => .inl (gc w 2, n, .inr (.inr (.inr (.inr (fun j => some (ad w (13 + 5 * j)))))))
  | .inr (ci, fs) => .inr (ci, fs.mapIdx (fun j q => va1 w (sg k j) tu q))
def shapes : List Shp := [
  .inr (4, [(1, 1), (1, 6), (1, 11), (1, 38), (1, 40), (0, 0), (0, 0), (0, 0)]),
  .inr (3, [(1, 2), (1, 3), (1, 4), (1, 5), (0, 0), (0, 0), (0, 0), (0, 0)]), .inl (0, 6), .inl (0, 6), .inl (0, 12), .inl (0, 7),
  .inr (3, [(1, 7), (1, 8), (1, 9), (1, 10), (0, 0), (0, 0), (0, 0), (0, 0)]), .inl (0, 6), .inl (0, 6), .inl (0, 12), .inl (0, 7),
  .inr (1, [(1, 12), (0, 0), (0, 0)]), .inl (2, 5),
  .inr (3, [(1, 14), (1, 15), (1, 16), (1, 17), (0, 0), (0, 0), (0, 0), (0, 0)]), .inl (0, 6), .inl (0, 6), .inl (0, 12), .inl (0, 7),
  .inr (3, [(1, 19), (1, 20), (1, 21), (1, 22), (0, 0), (0, 0), (0, 0), (0, 0)]), .inl (0, 6), .inl (0, 6), .inl (0, 12), .inl (0, 7),
  .inr (3, [(1, 24), (1, 25), (1, 26), (1, 27), (0, 0), (0, 0), (0, 0), (0, 0)]), .inl (0, 6), .inl (0, 6), .inl (0, 12), .inl (0, 7),
  .inr (3, [(1, 29), (1, 30), (1, 31), (1, 32), (0, 0), (0, 0), (0, 0), (0, 0)]), .inl (0, 6), .inl (0, 6), .inl (0, 12), .inl (0, 7),
  .inr (3, [(1, 34), (1, 35), (1, 36), (1, 37), (0, 0), (0, 0), (0, 0), (0, 0)]), .inl (0, 6), .inl (0, 6), .inl (0, 12), .inl (0, 7),
  .inr (2, [(1, 39), (0, 0)]), .inl (1, 120),
  .inr (0, [(1, 41), (1, 42), (1, 43), (0, 0), (0, 0), (0, 0)]), .inl (0, 60), .inl (0, 60), .inl (0, 60),
  .inr (5, [(1, 45), (1, 46), (1, 47), (0, 0), (1, 48), (1, 49), (0, 0), (1, 50), (1, 51), (1, 52), (1, 53), (1, 54), (0, 0), (0, 0), (0, 0), (2, 0)]),
  .inl (0, 35), .inl (0, 35), .inl (0, 175), .inl (0, 3), .inl (0, 120), .inl (0, 6), .inl (0, 12), .inl (0, 7), .inl (0, 60), .inl (0, 120)]
/-- the whole world as the kit has worlds -/
def wl (w : GW) (sg : Sg) (tu : Int64) : va_W := shapes.mapIdx (fun k sh => (ad w k, ce w sg tu k sh))
theorem wl_get {w : GW} {sg : Sg} {tu : Int64} {k : Nat} {sh : Shp} (h : shapes[k]? = some sh) : (wl w sg tu)[k]? = some (ad w k, ce w sg tu k sh) := by
  simp [wl, List.getElem?_mapIdx, h]
theorem wl_inv {w : GW} {sg : Sg} {tu : Int64} {k : Nat} {q : Nat × va_E} (h : (wl w sg tu)[k]? = some q) : ∃ sh, shapes[k]? = some sh ∧ q = (ad w k, ce w sg tu k sh) := by
  simp only [wl, List.getElem?_mapIdx] at h
  cases hs : shapes[k]? with
  | none => rw [hs] at h; cases h
  | some sh => rw [hs] at h; exact ⟨sh, rfl, (Option.some.inj h).symm⟩
theorem shapes_lt {k : Nat} {sh : Shp} (h : shapes[k]? = some sh) : k < 55 := (List.getElem?_eq_some_iff.mp h).1
def AdOk (w : GW) : Prop := (∀ i j, i < 55 → j < 55 → ad w i = ad w j → i = j) ∧ ∀ i, i < 55 → gA w (ad w i)
theorem wl_D {w : GW} {sg : Sg} {tu : Int64} (h : AdOk w) : va_D (gA w) (wl w sg tu) := by
  refine ⟨fun i j p q hp hq e => ?_, fun k q hq => ?_⟩
  · obtain ⟨sh, h1, rfl⟩ := wl_inv hp
    obtain ⟨sh2, h2, rfl⟩ := wl_inv hq
    exact h.1 i j (shapes_lt h1) (shapes_lt h2) e
  · obtain ⟨sh, h1, rfl⟩ := wl_inv hq
    exact h.2 k (shapes_lt h1)
def Hp (w : GW) (sg : Sg) (tu : Int64) (H : Heap) : Prop := va_P (gD w) vwCl (wl w sg tu) H
theorem wl_ext {w : GW} {a : va_W} {sg : Sg} {tu : Int64} (hl : a.length = 55) (h : ∀ k sh, shapes[k]? = some sh → a[k]? = some (ad w k, ce w sg tu k sh)) : a = wl w sg tu := by
  apply List.ext_getElem?
  intro i
  cases hs : shapes[i]? with
  | some sh => rw [h i sh hs, wl_get hs]
  | none =>
    have h1 : 55 ≤ i := List.getElem?_eq_none_iff.mp hs
    have h2 : (wl w sg tu).length = 55 := by simp only [wl, List.length_mapIdx]; rfl
    rw [List.getElem?_eq_none (by omega), List.getElem?_eq_none (by omega)]
theorem wl_len {w : GW} {sg : Sg} {tu : Int64} : (wl w sg tu).length = 55 := by simp only [wl, List.length_mapIdx]; rfl
theorem wl_set {w : GW} {sg sg' : Sg} {tu tu' : Int64} {k : Nat} {sh : Shp} {e : va_E} (hs : shapes[k]? = some sh) (he : e = ce w sg' tu' k sh) (ho : ∀ j sh', j ≠ k → shapes[j]? = some sh' → ce w sg' tu' j sh' = ce w sg tu j sh') : (wl w sg tu).set k (ad w k, e) = wl w sg' tu' := by
  subst he
  refine wl_ext (by rw [List.length_set]; exact wl_len) fun j sh' hj => ?_
  by_cases hk : j = k
  · subst hk
    rw [List.getElem?_set_self (by rw [wl_len]; exact shapes_lt hs)]
    rw [hs] at hj
    cases hj
    rfl
  · rw [List.getElem?_set_ne (Ne.symm hk), wl_get hj, ho j sh' hk hj]
/-- one cell's contents put -/
def us (sg : Sg) (k : Nat) (f : Nat → Int32) : Sg := fun i => if i = k then f else sg i
theorem us_same (sg : Sg) (k : Nat) (f : Nat → Int32) : us sg k f k = f := if_pos rfl
theorem us_ne {sg : Sg} {k i : Nat} {f : Nat → Int32} (h : i ≠ k) : us sg k f i = sg i := if_neg h
theorem ce_ne {w : GW} {sg : Sg} {tu : Int64} {k : Nat} {f : Nat → Int32} (j : Nat) (sh : Shp) (h : j ≠ k) : ce w (us sg k f) tu j sh = ce w sg tu j sh := by
  unfold ce
  split <;> simp only [us_ne h]
/-- which places of a cell count -/
def lnS : Shp → Nat
  | .inl (_, n) => n
  | .inr (_, fs) => fs.length
def ln (k : Nat) : Nat := match shapes[k]? with
  | some sh => lnS sh
  | none => 0
def Sq (sg sg' : Sg) : Prop := ∀ k j, j < ln k → sg k j = sg' k j
theorem arrV_ext {cI : ClassId} {n : Nat} {f g : Nat → Value} (h : ∀ j, j < n → f j = g j) : arrV cI n f = arrV cI n g := by
  unfold arrV
  congr 1
  apply Array.ext
  · simp
  · intro i h1 h2
    simp at h1
    simp [h i h1]
theorem ce_sq {w : GW} {sg sg' : Sg} {tu : Int64} {H : Heap} {a k : Nat} {D : va_G} {cl : List vw_C} : ∀ (sh : Shp), (∀ j, j < lnS sh → sg k j = sg' k j) → va_at D cl (a, ce w sg tu k sh) H → va_at D cl (a, ce w sg' tu k sh) H
  | .inl (0, n), hl, h => by
    have h1 : H[a]? = some (vp_cell (gc w 0) (n, .inl (sg k))) := h
    show H[a]? = some (vp_cell (gc w 0) (n, .inl (sg' k)))
    rw [h1, vp_cell_i, vp_cell_i, arrV_ext fun j hj => by rw [hl j hj]]
  | .inl (1, n), hl, h => by
    have h1 : H[a]? = some (vp_cell (gc w 1) (n, .inl (sg k))) := h
    show H[a]? = some (vp_cell (gc w 1) (n, .inl (sg' k)))
    rw [h1, vp_cell_i, vp_cell_i, arrV_ext fun j hj => by rw [hl j hj]]
  | .inl (_ + 2, n), hl, h => h
  | .inr (ci, fs), hl, h => by
    obtain ⟨r, h1, h2⟩ := h
    refine ⟨r, h1, h2.to fun j _ => ?_⟩
    simp only [vp_V, List.getD_eq_getElem?_getD, List.getElem?_mapIdx]
    cases hf : fs[j]? with
    | none => rfl
    | some q =>
      have : j < fs.length := (List.getElem?_eq_some_iff.mp hf).1
      simp only [Option.map_some, Option.getD_some, hl j this]
theorem Hp.sq {w : GW} {sg sg' : Sg} {tu : Int64} {H : Heap} (hq : Sq sg sg') (h : Hp w sg tu H) : Hp w sg' tu H := by
  intro k q hk
  obtain ⟨sh, hs, rfl⟩ := wl_inv hk
  exact ce_sq sh (fun j hj => hq k j (by unfold ln; rw [hs]; exact hj)) (h k _ (wl_get hs))
def TN : List (String × Nat × MethodName × String) := [(RX4, 9, yX3_init, "DrumCrank"), (RX1, 24, yX3_init, "DrumCrank"), (RX4, 28, yX2_init, "DrumCrank"), (RX4, 35, yX0_init, "DrumCrank"), (RX3, 45, yX4_within, "DrumCrank"), (RX3, 53, yX4_number, "DrumCrank"), (RX3, 57, yX4_putFigures, "DrumCrank"), (RX3, 85, yX4_canMultiply, "DrumCrank"), (RX3, 92, yX4_figuresToMultiply, "DrumCrank"), (RX3, 95, yX4_turnsForFigure, "DrumCrank"), (RX3, 99, yX4_leftBehindFigure, "DrumCrank"), (RX2, 21, yX4_within, "DrumCrank"), (RX0, 63, yX4_within, "DrumCrank")]
def KK (w : GW) (U : State) : Prop := va_K (gD w) vwCl [(gc w 0, .int), (gc w 1, .byte), (gc w 2, .object RX3)] U ∧ (∀ q ∈ TN, va_Nw (.methodLinkNest q.1 q.2.1 q.2.2.1 q.2.2.2) U) ∧ AdOk w
theorem KK.same {w : GW} {u U : State} (h : u.vm = U.vm) (hK : KK w u) : KK w U := ⟨va_K.moved (by rw [h]; exact Vm.Alike.refl _) hK.1, fun q hq => va_Nw.same rfl h (hK.2.1 q hq), hK.2.2⟩
theorem KK.warm {w : GW} {u U : State} (h : u.WarmedH U.vm) (hK : KK w u) : KK w U := ⟨va_K.moved h.alike hK.1, fun q hq => va_Nw.warmM h (hK.2.1 q hq), hK.2.2⟩
/-! the machine's side of a walk, in one word: p l e R s m args below meth c cells slots Q -/
abbrev GZ : Type := Program × Launch × Env × Room × State × MethodId × Array Value × List Frame × Method × Code × Nat × Nat × (State → Prop)
def G (z : GZ) (w : GW) (nL : Nat) (sg : Sg) (tu : Int64) (pc : Nat) (L : List (Nat × Value)) (S : List Value) : Prop := match z with
  | (p, l, e, R, s, m, args, below, meth, c, cells, slots, Q) => ∀ (H : Heap) (ls : Array Slot) (locs : List Loc), Hp w sg tu H → va_S (gA w) s.heap H locs → lv_has ls nL L → W p l e R s m args below meth c H locs cells slots Q (F0 m pc ls S)
def Cx (z : GZ) (w : GW) (cc : ByteArray) (nL : Nat) (own : String) (d : Nat) : Prop := match z with
  | (p, l, _, R, s, m, args, _, _, c, cells, slots, _) => l = gl w ∧ p.tables.exec = Jvm.exec ∧ c.code = cc ∧ c.maxLocals = nL ∧ s.vm.findClass own = some m.cls ∧ (∀ x ∈ TG, x.before args s = true) ∧ KK w s ∧ (d ≤ R.frames ∧ 32 * d ≤ R.locals) ∧ cells ≤ R.cells ∧ slots ≤ R.slots
def KQ (w : GW) (r : Option Value) (sg : Sg) (tu : Int64) : Array Value → State → Outcome → State → Prop := fun _ st oc t => oc = .returned r ∧ Hp w sg tu t.heap ∧ va_F (gA w) st t
def Ends (z : GZ) (w : GW) (ret : Option FieldType) (r : Option Value) (sg : Sg) (tu : Int64) : Prop := match z with
  | (_, _, _, _, s, _, args, below, meth, _, cells, slots, Q) => meth.sig.returnType = ret ∧ meth.locks = false ∧ Q = MQ below (KQ w r sg tu) args s cells slots (gA w)
def rmD (d : Nat) : Room := { frames := d, cells := 0, slots := 0, locals := 32 * d }
def kPc (w : GW) (as : List Value) (sg : Sg) (tu : Int64) : Array Value → State → Prop := va_Pc as (fun U => Hp w sg tu U.heap ∧ KK w U)
/-- a method's contract: with these arguments, from this heap, it answers r and leaves that heap -/
def Kt (w : GW) (y : MethodName) (cc : ByteArray) (n : Nat) (ret : Option FieldType) (d : Nat) (as : List Value) (sg : Sg) (tu : Int64) (r : Option Value) (sg' : Sg) (tu' : Int64) : Prop := Met (gl w) y (.code y cc n ret :: TG) (rmD d) (kPc w as sg tu) (KQ w r sg' tu') 0 0 (gA w)
set_option maxHeartbeats 4000000 in
theorem Kt.of {w : GW} {y : MethodName} {cc : ByteArray} {n : Nat} {ret : Option FieldType} {d : Nat} {as : List Value} {sg : Sg} {tu : Int64} {r : Option Value} {sg' : Sg} {tu' : Int64} {L0 : List (Nat × Value)} (hn : plainName y.cls = true) (hL : lv_args 0 as = L0) (hlen : (lg_sl as).length ≤ n) (body : ∀ z, Cx z w cc n y.cls d → Ends z w ret r sg' tu' → G z w n sg tu 0 L0 []) : Kt w y cc n ret d as sg tu r sg' tu' := by
  refine Met.ofW (cc := cc) (maxL := n) (ret := ret) hn rfl ?_
  intro p e s m args below meth c s₁ B hml hv
  obtain ⟨rfl, hH, hK⟩ := hv
  have hts := atoms_spec (ws := .code y cc n ret :: TG) B.pre
  have hown : s.vm.findClass y.cls = some m.cls := findClass_of_methodNamed B.named
  have h := body (p, gl w, e, rmD d, s, m, as.toArray, below, meth, c, 0, 0, MQ below (KQ w r sg' tu') as.toArray s 0 0 (gA w)) ⟨rfl, B.exec, B.bytes, hml, hown, fun x hx => hts x (List.mem_cons_of_mem _ hx), hK, ⟨Nat.le_refl _, Nat.le_refl _⟩, Nat.zero_le _, Nat.zero_le _⟩ ⟨B.returns, B.notSynchronized, rfl⟩
  rw [lg_entry_eq]
  exact h s.heap _ [] hH va_S.rf (by rw [← hL]; exact lv_entry as hlen)
def Mt (y : MethodName) (bc : ByteArray) (n : Nat) (ret : Option FieldType) (np : Nat) : Prop := Cond.code y bc n ret ∈ TG ∧ Cond.initialized y.cls ∈ TG ∧ (y.cls ≠ "java/lang/invoke/MethodHandle" ∧ y.cls ≠ "java/lang/invoke/VarHandle" ∧ (parseMethodDescriptor y.desc).map (fun d => d.parameters.length) = some np) ∧ n ≤ 13
theorem kPc_blind {w : GW} {as : List Value} {sg : Sg} {tu : Int64} : FrameBlind (kPc w as sg tu) := fun a U g mk q => ⟨q.1, q.2.1, KK.same (u := U) (U := U.calling g mk a) rfl q.2.2⟩
theorem mt_good {y : MethodName} {bc : ByteArray} {n np : Nat} {ret : Option FieldType} (hm : Mt y bc n ret np) : GoodIn TG (.code y bc n ret :: TG) := fun x h => (List.mem_cons.mp h).elim (fun q => by rw [q]; exact TG_good _ hm.1) (TG_good x)
section GC
variable {z : GZ} {w : GW} {cc : ByteArray} {nL : Nat} {own : String} {d : Nat} {sg : Sg} {tu : Int64} {pc : Nat} {L : List (Nat × Value)} {rest : List Value}
variable {y : MethodName} {bc : ByteArray} {n np d' idx : Nat} {ret : Option FieldType} {As : List Value} {r : Option Value} {sg' : Sg} {tu' : Int64}
theorem g_run {p : Program} {l : Launch} {e : Env} {R : Room} {s : State} {m : MethodId} {args : Array Value} {below : List Frame} {meth : Method} {c : Code} {cells slots : Nat} {Q : State → Prop} {st0 : List Value} {a : Array Value}
    (hr : ∀ (H : Heap) (ls : Array Slot) (locs : List Loc), Hp w sg tu H → va_S (gA w) s.heap H locs → lv_has ls nL L → va_Run p l e R s m args below meth c H locs cells slots 0 0 (F0 m pc ls st0) rest (KQ w r sg' tu' a) (gA w))
    (k : G (p, l, e, R, s, m, args, below, meth, c, cells, slots, Q) w nL sg' tu' (pc + 3) L (r.toList ++ rest)) : G (p, l, e, R, s, m, args, below, meth, c, cells, slots, Q) w nL sg tu pc L st0 := by
  intro H ls locs hH hS hl T hT X
  obtain ⟨v, st₀, t, T', Lc, h0, X', hL, e1, e2, ⟨hv, hH', hz, hk⟩, st⟩ := hr H ls locs hH hS hl T hT X
  cases hv
  rw [h0] at hz hk
  obtain ⟨t2, a1, b1⟩ := k T'.heap ls (locs ++ Lc) (by rw [e1]; exact hH') ⟨Nat.le_trans hS.1 (by rw [e1]; exact hz), fun q h1 h2 => by rw [e1, hk q (Nat.lt_of_lt_of_le h1 hS.1) h2]; exact hS.2.1 q h1 h2, fun q hq => by
      rcases List.mem_append.mp hq with h | h
      · exact hS.2.2 q h
      · exact hL q h⟩ hl T' rfl X'
  exact ⟨t2, st t2 a1, b1⟩
theorem g_callS (C : Cx z w cc nL own d) (hM : Kt w y bc n ret d' As sg tu r sg' tu') (hm : Mt y bc n ret np) (hlink : Cond.methodLink own idx y ∈ TG) (hst : Cond.static y ∈ TG) (hd : d' + 1 ≤ d) (hn : As.length = np) (hrest : (rest.map fun v => v.category).sum ≤ 8) (hdg : decode cc pc = .ok (.invokestatic idx, 3))
    (k : G z w nL sg' tu' (pc + 3) L (r.toList ++ rest)) : G z w nL sg tu pc L (As.reverse ++ rest) := by
  obtain ⟨p, l, e, R, s, m, args, below, meth, c, cells, slots, Q⟩ := z
  obtain ⟨rfl, hx, hb, hml, hown, hts, hK, hR, hc, hs⟩ := C
  refine g_run (a := As.toArray) (fun H ls locs hH hS hl => ?_) k
  exact va_runS (Ts := TG) (own := own) (nL := nL) ⟨hx, hb, hml, hown, hts⟩ hM ⟨callB_of np hts (mt_good hm) rfl rfl rfl (hts _ hm.2.1) (hts _ hlink) hm.2.2.1 ⟨by show d' + 1 ≤ _; omega, by have := hm.2.2.2; show 8 + (n + 11) + 32 * d' ≤ _; omega⟩, hts _ hst⟩ ⟨kPc_blind, fun U hU hW => ⟨rfl, by rw [hU]; exact hH, hK.warm hW⟩⟩ rfl hn hl.1 rfl (lv_room hrest) hdg ⟨hc, hs⟩
theorem g_callSN (C : Cx z w cc nL own d) (hM : Kt w y bc n ret d' As sg tu r sg' tu') (hm : Mt y bc n ret np) {host : String} (hlink : (own, idx, y, host) ∈ TN) (hst : Cond.static y ∈ TG) (hd : d' + 1 ≤ d) (hn : As.length = np) (hrest : (rest.map fun v => v.category).sum ≤ 8) (hdg : decode cc pc = .ok (.invokestatic idx, 3))
    (k : G z w nL sg' tu' (pc + 3) L (r.toList ++ rest)) : G z w nL sg tu pc L (As.reverse ++ rest) := by
  obtain ⟨p, l, e, R, s, m, args, below, meth, c, cells, slots, Q⟩ := z
  obtain ⟨rfl, hx, hb, hml, hown, hts, hK, hR, hc, hs⟩ := C
  refine g_run (a := As.toArray) (fun H ls locs hH hS hl => ?_) k
  exact va_runSN (Ts := TG) (own := own) (nL := nL) (host := host) ⟨hx, hb, hml, hown, hts⟩ hM ⟨va_cnB np hts (mt_good hm) rfl rfl rfl (hK.2.1 _ hlink) (hts _ hm.2.1) hm.2.2.1 ⟨by show d' + 1 ≤ _; omega, by have := hm.2.2.2; show 8 + (n + 11) + 32 * d' ≤ _; omega⟩, hts _ hst, trivial⟩ ⟨kPc_blind, fun U hU hW => ⟨rfl, by rw [hU]; exact hH, hK.warm hW⟩⟩ rfl hn hl.1 rfl (lv_room hrest) hdg ⟨hc, hs⟩
theorem g_callV (C : Cx z w cc nL own d) {q ci N : Nat} {fs : List (Nat × Nat)} {T : u_T} (hM : Kt w y bc n ret d' (.ref (ad w q) :: As) sg tu r sg' tu') (hm : Mt y bc n ret np) (hq : shapes[q]? = some (.inr (ci, fs))) (hci : vwCl[ci]? = some (y.cls, T, N)) (hlink : Cond.methodLink own idx y ∈ TG) (hin : Cond.instanceMethod y ∈ TG) (hse : Cond.selects y.cls y y ∈ TG) (hd : d' + 1 ≤ d) (hn : As.length = np) (hrest : (rest.map fun v => v.category).sum ≤ 8) (hdg : decode cc pc = .ok (.invokevirtual idx, 3))
    (k : G z w nL sg' tu' (pc + 3) L (r.toList ++ rest)) : G z w nL sg tu pc L (As.reverse ++ .ref (ad w q) :: rest) := by
  obtain ⟨p, l, e, R, s, m, args, below, meth, c, cells, slots, Q⟩ := z
  obtain ⟨rfl, hx, hb, hml, hown, hts, hK, hR, hc, hs⟩ := C
  refine g_run (a := (Value.ref (ad w q) :: As).toArray) (fun H ls locs hH hS hl => ?_) k
  exact va_runV (Ts := TG) (own := own) (nL := nL) (C := y.cls) ⟨hx, hb, hml, hown, hts⟩ hM ⟨callB_of np hts (mt_good hm) rfl rfl rfl (hts _ hm.2.1) (hts _ hlink) hm.2.2.1 ⟨by show d' + 1 ≤ _; omega, by have := hm.2.2.2; show 8 + (n + 11) + 32 * d' ≤ _; omega⟩, hts _ hin, hts _ hse⟩ ⟨kPc_blind, va_recv hK.1 hH hci (wl_get hq), fun U hU hW => ⟨rfl, by rw [hU]; exact hH, hK.warm hW⟩⟩ rfl hn hl.1 rfl (lv_room hrest) hdg ⟨hc, hs⟩
end GC
section GR
variable {z : GZ} {w : GW} {cc : ByteArray} {nL : Nat} {own : String} {d : Nat} {sg : Sg} {tu : Int64} {pc : Nat} {L : List (Nat × Value)} {S : List Value}
theorem g_sq {sg' : Sg} (h : Sq sg sg') (k : G z w nL sg' tu pc L S) : G z w nL sg tu pc L S := by
  obtain ⟨p, l, e, R, s, m, args, below, meth, c, cells, slots, Q⟩ := z
  exact fun H ls locs hH hS hl => k H ls locs (Hp.sq h hH) hS hl
theorem g_sub {L' : List (Nat × Value)} (ks : List Nat) (h : lv_pick L ks = L') (k : G z w nL sg tu pc L' S) : G z w nL sg tu pc L S := by
  obtain ⟨p, l, e, R, s, m, args, below, meth, c, cells, slots, Q⟩ := z
  exact fun H ls locs hH hS hl => k H ls locs hH hS (lv_sub hl ks h)
theorem g_top {x y : Int32} (h : x = y) (k : G z w nL sg tu pc L (.int y :: S)) : G z w nL sg tu pc L (.int x :: S) := by rw [h]; exact k
theorem g_topl {x y : Int64} (h : x = y) (k : G z w nL sg tu pc L (.long y :: S)) : G z w nL sg tu pc L (.long x :: S) := by rw [h]; exact k
theorem g_iret (C : Cx z w cc nL own d) {r : Int32} {sg' : Sg} {tu' : Int64} (E : Ends z w (some .int) (some (.int r)) sg' tu') {v : Int32} (hdg : decode cc pc = .ok (.ireturn, 1)) (hv : v = r) (hs : Sq sg sg') (ht : tu = tu') : G z w nL sg tu pc L [.int v] := by
  obtain ⟨p, l, e, R, s, m, args, below, meth, c, cells, slots, Q⟩ := z
  obtain ⟨-, hx, hb, -⟩ := C
  obtain ⟨hr, hlocks, rfl⟩ := E
  subst hv; subst ht
  exact fun H ls locs hH hS hl => W.iret hx hb hr (fun t ht hW => ⟨rfl, by rw [ht]; exact Hp.sq hs hH, hS.F ht⟩) hS.2.2 hdg hlocks
theorem g_zret (C : Cx z w cc nL own d) {r : Int32} {sg' : Sg} {tu' : Int64} (E : Ends z w (some .boolean) (some (.int r)) sg' tu') {v : Int32} (hdg : decode cc pc = .ok (.ireturn, 1)) (hn : narrow .boolean (.int v) = .int v) (hv : v = r) (hs : Sq sg sg') (ht : tu = tu') : G z w nL sg tu pc L [.int v] := by
  obtain ⟨p, l, e, R, s, m, args, below, meth, c, cells, slots, Q⟩ := z
  obtain ⟨-, hx, hb, -⟩ := C
  obtain ⟨hr, hlocks, rfl⟩ := E
  subst hv; subst ht
  exact fun H ls locs hH hS hl => W.zret hx hb hr hn (fun t ht hW => ⟨rfl, by rw [ht]; exact Hp.sq hs hH, hS.F ht⟩) hS.2.2 hdg hlocks
theorem g_lret (C : Cx z w cc nL own d) {r : Int64} {sg' : Sg} {tu' : Int64} (E : Ends z w (some .long) (some (.long r)) sg' tu') {v : Int64} (hdg : decode cc pc = .ok (.lreturn, 1)) (hv : v = r) (hs : Sq sg sg') (ht : tu = tu') : G z w nL sg tu pc L [.long v] := by
  obtain ⟨p, l, e, R, s, m, args, below, meth, c, cells, slots, Q⟩ := z
  obtain ⟨-, hx, hb, -⟩ := C
  obtain ⟨hr, hlocks, rfl⟩ := E
  subst hv; subst ht
  exact fun H ls locs hH hS hl => W.lret hx hb hr (fun t ht hW => ⟨rfl, by rw [ht]; exact Hp.sq hs hH, hS.F ht⟩) hS.2.2 hdg hlocks
theorem g_vret (C : Cx z w cc nL own d) {sg' : Sg} {tu' : Int64} (E : Ends z w none none sg' tu') (hdg : decode cc pc = .ok (.return_, 1)) (hs : Sq sg sg') (ht : tu = tu') : G z w nL sg tu pc L [] := by
  obtain ⟨p, l, e, R, s, m, args, below, meth, c, cells, slots, Q⟩ := z
  obtain ⟨-, hx, hb, -⟩ := C
  obtain ⟨hr, hlocks, rfl⟩ := E
  subst ht
  exact fun H ls locs hH hS hl => W.vret hx hb hr (fun t ht hW => ⟨rfl, by rw [ht]; exact Hp.sq hs hH, hS.F ht⟩) hS.2.2 hdg hlocks
theorem g_iconst (C : Cx z w cc nL own d) {n : Int} {v : Int32} (hv : Int32.ofInt n = v) (hdg : decode cc pc = .ok (.iconst n, 1))
    (k : G z w nL sg tu (pc + 1) L (.int v :: S)) : G z w nL sg tu pc L (S) := by
  obtain ⟨p, l, e, R, s, m, args, below, meth, c, cells, slots, Q⟩ := z
  obtain ⟨-, hx, hb, -⟩ := C
  exact fun H ls locs hH hS hl => lv_iconst hx hb hdg hv (k H ls locs hH hS hl)
theorem g_bipush (C : Cx z w cc nL own d) {n : Int} {v : Int32} (hv : (Int8.ofInt n).toInt32 = v) (hdg : decode cc pc = .ok (.bipush n, 2))
    (k : G z w nL sg tu (pc + 2) L (.int v :: S)) : G z w nL sg tu pc L (S) := by
  obtain ⟨p, l, e, R, s, m, args, below, meth, c, cells, slots, Q⟩ := z
  obtain ⟨-, hx, hb, -⟩ := C
  exact fun H ls locs hH hS hl => lv_bipush hx hb hdg hv (k H ls locs hH hS hl)
theorem g_sipush (C : Cx z w cc nL own d) {n : Int} {v : Int32} (hv : (Int16.ofInt n).toInt32 = v) (hdg : decode cc pc = .ok (.sipush n, 3))
    (k : G z w nL sg tu (pc + 3) L (.int v :: S)) : G z w nL sg tu pc L (S) := by
  obtain ⟨p, l, e, R, s, m, args, below, meth, c, cells, slots, Q⟩ := z
  obtain ⟨-, hx, hb, -⟩ := C
  exact fun H ls locs hH hS hl => lv_sipush hx hb hdg hv (k H ls locs hH hS hl)
theorem g_lconst (C : Cx z w cc nL own d) {n : Fin 2} {v : Int64} (hv : Int64.ofNat (n : Nat) = v) (hdg : decode cc pc = .ok (.lconst n, 1))
    (k : G z w nL sg tu (pc + 1) L (.long v :: S)) : G z w nL sg tu pc L (S) := by
  obtain ⟨p, l, e, R, s, m, args, below, meth, c, cells, slots, Q⟩ := z
  obtain ⟨-, hx, hb, -⟩ := C
  exact fun H ls locs hH hS hl => lv_lconst hx hb hdg hv (k H ls locs hH hS hl)
theorem g_iload_n (C : Cx z w cc nL own d) {k0 : Fin 4} {i : Nat} {x : Int32} (q : Nat) (hi : (k0 : Nat) = i) (hq : L[q]? = some (i, .int x)) (hdg : decode cc pc = .ok (.iload_n k0, 1))
    (k : G z w nL sg tu (pc + 1) L (.int x :: S)) : G z w nL sg tu pc L (S) := by
  obtain ⟨p, l, e, R, s, m, args, below, meth, c, cells, slots, Q⟩ := z
  obtain ⟨-, hx, hb, -⟩ := C
  exact fun H ls locs hH hS hl => lv_iload_n hx hb hdg hi (lv_at hl q hq) (k H ls locs hH hS hl)
theorem g_iload (C : Cx z w cc nL own d) {i : Nat} {x : Int32} (q : Nat) (hq : L[q]? = some (i, .int x)) (hdg : decode cc pc = .ok (.iload i, 2))
    (k : G z w nL sg tu (pc + 2) L (.int x :: S)) : G z w nL sg tu pc L (S) := by
  obtain ⟨p, l, e, R, s, m, args, below, meth, c, cells, slots, Q⟩ := z
  obtain ⟨-, hx, hb, -⟩ := C
  exact fun H ls locs hH hS hl => lv_iload hx hb hdg (lv_at hl q hq) (k H ls locs hH hS hl)
theorem g_lload_n (C : Cx z w cc nL own d) {k0 : Fin 4} {i : Nat} {x : Int64} (q : Nat) (hi : (k0 : Nat) = i) (hq : L[q]? = some (i, .long x)) (hdg : decode cc pc = .ok (.lload_n k0, 1))
    (k : G z w nL sg tu (pc + 1) L (.long x :: S)) : G z w nL sg tu pc L (S) := by
  obtain ⟨p, l, e, R, s, m, args, below, meth, c, cells, slots, Q⟩ := z
  obtain ⟨-, hx, hb, -⟩ := C
  exact fun H ls locs hH hS hl => lv_lload_n hx hb hdg hi (lv_at hl q hq) (k H ls locs hH hS hl)
theorem g_lload (C : Cx z w cc nL own d) {i : Nat} {x : Int64} (q : Nat) (hq : L[q]? = some (i, .long x)) (hdg : decode cc pc = .ok (.lload i, 2))
    (k : G z w nL sg tu (pc + 2) L (.long x :: S)) : G z w nL sg tu pc L (S) := by
  obtain ⟨p, l, e, R, s, m, args, below, meth, c, cells, slots, Q⟩ := z
  obtain ⟨-, hx, hb, -⟩ := C
  exact fun H ls locs hH hS hl => lv_lload hx hb hdg (lv_at hl q hq) (k H ls locs hH hS hl)
theorem g_aload_n (C : Cx z w cc nL own d) {k0 : Fin 4} {i : Nat} {x : Nat} (q : Nat) (hi : (k0 : Nat) = i) (hq : L[q]? = some (i, .ref x)) (hdg : decode cc pc = .ok (.aload_n k0, 1))
    (k : G z w nL sg tu (pc + 1) L (.ref x :: S)) : G z w nL sg tu pc L (S) := by
  obtain ⟨p, l, e, R, s, m, args, below, meth, c, cells, slots, Q⟩ := z
  obtain ⟨-, hx, hb, -⟩ := C
  exact fun H ls locs hH hS hl => lv_aload_n hx hb hdg hi (lv_at hl q hq) (k H ls locs hH hS hl)
theorem g_aload (C : Cx z w cc nL own d) {i : Nat} {x : Nat} (q : Nat) (hq : L[q]? = some (i, .ref x)) (hdg : decode cc pc = .ok (.aload i, 2))
    (k : G z w nL sg tu (pc + 2) L (.ref x :: S)) : G z w nL sg tu pc L (S) := by
  obtain ⟨p, l, e, R, s, m, args, below, meth, c, cells, slots, Q⟩ := z
  obtain ⟨-, hx, hb, -⟩ := C
  exact fun H ls locs hH hS hl => lv_aload hx hb hdg (lv_at hl q hq) (k H ls locs hH hS hl)
theorem g_istore_n (C : Cx z w cc nL own d) {k0 : Fin 4} {i : Nat} {x : Int32} {L' : List (Nat × Value)} (hi : (k0 : Nat) = i) (hn : i < nL) (hL : (i, Value.int x) :: L.filter (fun q => !(q.1 == i) && !(q.1 + 1 == i && q.2.category == 2)) = L') (hdg : decode cc pc = .ok (.istore_n k0, 1))
    (k : G z w nL sg tu (pc + 1) L' (S)) : G z w nL sg tu pc L (.int x :: S) := by
  obtain ⟨p, l, e, R, s, m, args, below, meth, c, cells, slots, Q⟩ := z
  obtain ⟨-, hx, hb, -⟩ := C
  exact fun H ls locs hH hS hl => lv_istore_n hx hb hdg hi hl hn hL (fun ls hl => k H ls locs hH hS hl)
theorem g_istore (C : Cx z w cc nL own d) {i : Nat} {x : Int32} {L' : List (Nat × Value)} (hn : i < nL) (hL : (i, Value.int x) :: L.filter (fun q => !(q.1 == i) && !(q.1 + 1 == i && q.2.category == 2)) = L') (hdg : decode cc pc = .ok (.istore i, 2))
    (k : G z w nL sg tu (pc + 2) L' (S)) : G z w nL sg tu pc L (.int x :: S) := by
  obtain ⟨p, l, e, R, s, m, args, below, meth, c, cells, slots, Q⟩ := z
  obtain ⟨-, hx, hb, -⟩ := C
  exact fun H ls locs hH hS hl => lv_istore hx hb hdg hl hn hL (fun ls hl => k H ls locs hH hS hl)
theorem g_lstore_n (C : Cx z w cc nL own d) {k0 : Fin 4} {i : Nat} {x : Int64} {L' : List (Nat × Value)} (hi : (k0 : Nat) = i) (hn : i + 1 < nL) (hL : (i, Value.long x) :: L.filter (fun q => !(q.1 == i) && (!(q.1 == i + 1) && !(q.1 + 1 == i && q.2.category == 2))) = L') (hdg : decode cc pc = .ok (.lstore_n k0, 1))
    (k : G z w nL sg tu (pc + 1) L' (S)) : G z w nL sg tu pc L (.long x :: S) := by
  obtain ⟨p, l, e, R, s, m, args, below, meth, c, cells, slots, Q⟩ := z
  obtain ⟨-, hx, hb, -⟩ := C
  exact fun H ls locs hH hS hl => lv_lstore_n hx hb hdg hi hl hn hL (fun ls hl => k H ls locs hH hS hl)
theorem g_lstore (C : Cx z w cc nL own d) {i : Nat} {x : Int64} {L' : List (Nat × Value)} (hn : i + 1 < nL) (hL : (i, Value.long x) :: L.filter (fun q => !(q.1 == i) && (!(q.1 == i + 1) && !(q.1 + 1 == i && q.2.category == 2))) = L') (hdg : decode cc pc = .ok (.lstore i, 2))
    (k : G z w nL sg tu (pc + 2) L' (S)) : G z w nL sg tu pc L (.long x :: S) := by
  obtain ⟨p, l, e, R, s, m, args, below, meth, c, cells, slots, Q⟩ := z
  obtain ⟨-, hx, hb, -⟩ := C
  exact fun H ls locs hH hS hl => lv_lstore hx hb hdg hl hn hL (fun ls hl => k H ls locs hH hS hl)
theorem g_astore_n (C : Cx z w cc nL own d) {k0 : Fin 4} {i : Nat} {x : Nat} {L' : List (Nat × Value)} (hi : (k0 : Nat) = i) (hn : i < nL) (hL : (i, Value.ref x) :: L.filter (fun q => !(q.1 == i) && !(q.1 + 1 == i && q.2.category == 2)) = L') (hdg : decode cc pc = .ok (.astore_n k0, 1))
    (k : G z w nL sg tu (pc + 1) L' (S)) : G z w nL sg tu pc L (.ref x :: S) := by
  obtain ⟨p, l, e, R, s, m, args, below, meth, c, cells, slots, Q⟩ := z
  obtain ⟨-, hx, hb, -⟩ := C
  exact fun H ls locs hH hS hl => lv_astore_n hx hb hdg hi hl hn hL (fun ls hl => k H ls locs hH hS hl)
theorem g_astore (C : Cx z w cc nL own d) {i : Nat} {x : Nat} {L' : List (Nat × Value)} (hn : i < nL) (hL : (i, Value.ref x) :: L.filter (fun q => !(q.1 == i) && !(q.1 + 1 == i && q.2.category == 2)) = L') (hdg : decode cc pc = .ok (.astore i, 2))
    (k : G z w nL sg tu (pc + 2) L' (S)) : G z w nL sg tu pc L (.ref x :: S) := by
  obtain ⟨p, l, e, R, s, m, args, below, meth, c, cells, slots, Q⟩ := z
  obtain ⟨-, hx, hb, -⟩ := C
  exact fun H ls locs hH hS hl => lv_astore hx hb hdg hl hn hL (fun ls hl => k H ls locs hH hS hl)
theorem g_iinc (C : Cx z w cc nL own d) {i : Nat} {n : Int} {x v : Int32} {L' : List (Nat × Value)} (q : Nat) (hq : L[q]? = some (i, .int x)) (hv : x + Int32.ofInt n = v) (hn : i < nL) (hL : (i, Value.int v) :: L.filter (fun q => !(q.1 == i) && !(q.1 + 1 == i && q.2.category == 2)) = L') (hdg : decode cc pc = .ok (.iinc i n, 3))
    (k : G z w nL sg tu (pc + 3) L' (S)) : G z w nL sg tu pc L (S) := by
  obtain ⟨p, l, e, R, s, m, args, below, meth, c, cells, slots, Q⟩ := z
  obtain ⟨-, hx, hb, -⟩ := C
  exact fun H ls locs hH hS hl => lv_iinc hx hb hdg hl hq hv hn hL (fun ls hl => k H ls locs hH hS hl)
theorem g_iadd (C : Cx z w cc nL own d) {x y : Int32} (hdg : decode cc pc = .ok (.iadd, 1))
    (k : G z w nL sg tu (pc + 1) L (.int (x + y) :: S)) : G z w nL sg tu pc L (.int y :: .int x :: S) := by
  obtain ⟨p, l, e, R, s, m, args, below, meth, c, cells, slots, Q⟩ := z
  obtain ⟨-, hx, hb, -⟩ := C
  exact fun H ls locs hH hS hl => lv_iadd hx hb hdg (k H ls locs hH hS hl)
theorem g_isub (C : Cx z w cc nL own d) {x y : Int32} (hdg : decode cc pc = .ok (.isub, 1))
    (k : G z w nL sg tu (pc + 1) L (.int (x - y) :: S)) : G z w nL sg tu pc L (.int y :: .int x :: S) := by
  obtain ⟨p, l, e, R, s, m, args, below, meth, c, cells, slots, Q⟩ := z
  obtain ⟨-, hx, hb, -⟩ := C
  exact fun H ls locs hH hS hl => lv_isub hx hb hdg (k H ls locs hH hS hl)
theorem g_imul (C : Cx z w cc nL own d) {x y : Int32} (hdg : decode cc pc = .ok (.imul, 1))
    (k : G z w nL sg tu (pc + 1) L (.int (x * y) :: S)) : G z w nL sg tu pc L (.int y :: .int x :: S) := by
  obtain ⟨p, l, e, R, s, m, args, below, meth, c, cells, slots, Q⟩ := z
  obtain ⟨-, hx, hb, -⟩ := C
  exact fun H ls locs hH hS hl => lv_imul hx hb hdg (k H ls locs hH hS hl)
theorem g_iand (C : Cx z w cc nL own d) {x y : Int32} (hdg : decode cc pc = .ok (.iand, 1))
    (k : G z w nL sg tu (pc + 1) L (.int (x &&& y) :: S)) : G z w nL sg tu pc L (.int y :: .int x :: S) := by
  obtain ⟨p, l, e, R, s, m, args, below, meth, c, cells, slots, Q⟩ := z
  obtain ⟨-, hx, hb, -⟩ := C
  exact fun H ls locs hH hS hl => lv_iand hx hb hdg (k H ls locs hH hS hl)
theorem g_ior (C : Cx z w cc nL own d) {x y : Int32} (hdg : decode cc pc = .ok (.ior, 1))
    (k : G z w nL sg tu (pc + 1) L (.int (x ||| y) :: S)) : G z w nL sg tu pc L (.int y :: .int x :: S) := by
  obtain ⟨p, l, e, R, s, m, args, below, meth, c, cells, slots, Q⟩ := z
  obtain ⟨-, hx, hb, -⟩ := C
  exact fun H ls locs hH hS hl => lv_ior hx hb hdg (k H ls locs hH hS hl)
theorem g_ixor (C : Cx z w cc nL own d) {x y : Int32} (hdg : decode cc pc = .ok (.ixor, 1))
    (k : G z w nL sg tu (pc + 1) L (.int (x ^^^ y) :: S)) : G z w nL sg tu pc L (.int y :: .int x :: S) := by
  obtain ⟨p, l, e, R, s, m, args, below, meth, c, cells, slots, Q⟩ := z
  obtain ⟨-, hx, hb, -⟩ := C
  exact fun H ls locs hH hS hl => lv_ixor hx hb hdg (k H ls locs hH hS hl)
theorem g_idiv (C : Cx z w cc nL own d) {x y : Int32} (hne : ¬ y = 0) (hdg : decode cc pc = .ok (.idiv, 1))
    (k : G z w nL sg tu (pc + 1) L (.int (x / y) :: S)) : G z w nL sg tu pc L (.int y :: .int x :: S) := by
  obtain ⟨p, l, e, R, s, m, args, below, meth, c, cells, slots, Q⟩ := z
  obtain ⟨-, hx, hb, -⟩ := C
  exact fun H ls locs hH hS hl => lv_idiv hx hb hdg hne (k H ls locs hH hS hl)
theorem g_irem (C : Cx z w cc nL own d) {x y : Int32} (hne : ¬ y = 0) (hdg : decode cc pc = .ok (.irem, 1))
    (k : G z w nL sg tu (pc + 1) L (.int (x - x / y * y) :: S)) : G z w nL sg tu pc L (.int y :: .int x :: S) := by
  obtain ⟨p, l, e, R, s, m, args, below, meth, c, cells, slots, Q⟩ := z
  obtain ⟨-, hx, hb, -⟩ := C
  exact fun H ls locs hH hS hl => lv_irem hx hb hdg hne (k H ls locs hH hS hl)
theorem g_ineg (C : Cx z w cc nL own d) {x : Int32} (hdg : decode cc pc = .ok (.ineg, 1))
    (k : G z w nL sg tu (pc + 1) L (.int (-x) :: S)) : G z w nL sg tu pc L (.int x :: S) := by
  obtain ⟨p, l, e, R, s, m, args, below, meth, c, cells, slots, Q⟩ := z
  obtain ⟨-, hx, hb, -⟩ := C
  exact fun H ls locs hH hS hl => lv_ineg hx hb hdg (k H ls locs hH hS hl)
theorem g_ladd (C : Cx z w cc nL own d) {x y : Int64} (hdg : decode cc pc = .ok (.ladd, 1))
    (k : G z w nL sg tu (pc + 1) L (.long (x + y) :: S)) : G z w nL sg tu pc L (.long y :: .long x :: S) := by
  obtain ⟨p, l, e, R, s, m, args, below, meth, c, cells, slots, Q⟩ := z
  obtain ⟨-, hx, hb, -⟩ := C
  exact fun H ls locs hH hS hl => lv_ladd hx hb hdg (k H ls locs hH hS hl)
theorem g_lsub (C : Cx z w cc nL own d) {x y : Int64} (hdg : decode cc pc = .ok (.lsub, 1))
    (k : G z w nL sg tu (pc + 1) L (.long (x - y) :: S)) : G z w nL sg tu pc L (.long y :: .long x :: S) := by
  obtain ⟨p, l, e, R, s, m, args, below, meth, c, cells, slots, Q⟩ := z
  obtain ⟨-, hx, hb, -⟩ := C
  exact fun H ls locs hH hS hl => lv_lsub hx hb hdg (k H ls locs hH hS hl)
theorem g_lmul (C : Cx z w cc nL own d) {x y : Int64} (hdg : decode cc pc = .ok (.lmul, 1))
    (k : G z w nL sg tu (pc + 1) L (.long (x * y) :: S)) : G z w nL sg tu pc L (.long y :: .long x :: S) := by
  obtain ⟨p, l, e, R, s, m, args, below, meth, c, cells, slots, Q⟩ := z
  obtain ⟨-, hx, hb, -⟩ := C
  exact fun H ls locs hH hS hl => lv_lmul hx hb hdg (k H ls locs hH hS hl)
theorem g_land (C : Cx z w cc nL own d) {x y : Int64} (hdg : decode cc pc = .ok (.land, 1))
    (k : G z w nL sg tu (pc + 1) L (.long (x &&& y) :: S)) : G z w nL sg tu pc L (.long y :: .long x :: S) := by
  obtain ⟨p, l, e, R, s, m, args, below, meth, c, cells, slots, Q⟩ := z
  obtain ⟨-, hx, hb, -⟩ := C
  exact fun H ls locs hH hS hl => lv_land hx hb hdg (k H ls locs hH hS hl)
theorem g_lor (C : Cx z w cc nL own d) {x y : Int64} (hdg : decode cc pc = .ok (.lor, 1))
    (k : G z w nL sg tu (pc + 1) L (.long (x ||| y) :: S)) : G z w nL sg tu pc L (.long y :: .long x :: S) := by
  obtain ⟨p, l, e, R, s, m, args, below, meth, c, cells, slots, Q⟩ := z
  obtain ⟨-, hx, hb, -⟩ := C
  exact fun H ls locs hH hS hl => lv_lor hx hb hdg (k H ls locs hH hS hl)
theorem g_ldiv (C : Cx z w cc nL own d) {x y : Int64} (hne : ¬ y = 0) (hdg : decode cc pc = .ok (.ldiv, 1))
    (k : G z w nL sg tu (pc + 1) L (.long (x / y) :: S)) : G z w nL sg tu pc L (.long y :: .long x :: S) := by
  obtain ⟨p, l, e, R, s, m, args, below, meth, c, cells, slots, Q⟩ := z
  obtain ⟨-, hx, hb, -⟩ := C
  exact fun H ls locs hH hS hl => lv_ldiv hx hb hdg hne (k H ls locs hH hS hl)
theorem g_lrem (C : Cx z w cc nL own d) {x y : Int64} (hne : ¬ y = 0) (hdg : decode cc pc = .ok (.lrem, 1))
    (k : G z w nL sg tu (pc + 1) L (.long (x - x / y * y) :: S)) : G z w nL sg tu pc L (.long y :: .long x :: S) := by
  obtain ⟨p, l, e, R, s, m, args, below, meth, c, cells, slots, Q⟩ := z
  obtain ⟨-, hx, hb, -⟩ := C
  exact fun H ls locs hH hS hl => lv_lrem hx hb hdg hne (k H ls locs hH hS hl)
theorem g_ishl (C : Cx z w cc nL own d) {x y : Int32} (hdg : decode cc pc = .ok (.ishl, 1))
    (k : G z w nL sg tu (pc + 1) L (.int (x <<< (y &&& 31)) :: S)) : G z w nL sg tu pc L (.int y :: .int x :: S) := by
  obtain ⟨p, l, e, R, s, m, args, below, meth, c, cells, slots, Q⟩ := z
  obtain ⟨-, hx, hb, -⟩ := C
  exact fun H ls locs hH hS hl => lv_ishl hx hb hdg (k H ls locs hH hS hl)
theorem g_ishr (C : Cx z w cc nL own d) {x y : Int32} (hdg : decode cc pc = .ok (.ishr, 1))
    (k : G z w nL sg tu (pc + 1) L (.int (x >>> (y &&& 31)) :: S)) : G z w nL sg tu pc L (.int y :: .int x :: S) := by
  obtain ⟨p, l, e, R, s, m, args, below, meth, c, cells, slots, Q⟩ := z
  obtain ⟨-, hx, hb, -⟩ := C
  exact fun H ls locs hH hS hl => lv_ishr hx hb hdg (k H ls locs hH hS hl)
theorem g_iushr (C : Cx z w cc nL own d) {x y : Int32} (hdg : decode cc pc = .ok (.iushr, 1))
    (k : G z w nL sg tu (pc + 1) L (.int ((x.toUInt32 >>> (y.toUInt32 &&& Int32.toUInt32 31)).toInt32) :: S)) : G z w nL sg tu pc L (.int y :: .int x :: S) := by
  obtain ⟨p, l, e, R, s, m, args, below, meth, c, cells, slots, Q⟩ := z
  obtain ⟨-, hx, hb, -⟩ := C
  exact fun H ls locs hH hS hl => lv_iushr hx hb hdg rfl (k H ls locs hH hS hl)
theorem g_i2l (C : Cx z w cc nL own d) {x : Int32} (hdg : decode cc pc = .ok (.i2l, 1))
    (k : G z w nL sg tu (pc + 1) L (.long (x.toInt64) :: S)) : G z w nL sg tu pc L (.int x :: S) := by
  obtain ⟨p, l, e, R, s, m, args, below, meth, c, cells, slots, Q⟩ := z
  obtain ⟨-, hx, hb, -⟩ := C
  exact fun H ls locs hH hS hl => lv_i2l hx hb hdg rfl (k H ls locs hH hS hl)
theorem g_l2i (C : Cx z w cc nL own d) {x : Int64} (hdg : decode cc pc = .ok (.l2i, 1))
    (k : G z w nL sg tu (pc + 1) L (.int (x.toInt32) :: S)) : G z w nL sg tu pc L (.long x :: S) := by
  obtain ⟨p, l, e, R, s, m, args, below, meth, c, cells, slots, Q⟩ := z
  obtain ⟨-, hx, hb, -⟩ := C
  exact fun H ls locs hH hS hl => lv_l2i hx hb hdg rfl (k H ls locs hH hS hl)
theorem g_i2b (C : Cx z w cc nL own d) {x : Int32} (hdg : decode cc pc = .ok (.i2b, 1))
    (k : G z w nL sg tu (pc + 1) L (.int (x.toInt8.toInt32) :: S)) : G z w nL sg tu pc L (.int x :: S) := by
  obtain ⟨p, l, e, R, s, m, args, below, meth, c, cells, slots, Q⟩ := z
  obtain ⟨-, hx, hb, -⟩ := C
  exact fun H ls locs hH hS hl => lv_i2b hx hb hdg rfl (k H ls locs hH hS hl)
theorem g_lshl (C : Cx z w cc nL own d) {x : Int64} {y : Int32} (hdg : decode cc pc = .ok (.lshl, 1))
    (k : G z w nL sg tu (pc + 1) L (.long (x <<< (y.toInt64 &&& 63)) :: S)) : G z w nL sg tu pc L (.int y :: .long x :: S) := by
  obtain ⟨p, l, e, R, s, m, args, below, meth, c, cells, slots, Q⟩ := z
  obtain ⟨-, hx, hb, -⟩ := C
  exact fun H ls locs hH hS hl => lv_lshl hx hb hdg rfl (k H ls locs hH hS hl)
theorem g_lcmp (C : Cx z w cc nL own d) {x y : Int64} (hdg : decode cc pc = .ok (.lcmp, 1))
    (k : G z w nL sg tu (pc + 1) L (.int (lg_cmp x y) :: S)) : G z w nL sg tu pc L (.long y :: .long x :: S) := by
  obtain ⟨p, l, e, R, s, m, args, below, meth, c, cells, slots, Q⟩ := z
  obtain ⟨-, hx, hb, -⟩ := C
  exact fun H ls locs hH hS hl => W.lcmp hx hb hdg (k H ls locs hH hS hl)
theorem g_dup (C : Cx z w cc nL own d) {va : Value} (hva : va.category = 1) (hdg : decode cc pc = .ok (.dup, 1))
    (k : G z w nL sg tu (pc + 1) L (va :: va :: S)) : G z w nL sg tu pc L (va :: S) := by
  obtain ⟨p, l, e, R, s, m, args, below, meth, c, cells, slots, Q⟩ := z
  obtain ⟨-, hx, hb, -⟩ := C
  exact fun H ls locs hH hS hl => lv_dup hx hb hdg hva (k H ls locs hH hS hl)
theorem g_pop (C : Cx z w cc nL own d) {va : Value} (hva : va.category = 1) (hdg : decode cc pc = .ok (.pop, 1))
    (k : G z w nL sg tu (pc + 1) L (S)) : G z w nL sg tu pc L (va :: S) := by
  obtain ⟨p, l, e, R, s, m, args, below, meth, c, cells, slots, Q⟩ := z
  obtain ⟨-, hx, hb, -⟩ := C
  exact fun H ls locs hH hS hl => lv_pop hx hb hdg hva (k H ls locs hH hS hl)
theorem g_dup2 (C : Cx z w cc nL own d) {va vb : Value} (hva : va.category = 1) (hvb : vb.category = 1) (hdg : decode cc pc = .ok (.dup2, 1))
    (k : G z w nL sg tu (pc + 1) L (va :: vb :: va :: vb :: S)) : G z w nL sg tu pc L (va :: vb :: S) := by
  obtain ⟨p, l, e, R, s, m, args, below, meth, c, cells, slots, Q⟩ := z
  obtain ⟨-, hx, hb, -⟩ := C
  exact fun H ls locs hH hS hl => lv_dup2_11 hx hb hdg hva hvb (k H ls locs hH hS hl)
theorem g_ldc2 (C : Cx z w cc nL own d) {idx : Nat} {v : Int64} (hc : Cond.constantLong own idx v ∈ TG) (hdg : decode cc pc = .ok (.ldc2_w idx, 3))
    (k : G z w nL sg tu (pc + 3) L (.long v :: S)) : G z w nL sg tu pc L (S) := by
  obtain ⟨p, l, e, R, s, m, args, below, meth, c, cells, slots, Q⟩ := z
  obtain ⟨-, hx, hb, hml, hown, hts, -⟩ := C
  exact fun H ls locs hH hS hl => lv_ldc2 hx hb hown (hts _ hc) hdg (k H ls locs hH hS hl)
theorem g_ldcw (C : Cx z w cc nL own d) {idx : Nat} {v : Int32} (hc : Cond.constant own idx v ∈ TG) (hdg : decode cc pc = .ok (.ldc_w idx, 3))
    (k : G z w nL sg tu (pc + 3) L (.int v :: S)) : G z w nL sg tu pc L (S) := by
  obtain ⟨p, l, e, R, s, m, args, below, meth, c, cells, slots, Q⟩ := z
  obtain ⟨-, hx, hb, hml, hown, hts, -⟩ := C
  exact fun H ls locs hH hS hl => lv_ldcw hx hb hown (hts _ hc) hdg (k H ls locs hH hS hl)
theorem g_goto (C : Cx z w cc nL own d) {off : Int} {tgt : Nat} (ht : (pc : Int) + off = (tgt : Int)) (hdg : decode cc pc = .ok (.goto off, 3))
    (k : G z w nL sg tu (tgt) L (S)) : G z w nL sg tu pc L (S) := by
  obtain ⟨p, l, e, R, s, m, args, below, meth, c, cells, slots, Q⟩ := z
  obtain ⟨-, hx, hb, -⟩ := C
  exact fun H ls locs hH hS hl => lv_goto hx hb hdg ht (k H ls locs hH hS hl)
theorem g_if_eq (C : Cx z w cc nL own d) {x : Int32} {off : Int} {tgt : Nat} (ht : (pc : Int) + off = (tgt : Int)) (hdg : decode cc pc = .ok (.ifCond .eq off, 3))
    (kt : (x = 0) → G z w nL sg tu tgt L S) (kf : ¬ (x = 0) → G z w nL sg tu (pc + 3) L S) : G z w nL sg tu pc L (.int x :: S) := by
  obtain ⟨p, l, e, R, s, m, args, below, meth, c, cells, slots, Q⟩ := z
  obtain ⟨-, hx, hb, -⟩ := C
  exact fun H ls locs hH hS hl => lv_if_eq hx hb hdg ht (fun q => kt q H ls locs hH hS hl) (fun q => kf q H ls locs hH hS hl)
theorem g_icmp_eq (C : Cx z w cc nL own d) {x y : Int32} {off : Int} {tgt : Nat} (ht : (pc : Int) + off = (tgt : Int)) (hdg : decode cc pc = .ok (.if_icmp .eq off, 3))
    (kt : (x = y) → G z w nL sg tu tgt L S) (kf : ¬ (x = y) → G z w nL sg tu (pc + 3) L S) : G z w nL sg tu pc L (.int y :: .int x :: S) := by
  obtain ⟨p, l, e, R, s, m, args, below, meth, c, cells, slots, Q⟩ := z
  obtain ⟨-, hx, hb, -⟩ := C
  exact fun H ls locs hH hS hl => lv_icmp_eq hx hb hdg ht (fun q => kt q H ls locs hH hS hl) (fun q => kf q H ls locs hH hS hl)
theorem g_if_ne (C : Cx z w cc nL own d) {x : Int32} {off : Int} {tgt : Nat} (ht : (pc : Int) + off = (tgt : Int)) (hdg : decode cc pc = .ok (.ifCond .ne off, 3))
    (kt : (¬ x = 0) → G z w nL sg tu tgt L S) (kf : (x = 0) → G z w nL sg tu (pc + 3) L S) : G z w nL sg tu pc L (.int x :: S) := by
  obtain ⟨p, l, e, R, s, m, args, below, meth, c, cells, slots, Q⟩ := z
  obtain ⟨-, hx, hb, -⟩ := C
  exact fun H ls locs hH hS hl => lv_if_ne hx hb hdg ht (fun q => kt q H ls locs hH hS hl) (fun q => kf q H ls locs hH hS hl)
theorem g_icmp_ne (C : Cx z w cc nL own d) {x y : Int32} {off : Int} {tgt : Nat} (ht : (pc : Int) + off = (tgt : Int)) (hdg : decode cc pc = .ok (.if_icmp .ne off, 3))
    (kt : (¬ x = y) → G z w nL sg tu tgt L S) (kf : (x = y) → G z w nL sg tu (pc + 3) L S) : G z w nL sg tu pc L (.int y :: .int x :: S) := by
  obtain ⟨p, l, e, R, s, m, args, below, meth, c, cells, slots, Q⟩ := z
  obtain ⟨-, hx, hb, -⟩ := C
  exact fun H ls locs hH hS hl => lv_icmp_ne hx hb hdg ht (fun q => kt q H ls locs hH hS hl) (fun q => kf q H ls locs hH hS hl)
theorem g_if_lt (C : Cx z w cc nL own d) {x : Int32} {off : Int} {tgt : Nat} (ht : (pc : Int) + off = (tgt : Int)) (hdg : decode cc pc = .ok (.ifCond .lt off, 3))
    (kt : (x < 0) → G z w nL sg tu tgt L S) (kf : ¬ (x < 0) → G z w nL sg tu (pc + 3) L S) : G z w nL sg tu pc L (.int x :: S) := by
  obtain ⟨p, l, e, R, s, m, args, below, meth, c, cells, slots, Q⟩ := z
  obtain ⟨-, hx, hb, -⟩ := C
  exact fun H ls locs hH hS hl => lv_if_lt hx hb hdg ht (fun q => kt q H ls locs hH hS hl) (fun q => kf q H ls locs hH hS hl)
theorem g_icmp_lt (C : Cx z w cc nL own d) {x y : Int32} {off : Int} {tgt : Nat} (ht : (pc : Int) + off = (tgt : Int)) (hdg : decode cc pc = .ok (.if_icmp .lt off, 3))
    (kt : (x < y) → G z w nL sg tu tgt L S) (kf : ¬ (x < y) → G z w nL sg tu (pc + 3) L S) : G z w nL sg tu pc L (.int y :: .int x :: S) := by
  obtain ⟨p, l, e, R, s, m, args, below, meth, c, cells, slots, Q⟩ := z
  obtain ⟨-, hx, hb, -⟩ := C
  exact fun H ls locs hH hS hl => lv_icmp_lt hx hb hdg ht (fun q => kt q H ls locs hH hS hl) (fun q => kf q H ls locs hH hS hl)
theorem g_if_ge (C : Cx z w cc nL own d) {x : Int32} {off : Int} {tgt : Nat} (ht : (pc : Int) + off = (tgt : Int)) (hdg : decode cc pc = .ok (.ifCond .ge off, 3))
    (kt : (0 ≤ x) → G z w nL sg tu tgt L S) (kf : ¬ (0 ≤ x) → G z w nL sg tu (pc + 3) L S) : G z w nL sg tu pc L (.int x :: S) := by
  obtain ⟨p, l, e, R, s, m, args, below, meth, c, cells, slots, Q⟩ := z
  obtain ⟨-, hx, hb, -⟩ := C
  exact fun H ls locs hH hS hl => lv_if_ge hx hb hdg ht (fun q => kt q H ls locs hH hS hl) (fun q => kf q H ls locs hH hS hl)
theorem g_icmp_ge (C : Cx z w cc nL own d) {x y : Int32} {off : Int} {tgt : Nat} (ht : (pc : Int) + off = (tgt : Int)) (hdg : decode cc pc = .ok (.if_icmp .ge off, 3))
    (kt : (y ≤ x) → G z w nL sg tu tgt L S) (kf : ¬ (y ≤ x) → G z w nL sg tu (pc + 3) L S) : G z w nL sg tu pc L (.int y :: .int x :: S) := by
  obtain ⟨p, l, e, R, s, m, args, below, meth, c, cells, slots, Q⟩ := z
  obtain ⟨-, hx, hb, -⟩ := C
  exact fun H ls locs hH hS hl => lv_icmp_ge hx hb hdg ht (fun q => kt q H ls locs hH hS hl) (fun q => kf q H ls locs hH hS hl)
theorem g_if_gt (C : Cx z w cc nL own d) {x : Int32} {off : Int} {tgt : Nat} (ht : (pc : Int) + off = (tgt : Int)) (hdg : decode cc pc = .ok (.ifCond .gt off, 3))
    (kt : (0 < x) → G z w nL sg tu tgt L S) (kf : ¬ (0 < x) → G z w nL sg tu (pc + 3) L S) : G z w nL sg tu pc L (.int x :: S) := by
  obtain ⟨p, l, e, R, s, m, args, below, meth, c, cells, slots, Q⟩ := z
  obtain ⟨-, hx, hb, -⟩ := C
  exact fun H ls locs hH hS hl => lv_if_gt hx hb hdg ht (fun q => kt q H ls locs hH hS hl) (fun q => kf q H ls locs hH hS hl)
theorem g_icmp_gt (C : Cx z w cc nL own d) {x y : Int32} {off : Int} {tgt : Nat} (ht : (pc : Int) + off = (tgt : Int)) (hdg : decode cc pc = .ok (.if_icmp .gt off, 3))
    (kt : (y < x) → G z w nL sg tu tgt L S) (kf : ¬ (y < x) → G z w nL sg tu (pc + 3) L S) : G z w nL sg tu pc L (.int y :: .int x :: S) := by
  obtain ⟨p, l, e, R, s, m, args, below, meth, c, cells, slots, Q⟩ := z
  obtain ⟨-, hx, hb, -⟩ := C
  exact fun H ls locs hH hS hl => lv_icmp_gt hx hb hdg ht (fun q => kt q H ls locs hH hS hl) (fun q => kf q H ls locs hH hS hl)
theorem g_if_le (C : Cx z w cc nL own d) {x : Int32} {off : Int} {tgt : Nat} (ht : (pc : Int) + off = (tgt : Int)) (hdg : decode cc pc = .ok (.ifCond .le off, 3))
    (kt : (x ≤ 0) → G z w nL sg tu tgt L S) (kf : ¬ (x ≤ 0) → G z w nL sg tu (pc + 3) L S) : G z w nL sg tu pc L (.int x :: S) := by
  obtain ⟨p, l, e, R, s, m, args, below, meth, c, cells, slots, Q⟩ := z
  obtain ⟨-, hx, hb, -⟩ := C
  exact fun H ls locs hH hS hl => lv_if_le hx hb hdg ht (fun q => kt q H ls locs hH hS hl) (fun q => kf q H ls locs hH hS hl)
theorem g_icmp_le (C : Cx z w cc nL own d) {x y : Int32} {off : Int} {tgt : Nat} (ht : (pc : Int) + off = (tgt : Int)) (hdg : decode cc pc = .ok (.if_icmp .le off, 3))
    (kt : (x ≤ y) → G z w nL sg tu tgt L S) (kf : ¬ (x ≤ y) → G z w nL sg tu (pc + 3) L S) : G z w nL sg tu pc L (.int y :: .int x :: S) := by
  obtain ⟨p, l, e, R, s, m, args, below, meth, c, cells, slots, Q⟩ := z
  obtain ⟨-, hx, hb, -⟩ := C
  exact fun H ls locs hH hS hl => lv_icmp_le hx hb hdg ht (fun q => kt q H ls locs hH hS hl) (fun q => kf q H ls locs hH hS hl)
theorem g_tabOut (C : Cx z w cc nL own d) {dflt lo hi : Int} {offs : Array Int} {len : Nat} {x : Int32} {tgt : Nat} (hdg : decode cc pc = .ok (.tableswitch dflt lo hi offs, len)) (h : x.toInt < lo ∨ hi < x.toInt) (ht : (pc : Int) + dflt = (tgt : Int))
    (k : G z w nL sg tu tgt L S) : G z w nL sg tu pc L (.int x :: S) := by
  obtain ⟨p, l, e, R, s, m, args, below, meth, c, cells, slots, Q⟩ := z
  obtain ⟨-, hx, hb, -⟩ := C
  exact fun H ls locs hH hS hl => lv_tableOut hx hb hdg h ht (k H ls locs hH hS hl)
theorem g_tabIn (C : Cx z w cc nL own d) {dflt lo hi : Int} {offs : Array Int} {len : Nat} {x : Int32} {off : Int} {tgt : Nat} (hdg : decode cc pc = .ok (.tableswitch dflt lo hi offs, len)) (h1 : ¬ x.toInt < lo) (h2 : ¬ hi < x.toInt) (ho : offs[(x.toInt - lo).toNat]? = some off) (ht : (pc : Int) + off = (tgt : Int))
    (k : G z w nL sg tu tgt L S) : G z w nL sg tu pc L (.int x :: S) := by
  obtain ⟨p, l, e, R, s, m, args, below, meth, c, cells, slots, Q⟩ := z
  obtain ⟨-, hx, hb, -⟩ := C
  exact fun H ls locs hH hS hl => lv_tableIn hx hb hdg h1 h2 ho ht (k H ls locs hH hS hl)
theorem g_mabs (C : Cx z w cc nL own d) {x : Int32} {idx : Nat} (hlink : Cond.methodLink own idx Lib.Math.abs.name ∈ TG) (hst : Cond.static Lib.Math.abs.name ∈ TG) (hini : Cond.initialized "java/lang/Math" ∈ TG) (hcode : Cond.code Lib.Math.abs.name Lib.Math.abs.code 1 (some .int) ∈ TG) (hd : 1 ≤ d) (hS8 : (S.map fun v => v.category).sum ≤ 8) (hdg : decode cc pc = .ok (.invokestatic idx, 3))
    (k : G z w nL sg tu (pc + 3) L (.int (if 0 ≤ x then x else 0 - x) :: S)) : G z w nL sg tu pc L (.int x :: S) := by
  obtain ⟨p, l, e, R, s, m, args, below, meth, c, cells, slots, Q⟩ := z
  obtain ⟨-, hx, hb, hml, hown, hts, hK, hR, hc, hs⟩ := C
  exact fun H ls locs hH hS hl => va_mabs hx hb (hml.trans hl.1.symm) hown (hts _ hlink) (hts _ hst) (hts _ hini) (hts _ hcode) (by omega) (by omega) hc hs hdg (k H ls locs hH hS hl)
theorem g_mmin (C : Cx z w cc nL own d) {x y : Int32} {idx : Nat} (hlink : Cond.methodLink own idx Lib.Math.min.name ∈ TG) (hst : Cond.static Lib.Math.min.name ∈ TG) (hini : Cond.initialized "java/lang/Math" ∈ TG) (hcode : Cond.code Lib.Math.min.name Lib.Math.min.code 2 (some .int) ∈ TG) (hd : 1 ≤ d) (hS8 : (S.map fun v => v.category).sum ≤ 8) (hdg : decode cc pc = .ok (.invokestatic idx, 3))
    (k : G z w nL sg tu (pc + 3) L (.int (if y < x then y else x) :: S)) : G z w nL sg tu pc L (.int y :: .int x :: S) := by
  obtain ⟨p, l, e, R, s, m, args, below, meth, c, cells, slots, Q⟩ := z
  obtain ⟨-, hx, hb, hml, hown, hts, hK, hR, hc, hs⟩ := C
  exact fun H ls locs hH hS hl => va_mmin hx hb (hml.trans hl.1.symm) hown (hts _ hlink) (hts _ hst) (hts _ hini) (hts _ hcode) (by omega) (by omega) hc hs hdg (k H ls locs hH hS hl)
def ClsOk (ci : Nat) (C : String) (T : u_T) (N : Nat) (ty : Nat → FieldType) : Prop := vwCl[ci]? = some (C, T, N) ∧ (∀ x ∈ u_ws C T N, x ∈ TG) ∧ (∀ k, k < N → parseFieldDescriptor (T k).2.2.1 = some (ty k)) ∧ ∀ a, a < N → ∀ b, b < N → a ≠ b → (T a).2.1 ≠ (T b).2.1
theorem g_get (C : Cx z w cc nL own d) {ci N k j idx : Nat} {Cn : String} {T : u_T} {ty : Nat → FieldType} {fs : List (Nat × Nat)} {q : Nat × Nat} (hc : ClsOk ci Cn T N ty) (hs : shapes[k]? = some (.inr (ci, fs))) (hf : fs[j]? = some q) (hj : j < N) (hlink : Cond.fieldLink own idx (T j).1 (T j).2.1 (T j).2.2.1 ∈ TG) (hdg : decode cc pc = .ok (.getfield idx, 3))
    (kk : G z w nL sg tu (pc + 3) L (va1 w (sg k j) tu q :: S)) : G z w nL sg tu pc L (.ref (ad w k) :: S) := by
  obtain ⟨p, l, e, R, s, m, args, below, meth, c, cells, slots, Q⟩ := z
  obtain ⟨-, hx, hb, hml, hown, hts, hK, -⟩ := C
  exact fun H ls locs hH hS hl => va_get hx hb hts hc.2.1 hown hK.1 hH k (wl_get hs) hc.1 j hj (hts _ hlink) (fun _ h => h) (by rw [List.getElem?_mapIdx, hf]; rfl) hdg (kk H ls locs hH hS hl)
theorem g_getI (C : Cx z w cc nL own d) {ci N k j idx q : Nat} {Cn : String} {T : u_T} {ty : Nat → FieldType} {fs : List (Nat × Nat)} (hc : ClsOk ci Cn T N ty) (hs : shapes[k]? = some (.inr (ci, fs))) (hf : fs[j]? = some (0, q)) (hj : j < N) (hlink : Cond.fieldLink own idx (T j).1 (T j).2.1 (T j).2.2.1 ∈ TG) (hdg : decode cc pc = .ok (.getfield idx, 3))
    (kk : G z w nL sg tu (pc + 3) L (.int (sg k j) :: S)) : G z w nL sg tu pc L (.ref (ad w k) :: S) := g_get C hc hs hf hj hlink hdg kk
theorem g_getR (C : Cx z w cc nL own d) {ci N k j idx q : Nat} {Cn : String} {T : u_T} {ty : Nat → FieldType} {fs : List (Nat × Nat)} (hc : ClsOk ci Cn T N ty) (hs : shapes[k]? = some (.inr (ci, fs))) (hf : fs[j]? = some (1, q)) (hj : j < N) (hlink : Cond.fieldLink own idx (T j).1 (T j).2.1 (T j).2.2.1 ∈ TG) (hdg : decode cc pc = .ok (.getfield idx, 3))
    (kk : G z w nL sg tu (pc + 3) L (.ref (ad w q) :: S)) : G z w nL sg tu pc L (.ref (ad w k) :: S) := g_get C hc hs hf hj hlink hdg kk
theorem g_getL (C : Cx z w cc nL own d) {ci N k j idx q : Nat} {Cn : String} {T : u_T} {ty : Nat → FieldType} {fs : List (Nat × Nat)} (hc : ClsOk ci Cn T N ty) (hs : shapes[k]? = some (.inr (ci, fs))) (hf : fs[j]? = some (2, q)) (hj : j < N) (hlink : Cond.fieldLink own idx (T j).1 (T j).2.1 (T j).2.2.1 ∈ TG) (hdg : decode cc pc = .ok (.getfield idx, 3))
    (kk : G z w nL sg tu (pc + 3) L (.long tu :: S)) : G z w nL sg tu pc L (.ref (ad w k) :: S) := g_get C hc hs hf hj hlink hdg kk
theorem mapIdx_set {w : GW} {f : Nat → Int32} {tu : Int64} {fs : List (Nat × Nat)} {j q : Nat} (hf : fs[j]? = some (0, q)) (x : Int32) : (fs.mapIdx (fun j q => va1 w (f j) tu q)).set j (.int x) = fs.mapIdx (fun i q => va1 w (upd f j x i) tu q) := by
  apply List.ext_getElem?
  intro i
  have hl : j < fs.length := (List.getElem?_eq_some_iff.mp hf).1
  by_cases hi : i = j
  · subst hi
    rw [List.getElem?_set_self (by simpa using hl), List.getElem?_mapIdx, hf]
    simp [va1, upd]
  · rw [List.getElem?_set_ne (Ne.symm hi), List.getElem?_mapIdx, List.getElem?_mapIdx]
    simp [upd, hi]
theorem g_putI (C : Cx z w cc nL own d) {ci N k j idx q : Nat} {Cn : String} {T : u_T} {ty : Nat → FieldType} {fs : List (Nat × Nat)} (hc : ClsOk ci Cn T N ty) (hs : shapes[k]? = some (.inr (ci, fs))) (hf : fs[j]? = some (0, q)) (hj : j < N) (hfin : (T j).2.2.2 = false) (hty : ty j = .int) (hlink : Cond.fieldLink own idx (T j).1 (T j).2.1 (T j).2.2.1 ∈ TG) (hdg : decode cc pc = .ok (.putfield idx, 3)) {x : Int32}
    (kk : G z w nL (us sg k (upd (sg k) j x)) tu (pc + 3) L S) : G z w nL sg tu pc L (.int x :: .ref (ad w k) :: S) := by
  obtain ⟨p, l, e, R, s, m, args, below, meth, c, cells, slots, Q⟩ := z
  obtain ⟨-, hx, hb, hml, hown, hts, hK, -⟩ := C
  have hl : j < (fs.mapIdx (fun j q => va1 w (sg k j) tu q)).length := by rw [List.length_mapIdx]; exact (List.getElem?_eq_some_iff.mp hf).1
  have hd : parseFieldDescriptor (T j).2.2.1 = some .int := by rw [← hty]; exact hc.2.2.1 j hj
  refine fun H ls locs hH hS hl0 => va_put hx hb hts hc.2.1 ty hc.2.2.1 hc.2.2.2 hown hK.1 hH (wl_D hK.2.2) hS k (wl_get hs) hc.1 j hj (hts _ hlink) (fun _ h => h) hfin hd (vp_nar_int x) rfl hl hdg (fun H1 locs1 hP1 _ hS1 => kk H1 ls locs1 ?_ hS1 hl0)
  rw [wl_set (sg' := us sg k (upd (sg k) j x)) (tu' := tu) hs ?_ (fun i sh hi _ => ce_ne i sh hi)] at hP1
  · exact hP1
  · show _ = Sum.inr (ci, _)
    rw [mapIdx_set hf, us_same]
theorem g_iald (C : Cx z w cc nL own d) {k N : Nat} (hs : shapes[k]? = some (.inl (0, N))) {i : Int32} (hin : vp_in i N) (hdg : decode cc pc = .ok (.iaload, 1))
    (kk : G z w nL sg tu (pc + 1) L (.int (sg k i.toNatClampNeg) :: S)) : G z w nL sg tu pc L (.int i :: .ref (ad w k) :: S) := by
  obtain ⟨p, l, e, R, s, m, args, below, meth, c, cells, slots, Q⟩ := z
  obtain ⟨-, hx, hb, hml, hown, hts, hK, -⟩ := C
  exact fun H ls locs hH hS hl => va_iald hx hb hK.1 hH k 0 (wl_get hs) rfl hin hdg (kk H ls locs hH hS hl)
theorem g_bald (C : Cx z w cc nL own d) {k N : Nat} (hs : shapes[k]? = some (.inl (1, N))) {i : Int32} (hin : vp_in i N) (hdg : decode cc pc = .ok (.baload, 1))
    (kk : G z w nL sg tu (pc + 1) L (.int (sg k i.toNatClampNeg) :: S)) : G z w nL sg tu pc L (.int i :: .ref (ad w k) :: S) := by
  obtain ⟨p, l, e, R, s, m, args, below, meth, c, cells, slots, Q⟩ := z
  obtain ⟨-, hx, hb, hml, hown, hts, hK, -⟩ := C
  exact fun H ls locs hH hS hl => va_bald hx hb hK.1 hH k 1 (wl_get hs) rfl hin hdg (kk H ls locs hH hS hl)
theorem g_aald (C : Cx z w cc nL own d) {k N : Nat} (hs : shapes[k]? = some (.inl (2, N))) {i : Int32} (hin : vp_in i N) (hdg : decode cc pc = .ok (.aaload, 1))
    (kk : G z w nL sg tu (pc + 1) L (.ref (ad w (13 + 5 * i.toNatClampNeg)) :: S)) : G z w nL sg tu pc L (.int i :: .ref (ad w k) :: S) := by
  obtain ⟨p, l, e, R, s, m, args, below, meth, c, cells, slots, Q⟩ := z
  obtain ⟨-, hx, hb, hml, hown, hts, hK, -⟩ := C
  exact fun H ls locs hH hS hl => va_aldq hx hb hK.1 hH k 2 (wl_get hs) rfl hin hdg (kk H ls locs hH hS hl)
theorem g_alen (C : Cx z w cc nL own d) {k N : Nat} (hs : shapes[k]? = some (.inl (0, N))) (hdg : decode cc pc = .ok (.arraylength, 1))
    (kk : G z w nL sg tu (pc + 1) L (.int (nI N) :: S)) : G z w nL sg tu pc L (.ref (ad w k) :: S) := by
  obtain ⟨p, l, e, R, s, m, args, below, meth, c, cells, slots, Q⟩ := z
  obtain ⟨-, hx, hb, hml, hown, hts, hK, -⟩ := C
  exact fun H ls locs hH hS hl => va_alen hx hb hK.1 hH k 0 (wl_get hs) rfl rfl hdg (kk H ls locs hH hS hl)
theorem g_iast (C : Cx z w cc nL own d) {k N : Nat} (hs : shapes[k]? = some (.inl (0, N))) {i x : Int32} (hin : vp_in i N) (hdg : decode cc pc = .ok (.iastore, 1))
    (kk : G z w nL (us sg k (upd (sg k) i.toNatClampNeg x)) tu (pc + 1) L S) : G z w nL sg tu pc L (.int x :: .int i :: .ref (ad w k) :: S) := by
  obtain ⟨p, l, e, R, s, m, args, below, meth, c, cells, slots, Q⟩ := z
  obtain ⟨-, hx, hb, hml, hown, hts, hK, -⟩ := C
  refine fun H ls locs hH hS hl => va_iast hx hb hK.1 hH (wl_D hK.2.2) hS k 0 (wl_get hs) rfl hin hdg (fun H1 locs1 hP1 _ hS1 => kk H1 ls locs1 ?_ hS1 hl)
  rw [wl_set (sg' := us sg k (upd (sg k) i.toNatClampNeg x)) (tu' := tu) hs ?_ (fun i sh hi _ => ce_ne i sh hi)] at hP1
  · exact hP1
  · show _ = Sum.inl (gc w 0, N, Sum.inl _)
    rw [us_same]
theorem g_bast (C : Cx z w cc nL own d) {k N : Nat} (hs : shapes[k]? = some (.inl (1, N))) {i x : Int32} (hin : vp_in i N) (hdg : decode cc pc = .ok (.bastore, 1))
    (kk : G z w nL (us sg k (upd (sg k) i.toNatClampNeg (vp_nar .byte x))) tu (pc + 1) L S) : G z w nL sg tu pc L (.int x :: .int i :: .ref (ad w k) :: S) := by
  obtain ⟨p, l, e, R, s, m, args, below, meth, c, cells, slots, Q⟩ := z
  obtain ⟨-, hx, hb, hml, hown, hts, hK, -⟩ := C
  refine fun H ls locs hH hS hl => va_bast hx hb hK.1 hH (wl_D hK.2.2) hS k 1 (wl_get hs) rfl hin hdg (fun H1 locs1 hP1 _ hS1 => kk H1 ls locs1 ?_ hS1 hl)
  rw [wl_set (sg' := us sg k (upd (sg k) i.toNatClampNeg (vp_nar .byte x))) (tu' := tu) hs ?_ (fun i sh hi _ => ce_ne i sh hi)] at hP1
  · exact hP1
  · show _ = Sum.inl (gc w 1, N, Sum.inl _)
    rw [us_same]
theorem g_copy (C : Cx z w cc nL own d) {k k0 N : Nat} (hs : shapes[k]? = some (.inl (0, N))) (hs0 : shapes[k0]? = some (.inl (0, N))) {n : Int32} (hn : nI N = n) (hN : N < 2 ^ 31) {idx : Nat} (hd : 1 ≤ d) (hS8 : (S.map fun v => v.category).sum ≤ 8) (hlink : Cond.methodLink own idx arraycopyName ∈ TG) (hnat : Cond.native arraycopyName ∈ TG) (hstat : Cond.static arraycopyName ∈ TG) (hini : Cond.initialized "java/lang/System" ∈ TG) (hdg : decode cc pc = .ok (.invokestatic idx, 3))
    (kk : G z w nL (us sg k (sg k0)) tu (pc + 3) L S) : G z w nL sg tu pc L (.int n :: .int 0 :: .ref (ad w k) :: .int 0 :: .ref (ad w k0) :: S) := by
  obtain ⟨p, l, e, R, s, m, args, below, meth, c, cells, slots, Q⟩ := z
  obtain ⟨-, hx, hb, hml, hown, hts, hK, hR, -⟩ := C
  have hnc : n.toNatClampNeg = N := by rw [← hn]; exact nI_clamp hN
  have h0c : (0 : Int32).toNatClampNeg = 0 := sb_cl0
  have hz : ¬ (0 : Int32) < 0 := by decide
  have hn0 : ¬ n < 0 := by rw [← hn]; exact nI_pos hN
  have hnw : nativeFrameWords "java/lang/System" "arraycopy" 5 + 11 ≤ 24 := by decide
  refine fun H ls locs hH hS hl => va_copyi hx hb (hml.trans hl.1.symm) hown (hts _ hlink) (hts _ hnat) (hts _ hstat) (hts _ hini) hK.1 hH (wl_D hK.2.2) hS k0 k 0 0 (wl_get hs0) (wl_get hs) rfl rfl rfl hz hz hn0 (by rw [h0c, hnc]; omega) (by rw [h0c, hnc]; omega) (fun _ _ => rfl) (by omega) (by omega) hdg (fun H1 locs1 hP1 _ hS1 => kk H1 ls locs1 ?_ hS1 hl)
  have e1 : Sq (us sg k (va_cpy (sg k0) (sg k) 0 0 N)) (us sg k (sg k0)) := by
    intro i j hj
    by_cases hi : i = k
    · subst hi
      have hj2 : j < N := by simpa [ln, hs, lnS] using hj
      rw [us_same, us_same, pk_cpy_in (by omega) (by omega)]
      congr 1
      omega
    · rw [us_ne hi, us_ne hi]
  rw [hnc, h0c, wl_set (sg' := us sg k (va_cpy (sg k0) (sg k) 0 0 N)) (tu' := tu) hs ?_ (fun i sh hi _ => ce_ne i sh hi)] at hP1
  · exact Hp.sq e1 hP1
  · show _ = Sum.inl (gc w 0, N, Sum.inl _)
    rw [us_same]
end GR
