/-! CONSTRUCTORS: the frame of walks that make cells; ws is the list of the cells made so far -/
def KC (D : va_G) (cI cB cO : ClassId) (U : State) : Prop := va_K D vwCl [(cI, .int), (cB, .byte), (cO, .object RX3)] U ∧ (∀ q ∈ TN, va_Nw (.methodLinkNest q.1 q.2.1 q.2.2.1 q.2.2.2) U) ∧ va_AO RX3 U
theorem KC.same {D : va_G} {cI cB cO : ClassId} {u U : State} (h : u.vm = U.vm) (hK : KC D cI cB cO u) : KC D cI cB cO U := ⟨va_K.moved (by rw [h]; exact Vm.Alike.refl _) hK.1, fun q hq => va_Nw.same rfl h (hK.2.1 q hq), va_AO.moved (by rw [h]; exact Vm.Alike.refl _) hK.2.2⟩
theorem KC.warm {D : va_G} {cI cB cO : ClassId} {u U : State} (h : u.WarmedH U.vm) (hK : KC D cI cB cO u) : KC D cI cB cO U := ⟨va_K.moved h.alike hK.1, fun q hq => va_Nw.warmM h (hK.2.1 q hq), va_AO.moved h.alike hK.2.2⟩
abbrev JZ : Type := Program × Launch × Env × Room × State × MethodId × Array Value × List Frame × Method × Code × (State → Prop)
def J (z : JZ) (D : va_G) (A : Nat → Prop) (nL cells slots : Nat) (ws : va_W) (pc : Nat) (L : List (Nat × Value)) (S : List Value) : Prop := match z with
  | (p, l, e, R, s, m, args, below, meth, c, Q) => ∀ (H : Heap) (ls : Array Slot) (locs : List Loc), va_P D vwCl ws H → va_D A ws → va_S A s.heap H locs → lv_has ls nL L → W p l e R s m args below meth c H locs cells slots Q (F0 m pc ls S)
def JC (z : JZ) (l0 : Launch) (D : va_G) (A : Nat → Prop) (cI cB cO : ClassId) (cc : ByteArray) (nL : Nat) (own : String) : Prop := match z with
  | (p, l, _, _, s, m, args, _, _, c, _) => l = l0 ∧ p.tables.exec = Jvm.exec ∧ c.code = cc ∧ c.maxLocals = nL ∧ s.vm.findClass own = some m.cls ∧ (∀ x ∈ TG, x.before args s = true) ∧ KC D cI cB cO s ∧ ∀ q, s.heap.size ≤ q → A q
def JN (z : JZ) : Prop := match z with
  | (_, _, _, _, _, _, _, _, meth, _, _) => meth.name = "<init>"
def JM (z : JZ) (a b : Nat) : Prop := match z with
  | (_, _, _, R, _, _, _, _, _, _, _) => a ≤ R.cells ∧ b ≤ R.slots
def JF (z : JZ) (d : Nat) : Prop := match z with
  | (_, _, _, R, _, _, _, _, _, _, _) => d ≤ R.frames ∧ 32 * d ≤ R.locals
def icA (h0 sz ci : Nat) (fs0 : List Value) : Nat → Prop := va_A [(h0, .inr (ci, fs0))] sz
def icQ (D : va_G) (h0 sz ci : Nat) (fs0 : List Value) (Sh : Nat → va_W → Prop) : Array Value → State → Outcome → State → Prop := va_Qv (Sh h0) (fun u t => va_P D vwCl u t.heap ∧ va_D (icA h0 sz ci fs0) u) (icA h0 sz ci fs0)
def icR (d mc ms : Nat) : Room := { frames := d, cells := mc, slots := ms, locals := 32 * d }
def icP (D : va_G) (cI cB cO : ClassId) (h0 sz ci : Nat) (fs0 : List Value) : Array Value → State → Prop := va_Pc [.ref h0] (fun U => U.heap.size = sz ∧ va_P D vwCl [(h0, .inr (ci, fs0))] U.heap ∧ KC D cI cB cO U)
/-- a constructor's contract -/
def Ic (l : Launch) (D : va_G) (cI cB cO : ClassId) (y : MethodName) (cc : ByteArray) (n d mc ms ci : Nat) (fs0 : List Value) (Sh : Nat → va_W → Prop) : Prop := ∀ h0 sz : Nat, Met l y (.code y cc n none :: TG) (icR d mc ms) (icP D cI cB cO h0 sz ci fs0) (icQ D h0 sz ci fs0 Sh) mc ms (icA h0 sz ci fs0)
def JE (z : JZ) (D : va_G) (A : Nat → Prop) (h0 mc ms : Nat) (Sh : Nat → va_W → Prop) : Prop := match z with
  | (_, _, _, _, s, _, args, below, meth, _, Q) => meth.sig.returnType = none ∧ meth.locks = false ∧ Q = MQ below (va_Qv (Sh h0) (fun u t => va_P D vwCl u t.heap ∧ va_D A u) A) args s mc ms A
set_option maxHeartbeats 4000000 in
theorem Ic.of {l : Launch} {D : va_G} {cI cB cO : ClassId} {y : MethodName} {cc : ByteArray} {n d mc ms ci : Nat} {fs0 : List Value} {Sh : Nat → va_W → Prop} (own : String) (ho : y.cls = own) (hy : y.name = "<init>") (hn : plainName y.cls = true) (h1 : 1 ≤ n)
    (body : ∀ (z : JZ) (A : Nat → Prop) (h0 : Nat), JC z l D A cI cB cO cc n own → JN z → (∀ a b, a ≤ mc → b ≤ ms → JM z a b) → (∀ f, f ≤ d → JF z f) → JE z D A h0 mc ms Sh → J z D A n 0 0 [(h0, .inr (ci, fs0))] 0 [(0, .ref h0)] []) : Ic l D cI cB cO y cc n d mc ms ci fs0 Sh := by
  subst ho
  intro h0 sz
  refine Met.ofW (cc := cc) (maxL := n) (ret := none) hn rfl ?_
  intro p e s m args below meth c s₁ B hml hv
  obtain ⟨rfl, hsz, hP, hK⟩ := hv
  have hts := atoms_spec (ws := .code y cc n none :: TG) B.pre
  have hown : s.vm.findClass y.cls = some m.cls := findClass_of_methodNamed B.named
  have hin : meth.name = "<init>" := (name_of_methodNamed B.named B.method).1.trans hy
  subst hsz
  have hA : ∀ q : Nat, s.heap.size ≤ q → icA h0 s.heap.size ci fs0 q := fun q h => Or.inr h
  have hD : va_D (icA h0 s.heap.size ci fs0) [(h0, .inr (ci, fs0))] := by
    refine ⟨fun i j p q hp hq _ => ?_, fun k q hq => Or.inl ⟨k, q.2, hq⟩⟩
    have h1 : i < 1 := (List.getElem?_eq_some_iff.mp hp).1
    have h2 : j < 1 := (List.getElem?_eq_some_iff.mp hq).1
    omega
  have h := body (p, l, e, icR d mc ms, s, m, [Value.ref h0].toArray, below, meth, c, MQ below (icQ D h0 s.heap.size ci fs0 Sh) [Value.ref h0].toArray s mc ms (icA h0 s.heap.size ci fs0)) (icA h0 s.heap.size ci fs0) h0 ⟨rfl, B.exec, B.bytes, hml, hown, fun x hx => hts x (List.mem_cons_of_mem _ hx), hK, hA⟩ hin (fun a b ha hb => ⟨ha, hb⟩) (fun f hf => ⟨hf, Nat.mul_le_mul_left 32 hf⟩) ⟨B.returns, B.notSynchronized, rfl⟩
  rw [lg_entry_eq]
  exact h s.heap _ [] hP hD va_S.rf (lv_entry [.ref h0] (by show 1 ≤ n; exact h1))
theorem va_joinL {D : va_G} {cl : List vw_C} {A : Nat → Prop} {r w1 : va_W} {q : Nat} {e : va_E} {H H1 : Heap} (hP : va_P D cl (r ++ [(q, e)]) H) (hD : va_D A (r ++ [(q, e)])) (hF : ∀ x, va_A [(q, e)] H.size x → A x) (hk : ∀ x : Nat, x < H.size → ¬ va_A [(q, e)] H.size x → H1[x]? = H[x]?) (hP1 : va_P D cl w1 H1) (hD1 : va_D (va_A [(q, e)] H.size) w1) : va_P D cl (r ++ w1) H1 ∧ va_D A (r ++ w1) := by
  have hlast : (r ++ [(q, e)])[r.length]? = some (q, e) := by simp
  have hin : ∀ (k : Nat) (x : Nat × va_E), r[k]? = some x → (r ++ [(q, e)])[k]? = some x := fun k x hx => by
    rw [List.getElem?_append_left (List.getElem?_eq_some_iff.mp hx).1]; exact hx
  have hr : ∀ (k : Nat) (x : Nat × va_E), r[k]? = some x → x.1 < H.size ∧ ¬ va_A [(q, e)] H.size x.1 := by
    intro k x hx
    have hkl : k < r.length := (List.getElem?_eq_some_iff.mp hx).1
    have hlt := (hP k x (hin k x hx)).lt
    refine ⟨hlt, fun h => ?_⟩
    rcases h with ⟨j, e', hj⟩ | h
    · have hj0 : j < 1 := (List.getElem?_eq_some_iff.mp hj).1
      have hj1 : j = 0 := by omega
      subst hj1
      have hq : x.1 = q := (congrArg Prod.fst (Option.some.inj hj)).symm
      have h9 := hD.1 k r.length x (q, e) (hin k x hx) hlast hq
      omega
    · omega
  refine ⟨va_P.app (fun k x hx => (hP k x (hin k x hx)).kept (hk x.1 (hr k x hx).1 (hr k x hx).2)) hP1, va_D.app ⟨fun i j p x hp hx => hD.1 i j p x (hin i p hp) (hin j x hx), fun k x hx => hD.2 k x (hin k x hx)⟩ ⟨hD1.1, fun k x hx => hF _ (hD1.2 k x hx)⟩ (fun i j p x hp hx hpx => ?_)⟩
  exact (hr i p hp).2 (by rw [hpx]; exact hD1.2 j x hx)
section JR
variable {z : JZ} {l0 : Launch} {D : va_G} {A : Nat → Prop} {cI cB cO : ClassId} {cc : ByteArray} {nL : Nat} {own : String} {cells slots : Nat} {ws : va_W} {pc : Nat} {L : List (Nat × Value)} {S : List Value}
theorem j_aload (C : JC z l0 D A cI cB cO cc nL own) {k : Fin 4} {i : Nat} {v : Nat} (q : Nat) (hi : (k : Nat) = i) (hL : L[q]? = some (i, .ref v)) (hdg : decode cc pc = .ok (.aload_n k, 1))
    (kk : J z D A nL cells slots ws (pc + 1) L (.ref v :: S)) : J z D A nL cells slots ws pc L S := by
  obtain ⟨p, l, e, R, s, m, args, below, meth, c, Q⟩ := z
  obtain ⟨-, hx, hb, -⟩ := C
  exact fun H ls locs hP hD hS hl => lv_aload_n hx hb hdg hi (lv_at hl q hL) (kk H ls locs hP hD hS hl)
theorem j_iload (C : JC z l0 D A cI cB cO cc nL own) {k : Fin 4} {i : Nat} {v : Int32} (q : Nat) (hi : (k : Nat) = i) (hL : L[q]? = some (i, .int v)) (hdg : decode cc pc = .ok (.iload_n k, 1))
    (kk : J z D A nL cells slots ws (pc + 1) L (.int v :: S)) : J z D A nL cells slots ws pc L S := by
  obtain ⟨p, l, e, R, s, m, args, below, meth, c, Q⟩ := z
  obtain ⟨-, hx, hb, -⟩ := C
  exact fun H ls locs hP hD hS hl => lv_iload_n hx hb hdg hi (lv_at hl q hL) (kk H ls locs hP hD hS hl)
theorem j_iconst (C : JC z l0 D A cI cB cO cc nL own) {n : Int} {v : Int32} (hv : Int32.ofInt n = v) (hdg : decode cc pc = .ok (.iconst n, 1))
    (kk : J z D A nL cells slots ws (pc + 1) L (.int v :: S)) : J z D A nL cells slots ws pc L S := by
  obtain ⟨p, l, e, R, s, m, args, below, meth, c, Q⟩ := z
  obtain ⟨-, hx, hb, -⟩ := C
  exact fun H ls locs hP hD hS hl => lv_iconst hx hb hdg hv (kk H ls locs hP hD hS hl)
theorem j_bipush (C : JC z l0 D A cI cB cO cc nL own) {n : Int} {v : Int32} (hv : (Int8.ofInt n).toInt32 = v) (hdg : decode cc pc = .ok (.bipush n, 2))
    (kk : J z D A nL cells slots ws (pc + 2) L (.int v :: S)) : J z D A nL cells slots ws pc L S := by
  obtain ⟨p, l, e, R, s, m, args, below, meth, c, Q⟩ := z
  obtain ⟨-, hx, hb, -⟩ := C
  exact fun H ls locs hP hD hS hl => lv_bipush hx hb hdg hv (kk H ls locs hP hD hS hl)
theorem j_sipush (C : JC z l0 D A cI cB cO cc nL own) {n : Int} {v : Int32} (hv : (Int16.ofInt n).toInt32 = v) (hdg : decode cc pc = .ok (.sipush n, 3))
    (kk : J z D A nL cells slots ws (pc + 3) L (.int v :: S)) : J z D A nL cells slots ws pc L S := by
  obtain ⟨p, l, e, R, s, m, args, below, meth, c, Q⟩ := z
  obtain ⟨-, hx, hb, -⟩ := C
  exact fun H ls locs hP hD hS hl => lv_sipush hx hb hdg hv (kk H ls locs hP hD hS hl)
theorem j_dup (C : JC z l0 D A cI cB cO cc nL own) {v : Value} (hv : v.category = 1) (hdg : decode cc pc = .ok (.dup, 1))
    (kk : J z D A nL cells slots ws (pc + 1) L (v :: v :: S)) : J z D A nL cells slots ws pc L (v :: S) := by
  obtain ⟨p, l, e, R, s, m, args, below, meth, c, Q⟩ := z
  obtain ⟨-, hx, hb, -⟩ := C
  exact fun H ls locs hP hD hS hl => lv_dup hx hb hdg hv (kk H ls locs hP hD hS hl)
theorem j_istore (C : JC z l0 D A cI cB cO cc nL own) {k : Fin 4} {i : Nat} {x : Int32} {L' : List (Nat × Value)} (hi : (k : Nat) = i) (hn : i < nL) (hL : (i, Value.int x) :: L.filter (fun q => !(q.1 == i) && !(q.1 + 1 == i && q.2.category == 2)) = L') (hdg : decode cc pc = .ok (.istore_n k, 1))
    (kk : J z D A nL cells slots ws (pc + 1) L' S) : J z D A nL cells slots ws pc L (.int x :: S) := by
  obtain ⟨p, l, e, R, s, m, args, below, meth, c, Q⟩ := z
  obtain ⟨-, hx, hb, -⟩ := C
  exact fun H ls locs hP hD hS hl => lv_istore_n hx hb hdg hi hl hn hL (fun ls' hl' => kk H ls' locs hP hD hS hl')
theorem j_astore (C : JC z l0 D A cI cB cO cc nL own) {k : Fin 4} {i : Nat} {x : Nat} {L' : List (Nat × Value)} (hi : (k : Nat) = i) (hn : i < nL) (hL : (i, Value.ref x) :: L.filter (fun q => !(q.1 == i) && !(q.1 + 1 == i && q.2.category == 2)) = L') (hdg : decode cc pc = .ok (.astore_n k, 1))
    (kk : J z D A nL cells slots ws (pc + 1) L' S) : J z D A nL cells slots ws pc L (.ref x :: S) := by
  obtain ⟨p, l, e, R, s, m, args, below, meth, c, Q⟩ := z
  obtain ⟨-, hx, hb, -⟩ := C
  exact fun H ls locs hP hD hS hl => lv_astore_n hx hb hdg hi hl hn hL (fun ls' hl' => kk H ls' locs hP hD hS hl')
theorem j_iinc (C : JC z l0 D A cI cB cO cc nL own) {i k : Nat} {n : Int} {x v : Int32} {L' : List (Nat × Value)} (hk : L[k]? = some (i, .int x)) (hv : x + Int32.ofInt n = v) (hn : i < nL) (hL : (i, Value.int v) :: L.filter (fun q => !(q.1 == i) && !(q.1 + 1 == i && q.2.category == 2)) = L') (hdg : decode cc pc = .ok (.iinc i n, 3))
    (kk : J z D A nL cells slots ws (pc + 3) L' S) : J z D A nL cells slots ws pc L S := by
  obtain ⟨p, l, e, R, s, m, args, below, meth, c, Q⟩ := z
  obtain ⟨-, hx, hb, -⟩ := C
  exact fun H ls locs hP hD hS hl => lv_iinc hx hb hdg hl hk hv hn hL (fun ls' hl' => kk H ls' locs hP hD hS hl')
theorem j_goto (C : JC z l0 D A cI cB cO cc nL own) {off : Int} {tgt : Nat} (ht : (pc : Int) + off = (tgt : Int)) (hdg : decode cc pc = .ok (.goto off, 3))
    (kk : J z D A nL cells slots ws tgt L S) : J z D A nL cells slots ws pc L S := by
  obtain ⟨p, l, e, R, s, m, args, below, meth, c, Q⟩ := z
  obtain ⟨-, hx, hb, -⟩ := C
  exact fun H ls locs hP hD hS hl => lv_goto hx hb hdg ht (kk H ls locs hP hD hS hl)
theorem j_ge_f (C : JC z l0 D A cI cB cO cc nL own) {x y : Int32} {off : Int} {tgt : Nat} (ht : (pc : Int) + off = (tgt : Int)) (hn : ¬ y ≤ x) (hdg : decode cc pc = .ok (.if_icmp .ge off, 3))
    (kk : J z D A nL cells slots ws (pc + 3) L S) : J z D A nL cells slots ws pc L (.int y :: .int x :: S) := by
  obtain ⟨p, l, e, R, s, m, args, below, meth, c, Q⟩ := z
  obtain ⟨-, hx, hb, -⟩ := C
  exact fun H ls locs hP hD hS hl => lv_icmp_ge hx hb hdg ht (fun h => absurd h hn) (fun _ => kk H ls locs hP hD hS hl)
theorem j_ge_t (C : JC z l0 D A cI cB cO cc nL own) {x y : Int32} {off : Int} {tgt : Nat} (ht : (pc : Int) + off = (tgt : Int)) (hn : y ≤ x) (hdg : decode cc pc = .ok (.if_icmp .ge off, 3))
    (kk : J z D A nL cells slots ws tgt L S) : J z D A nL cells slots ws pc L (.int y :: .int x :: S) := by
  obtain ⟨p, l, e, R, s, m, args, below, meth, c, Q⟩ := z
  obtain ⟨-, hx, hb, -⟩ := C
  exact fun H ls locs hP hD hS hl => lv_icmp_ge hx hb hdg ht (fun _ => kk H ls locs hP hD hS hl) (fun h => absurd hn h)
theorem j_obj (C : JC z l0 D A cI cB cO cc nL own) (F : JF z 1) {idx a : Nat} (hlink : Cond.methodLink own idx objectInit ∈ TG) (hS8 : (S.map fun v => v.category).sum ≤ 8) (hdg : decode cc pc = .ok (.invokespecial idx, 3))
    (kk : J z D A nL cells slots ws (pc + 3) L S) : J z D A nL cells slots ws pc L (.ref a :: S) := by
  obtain ⟨p, l, e, R, s, m, args, below, meth, c, Q⟩ := z
  obtain ⟨-, hx, hb, hml, hown, hts, -⟩ := C
  have F1 := F.1
  have F2 := F.2
  exact fun H ls locs hP hD hS hl => W.objInit hx hb hown (hts _ hlink) (hts _ im_objectInit) (hts _ co_objectInit) rfl (by rw [hml]; exact hl.1) rfl hdg F1 (by have h9 := lv_room (m := m) (pc := pc) (ls := ls) (rest := .ref a :: S) hS8; omega) (W.eq (g2 := F0 m (pc + 3) ls S) rfl (kk H ls locs hP hD hS hl))
theorem j_newI (C : JC z l0 D A cI cB cO cc nL own) {N : Nat} {n : Int32} (hn : nI N = n) (hN : N < 2 ^ 20) (M : JM z (cells + 1) (slots + N)) (harr : Cond.arrayClass .int ∈ TG) (hdg : decode cc pc = .ok (.newarray .int, 2))
    (kk : ∀ q, J z D A nL (cells + 1) (slots + N) (ws ++ [(q, .inl (cI, N, .inl (fun _ => 0)))]) (pc + 2) L (.ref q :: S)) : J z D A nL cells slots ws pc L (.int n :: S) := by
  obtain ⟨p, l, e, R, s, m, args, below, meth, c, Q⟩ := z
  obtain ⟨-, hx, hb, hml, hown, hts, hK, hA⟩ := C
  subst hn
  refine fun H ls locs hP hD hS hl => va_newa (atype := .int) (ty := .int) (a0 := (N, .inl (fun _ => 0))) (N' := N) hx hb (hts _ harr) rfl hK.1 hP hD hS hA (fun cA => by rw [vp_cell_i]; rfl) (nI_pos (by omega)) (nI_clamp (by omega)) (by show N * 4 ≤ _; omega) M.1 M.2 hdg (fun q cA H1 hK1 hP1 hD1 hS1 => ?_)
  have e1 : cA = cI := Option.some.inj ((hK1.2 3 (cA, .int) rfl).2.symm.trans (hK.1.2 0 (cI, .int) rfl).2)
  subst e1
  exact kk q H1 ls locs hP1 hD1 hS1 hl
theorem j_newB (C : JC z l0 D A cI cB cO cc nL own) {N : Nat} {n : Int32} (hn : nI N = n) (hN : N < 2 ^ 20) (M : JM z (cells + 1) (slots + N)) (harr : Cond.arrayClass .byte ∈ TG) (hdg : decode cc pc = .ok (.newarray .byte, 2))
    (kk : ∀ q, J z D A nL (cells + 1) (slots + N) (ws ++ [(q, .inl (cB, N, .inl (fun _ => 0)))]) (pc + 2) L (.ref q :: S)) : J z D A nL cells slots ws pc L (.int n :: S) := by
  obtain ⟨p, l, e, R, s, m, args, below, meth, c, Q⟩ := z
  obtain ⟨-, hx, hb, hml, hown, hts, hK, hA⟩ := C
  subst hn
  refine fun H ls locs hP hD hS hl => va_newa (atype := .byte) (ty := .byte) (a0 := (N, .inl (fun _ => 0))) (N' := N) hx hb (hts _ harr) rfl hK.1 hP hD hS hA (fun cA => by rw [vp_cell_i]; rfl) (nI_pos (by omega)) (nI_clamp (by omega)) (by show N * 1 ≤ _; omega) M.1 M.2 hdg (fun q cA H1 hK1 hP1 hD1 hS1 => ?_)
  have e1 : cA = cB := Option.some.inj ((hK1.2 3 (cA, .byte) rfl).2.symm.trans (hK.1.2 1 (cB, .byte) rfl).2)
  subst e1
  exact kk q H1 ls locs hP1 hD1 hS1 hl
theorem j_newR (C : JC z l0 D A cI cB cO cc nL own) {N idx : Nat} {n : Int32} (hn : nI N = n) (hN : N < 2 ^ 20) (M : JM z (cells + 1) (slots + N)) (hcl : Cond.classLink own idx RX3 ∈ TG) (hdg : decode cc pc = .ok (.anewarray idx, 3))
    (kk : ∀ q, J z D A nL (cells + 1) (slots + N) (ws ++ [(q, .inl (cO, N, .inr (.inr (.inr (.inr (fun _ => none))))))]) (pc + 3) L (.ref q :: S)) : J z D A nL cells slots ws pc L (.int n :: S) := by
  obtain ⟨p, l, e, R, s, m, args, below, meth, c, Q⟩ := z
  obtain ⟨-, hx, hb, hml, hown, hts, hK, hA⟩ := C
  subst hn
  refine fun H ls locs hP hD hS hl => va_newq (N' := N) hx hb hown (hts _ hcl) hK.2.2 hK.1 hP hD hS hA (nI_pos (by omega)) (nI_clamp (by omega)) (by omega) M.1 M.2 hdg (fun q cA H1 hK1 hP1 hD1 hS1 => ?_)
  obtain ⟨k1, c1, -, -, -, g1⟩ := (hK1.2 3 (cA, .object RX3) rfl).2
  obtain ⟨k2, c2, -, -, -, g2⟩ := (hK.1.2 2 (cO, .object RX3) rfl).2
  have e1 : cA = cO := Option.some.inj (g1.symm.trans g2)
  subst e1
  exact kk q H1 ls locs hP1 hD1 hS1 hl
theorem j_new (C : JC z l0 D A cI cB cO cc nL own) {ci N idx : Nat} {Cn : String} {T : u_T} {ty : Nat → FieldType} {fs : List Value} (hc : ClsOk ci Cn T N ty) (M : JM z (cells + 1) (slots + N)) (hcl : Cond.classLink own idx Cn ∈ TG) (hinst : Cond.instantiable Cn N ∈ TG) (hini : Cond.initialized Cn ∈ TG) (hfs : ∀ j, j < N → defaultValue (ty j) = vp_V fs j) (hdg : decode cc pc = .ok (.new idx, 3))
    (kk : ∀ q, J z D A nL (cells + 1) (slots + N) (ws ++ [(q, .inr (ci, fs))]) (pc + 3) L (.ref q :: S)) : J z D A nL cells slots ws pc L S := by
  obtain ⟨p, l, e, R, s, m, args, below, meth, c, Q⟩ := z
  obtain ⟨-, hx, hb, hml, hown, hts, hK, hA⟩ := C
  exact fun H ls locs hP hD hS hl => va_new hx hb hts hc.2.1 ty hc.2.2.1 hown (hts _ hcl) (hts _ hinst) (hts _ hini) hK.1 hP hD hS hA hc.1 hfs M.1 M.2 hdg (fun q H1 hP1 hD1 hS1 => kk q H1 ls locs hP1 hD1 hS1 hl)
theorem j_putF (C : JC z l0 D A cI cB cO cc nL own) (Nm : JN z) {ci N k idx h0 : Nat} {Cn : String} {T : u_T} {ty : Nat → FieldType} {fs : List Value} {v : Value} {t : FieldType} {r : va_W} (hc : ClsOk ci Cn T N ty) (hk : k < N) (hlink : Cond.fieldLink own idx (T k).1 (T k).2.1 (T k).2.2.1 ∈ TG) (hfin : (T k).2.2.2 = true) (hdecl : (T k).1 = own) (hd : parseFieldDescriptor (T k).2.2.1 = some t) (hn : narrow t v = v) (hfit : fits t v = true) (hl0 : k < fs.length) (hdg : decode cc pc = .ok (.putfield idx, 3))
    (kk : J z D A nL cells slots ((h0, .inr (ci, fs.set k v)) :: r) (pc + 3) L S) : J z D A nL cells slots ((h0, .inr (ci, fs)) :: r) pc L (v :: .ref h0 :: S) := by
  obtain ⟨p, l, e, R, s, m, args, below, meth, c, Q⟩ := z
  obtain ⟨-, hx, hb, hml, hown, hts, hK, hA⟩ := C
  exact fun H ls locs hP hD hS hl => va_putF hx hb hts hc.2.1 ty hc.2.2.1 hc.2.2.2 hown hK.1 hP hD hS 0 rfl hc.1 k hk (hts _ hlink) (fun _ h => h) hfin Nm hdecl hd hn hfit hl0 hdg (fun H1 locs1 hP1 hD1 hS1 => kk H1 ls locs1 hP1 hD1 hS1 hl)
theorem j_put (C : JC z l0 D A cI cB cO cc nL own) {ci N k idx h0 : Nat} {Cn : String} {T : u_T} {ty : Nat → FieldType} {fs : List Value} {v : Value} {t : FieldType} {r : va_W} (hc : ClsOk ci Cn T N ty) (hk : k < N) (hlink : Cond.fieldLink own idx (T k).1 (T k).2.1 (T k).2.2.1 ∈ TG) (hfin : (T k).2.2.2 = false) (hd : parseFieldDescriptor (T k).2.2.1 = some t) (hn : narrow t v = v) (hfit : fits t v = true) (hl0 : k < fs.length) (hdg : decode cc pc = .ok (.putfield idx, 3))
    (kk : J z D A nL cells slots ((h0, .inr (ci, fs.set k v)) :: r) (pc + 3) L S) : J z D A nL cells slots ((h0, .inr (ci, fs)) :: r) pc L (v :: .ref h0 :: S) := by
  obtain ⟨p, l, e, R, s, m, args, below, meth, c, Q⟩ := z
  obtain ⟨-, hx, hb, hml, hown, hts, hK, hA⟩ := C
  exact fun H ls locs hP hD hS hl => va_put hx hb hts hc.2.1 ty hc.2.2.1 hc.2.2.2 hown hK.1 hP hD hS 0 rfl hc.1 k hk (hts _ hlink) (fun _ h => h) hfin hd hn hfit hl0 hdg (fun H1 locs1 hP1 hD1 hS1 => kk H1 ls locs1 hP1 hD1 hS1 hl)
theorem j_get (C : JC z l0 D A cI cB cO cc nL own) {ci N k idx h0 : Nat} {Cn : String} {T : u_T} {ty : Nat → FieldType} {fs : List Value} {v : Value} {r : va_W} (hc : ClsOk ci Cn T N ty) (hk : k < N) (hlink : Cond.fieldLink own idx (T k).1 (T k).2.1 (T k).2.2.1 ∈ TG) (hv : fs[k]? = some v) (hdg : decode cc pc = .ok (.getfield idx, 3))
    (kk : J z D A nL cells slots ((h0, .inr (ci, fs)) :: r) (pc + 3) L (v :: S)) : J z D A nL cells slots ((h0, .inr (ci, fs)) :: r) pc L (.ref h0 :: S) := by
  obtain ⟨p, l, e, R, s, m, args, below, meth, c, Q⟩ := z
  obtain ⟨-, hx, hb, hml, hown, hts, hK, hA⟩ := C
  exact fun H ls locs hP hD hS hl => va_get hx hb hts hc.2.1 hown hK.1 hP 0 rfl hc.1 k hk (hts _ hlink) (fun _ h => h) hv hdg (kk H ls locs hP hD hS hl)
theorem j_iast (C : JC z l0 D A cI cB cO cc nL own) {a N : Nat} {f : Nat → Int32} {i x : Int32} {q0 : Nat} (hq : ws[q0]? = some (a, .inl (cI, N, .inl f))) (hin : vp_in i N) (hdg : decode cc pc = .ok (.iastore, 1))
    (kk : J z D A nL cells slots (ws.set q0 (a, .inl (cI, N, .inl (upd f i.toNatClampNeg x)))) (pc + 1) L S) : J z D A nL cells slots ws pc L (.int x :: .int i :: .ref a :: S) := by
  obtain ⟨p, l, e, R, s, m, args, below, meth, c, Q⟩ := z
  obtain ⟨-, hx, hb, hml, hown, hts, hK, hA⟩ := C
  exact fun H ls locs hP hD hS hl => va_iast hx hb hK.1 hP hD hS q0 0 hq rfl hin hdg (fun H1 locs1 hP1 hD1 hS1 => kk H1 ls locs1 hP1 hD1 hS1 hl)
theorem j_aast (C : JC z l0 D A cI cB cO cc nL own) {a N v : Nat} {f : Nat → Option Nat} {i : Int32} {vs : List Value} {q0 qk : Nat} (hq : ws[q0]? = some (a, .inl (cO, N, .inr (.inr (.inr (.inr f)))))) (hv : ws[qk]? = some (v, .inr (3, vs))) (hin : vp_in i N) (hdg : decode cc pc = .ok (.aastore, 1))
    (kk : J z D A nL cells slots (ws.set q0 (a, .inl (cO, N, .inr (.inr (.inr (.inr (va_up f i.toNatClampNeg (some v)))))))) (pc + 1) L S) : J z D A nL cells slots ws pc L (.ref v :: .int i :: .ref a :: S) := by
  obtain ⟨p, l, e, R, s, m, args, below, meth, c, Q⟩ := z
  obtain ⟨-, hx, hb, hml, hown, hts, hK, hA⟩ := C
  exact fun H ls locs hP hD hS hl => va_astq hx hb hK.1 hP hD hS q0 2 qk 3 hq rfl hv cls3.1 hin hdg (fun H1 locs1 hP1 hD1 hS1 => kk H1 ls locs1 hP1 hD1 hS1 hl)
theorem j_ring {a : Nat} {f g : Nat → Option Nat} {q0 : Nat} (hq : ws[q0]? = some (a, .inl (cO, 5, .inr (.inr (.inr (.inr f)))))) (hfg : ∀ j, j < 5 → f j = g j) (kk : J z D A nL cells slots (ws.set q0 (a, .inl (cO, 5, .inr (.inr (.inr (.inr g)))))) pc L S) : J z D A nL cells slots ws pc L S := by
  obtain ⟨p, l, e, R, s, m, args, below, meth, c, Q⟩ := z
  refine fun H ls locs hP hD hS hl => kk H ls locs (fun k q hk => ?_) (hD.set hq) hS hl
  by_cases hkp : k = q0
  · subst hkp
    rw [List.getElem?_set_self (List.getElem?_eq_some_iff.mp hq).1] at hk
    cases hk
    have h1 : H[a]? = some (vp_cell cO (5, .inr (.inr (.inr (.inr f))))) := hP k _ hq
    show H[a]? = some (vp_cell cO (5, .inr (.inr (.inr (.inr g)))))
    rw [h1, vp_cell_q, vp_cell_q, arrV_ext fun j hj => by rw [hfg j hj]]
  · rw [List.getElem?_set_ne (Ne.symm hkp)] at hk
    exact hP k q hk
theorem j_ws {ws' : va_W} (h : ws = ws') (kk : J z D A nL cells slots ws' pc L S) : J z D A nL cells slots ws pc L S := by subst h; exact kk
theorem j_L {L' : List (Nat × Value)} (h : L = L') (kk : J z D A nL cells slots ws pc L' S) : J z D A nL cells slots ws pc L S := by subst h; exact kk
theorem icP_blind {D : va_G} {cI cB cO : ClassId} {h0 sz ci : Nat} {fs0 : List Value} : FrameBlind (icP D cI cB cO h0 sz ci fs0) := fun a U g mk q => ⟨q.1, q.2.1, q.2.2.1, KC.same (u := U) (U := U.calling g mk a) rfl q.2.2.2⟩
theorem j_init (C : JC z l0 D A cI cB cO cc nL own) {y : MethodName} {bc : ByteArray} {n d mc ms ci idx q : Nat} {fs0 : List Value} {Sh : Nat → va_W → Prop} {r : va_W} (hM : Ic l0 D cI cB cO y bc n d mc ms ci fs0 Sh) (hm : Mt y bc n none 0) (hy : y.name = "<init>") (hlink : Cond.methodLink own idx y ∈ TG) (hin : Cond.instanceMethod y ∈ TG) (F : JF z (d + 1)) (M : JM z (cells + mc) (slots + ms)) (hS8 : (S.map fun v => v.category).sum ≤ 8) (hdg : decode cc pc = .ok (.invokespecial idx, 3))
    (kk : ∀ w1, Sh q w1 → J z D A nL (cells + mc) (slots + ms) (r ++ w1) (pc + 3) L S) : J z D A nL cells slots (r ++ [(q, .inr (ci, fs0))]) pc L (.ref q :: S) := by
  obtain ⟨p, l, e, R, s, m, args, below, meth, c, Q⟩ := z
  obtain ⟨rfl, hx, hb, hml, hown, hts, hK, hA⟩ := C
  intro H ls locs hP hD hS hl
  have F1 := F.1
  have F2 := F.2
  have hlast : (r ++ [(q, .inr (ci, fs0))])[r.length]? = some (q, .inr (ci, fs0)) := by simp
  have hF : ∀ x, icA q H.size ci fs0 x → A x := by
    rintro x (⟨j, e', hj⟩ | h)
    · have hj1 : j = 0 := by have : j < 1 := (List.getElem?_eq_some_iff.mp hj).1; omega
      subst hj1
      have hq : q = x := congrArg Prod.fst (Option.some.inj hj)
      rw [← hq]
      exact hD.2 _ _ hlast
    · exact hA x (Nat.le_trans hS.1 h)
  have hP0 : va_P D vwCl [(q, .inr (ci, fs0))] H := fun k x hx => by
    have hj1 : k = 0 := by have : k < 1 := (List.getElem?_eq_some_iff.mp hx).1; omega
    subst hj1
    cases hx
    exact hP _ _ hlast
  refine va_callv (va_runI (Ts := TG) (own := own) (nL := nL) (As := []) (rest := S) ⟨hx, hb, hml, hown, hts⟩ (hM q H.size) ⟨callB_of 0 hts (mt_good hm) rfl rfl rfl (hts _ hm.2.1) (hts _ hlink) hm.2.2.1 ⟨by show d + 1 ≤ _; omega, by have := hm.2.2.2; show 8 + (n + 11) + 32 * d ≤ _; omega⟩, hy, hts _ hin⟩ ⟨icP_blind, fun U hU hW => ⟨rfl, by rw [hU], by rw [hU]; exact hP0, hK.warm hW⟩⟩ rfl rfl hl.1 rfl (lv_room hS8) hdg M) hS (fun x _ h => hF x h) hF (fun u t H1 locs1 ht hvm hw hB hz1 hk1 hS1 => ?_)
  obtain ⟨hP1, hD1⟩ := hB
  rw [ht] at hP1
  obtain ⟨hP2, hD2⟩ := va_joinL hP hD hF hk1 hP1 hD1
  exact kk u hw H1 ls locs1 hP2 hD2 hS1 hl
theorem j_initN (C : JC z l0 D A cI cB cO cc nL own) {y : MethodName} {bc : ByteArray} {n d mc ms ci idx q : Nat} {fs0 : List Value} {Sh : Nat → va_W → Prop} {r : va_W} {host : String} (hM : Ic l0 D cI cB cO y bc n d mc ms ci fs0 Sh) (hm : Mt y bc n none 0) (hy : y.name = "<init>") (hlink : (own, idx, y, host) ∈ TN) (hin : Cond.instanceMethod y ∈ TG) (F : JF z (d + 1)) (M : JM z (cells + mc) (slots + ms)) (hS8 : (S.map fun v => v.category).sum ≤ 8) (hdg : decode cc pc = .ok (.invokespecial idx, 3))
    (kk : ∀ w1, Sh q w1 → J z D A nL (cells + mc) (slots + ms) (r ++ w1) (pc + 3) L S) : J z D A nL cells slots (r ++ [(q, .inr (ci, fs0))]) pc L (.ref q :: S) := by
  obtain ⟨p, l, e, R, s, m, args, below, meth, c, Q⟩ := z
  obtain ⟨rfl, hx, hb, hml, hown, hts, hK, hA⟩ := C
  intro H ls locs hP hD hS hl
  have F1 := F.1
  have F2 := F.2
  have hlast : (r ++ [(q, .inr (ci, fs0))])[r.length]? = some (q, .inr (ci, fs0)) := by simp
  have hF : ∀ x, icA q H.size ci fs0 x → A x := by
    rintro x (⟨j, e', hj⟩ | h)
    · have hj1 : j = 0 := by have : j < 1 := (List.getElem?_eq_some_iff.mp hj).1; omega
      subst hj1
      have hq : q = x := congrArg Prod.fst (Option.some.inj hj)
      rw [← hq]
      exact hD.2 _ _ hlast
    · exact hA x (Nat.le_trans hS.1 h)
  have hP0 : va_P D vwCl [(q, .inr (ci, fs0))] H := fun k x hx => by
    have hj1 : k = 0 := by have : k < 1 := (List.getElem?_eq_some_iff.mp hx).1; omega
    subst hj1
    cases hx
    exact hP _ _ hlast
  refine va_callv (va_runIN (Ts := TG) (own := own) (nL := nL) (host := host) (As := []) (rest := S) ⟨hx, hb, hml, hown, hts⟩ (hM q H.size) ⟨va_cnB 0 hts (mt_good hm) rfl rfl rfl (hK.2.1 _ hlink) (hts _ hm.2.1) hm.2.2.1 ⟨by show d + 1 ≤ _; omega, by have := hm.2.2.2; show 8 + (n + 11) + 32 * d ≤ _; omega⟩, hy, hts _ hin⟩ ⟨icP_blind, fun U hU hW => ⟨rfl, by rw [hU], by rw [hU]; exact hP0, hK.warm hW⟩⟩ rfl rfl hl.1 rfl (lv_room hS8) hdg M) hS (fun x _ h => hF x h) hF (fun u t H1 locs1 ht hvm hw hB hz1 hk1 hS1 => ?_)
  obtain ⟨hP1, hD1⟩ := hB
  rw [ht] at hP1
  obtain ⟨hP2, hD2⟩ := va_joinL hP hD hF hk1 hP1 hD1
  exact kk u hw H1 ls locs1 hP2 hD2 hS1 hl
theorem j_vret (C : JC z l0 D A cI cB cO cc nL own) {h0 mc ms : Nat} {Sh : Nat → va_W → Prop} (E : JE z D A h0 mc ms Sh) (hc : cells ≤ mc) (hs : slots ≤ ms) (hsh : Sh h0 ws) (hdg : decode cc pc = .ok (.return_, 1)) : J z D A nL cells slots ws pc L [] := by
  obtain ⟨p, l, e, R, s, m, args, below, meth, c, Q⟩ := z
  obtain ⟨-, hx, hb, -⟩ := C
  obtain ⟨hr, hlocks, rfl⟩ := E
  exact fun H ls locs hP hD hS hl => W.widen hc hs (W.vret hx hb hr (fun t ht hW => ⟨⟨ws, rfl, hsh, by rw [ht]; exact hP, hD⟩, hS.F ht⟩) hS.2.2 hdg hlocks)
end JR
