/-! THE CLAIM OUT OF ONE WALK OF THE LAW'S BODY. Your part is whole_start (and what it stands on); all else here is the same for every law, but numbers. -/
def R_law : String := "DrumCrankLaw"
def lw_P (b : Addr) (xs : List Int32) (args : Array Value) (s : State) : Prop := args = #[.ref b] ∧ s.IntsAt b xs ∧ xs.length ≤ 2560 ∧ (Jvm.Cond.and given_1 narrow_1).before args s = true
def lw_Q (_ : Array Value) (s : State) (o : Outcome) (t : State) : Prop := o = .returned (some (.int 1)) ∧ Framed s o t [] 600000 7302250
def lw_Z (below : List Frame) (a : Array Value) (s : State) : State → Prop := fun t => ∃ o, t.status = .running ∧ Ended t below o ∧ lw_Q a s o t
/-- the law's own end, with 1 on the stack, nothing written that was there before, its room as the claim has it -/
theorem lw_ret {p : Program} {l : Launch} {e : Env} {s : State} {m : MethodId} {below : List Frame} {meth : Method} {c : Code} {b : Nat} (hx : p.tables.exec = Jvm.exec) (hb : c.code = code) (hr : meth.sig.returnType = ret) (hlocks : meth.locks = false) {pc : Nat} {H : Heap} {ls : Array Slot} (hdg : decode code pc = .ok (.ireturn, 1)) : W p l e room_1 s m #[Value.ref b] below meth c H [] 600000 7302250 (lw_Z below #[Value.ref b] s) (F0 m pc ls [.int 1]) := by
  intro T hT X
  obtain ⟨fs, hret, hrun, hended, hW, hframe⟩ := X.leave (v := some (.int 1)) (hlocks := hlocks) (fun h => by rw [hr] at h; cases h)
  have hmeth' : T.vm.method? m = some meth := X.method'
  refine ⟨T.setFrames fs, ?_, .returned (some (.int 1)), hrun, hended, rfl, ⟨_, rfl⟩, hW, hframe⟩
  jvm_step X.here [X.here.top, hx, hb, hdg, hmeth', hr, ret, narrow_b1]
  (try refine ⟨rfl, ?_⟩); (try refine ⟨rfl, ?_⟩)
  first | (intro acts; rw [hret _ acts rfl rfl rfl]) | rw [hret _ _ rfl rfl rfl]
  exact Steps.refl _
/-- what holds at the law's entry: the machine, the code, the tables' words (any of lw_tbl by 'hts w (by decide +kernel)'), the script of L ints xs at the cell b, what the Statement gives of the start (any of its parts by flat_of_before) -/
def lw_At (p : Program) (s : State) (m : MethodId) (meth : Method) (c : Code) (b L : Nat) (xs : Nat → Int32) : Prop :=
  p.tables.exec = Jvm.exec ∧ c.code = code ∧ meth.sig.returnType = ret ∧ c.maxLocals = 4 ∧ s.vm.findClass R_law = some m.cls ∧ (∀ w ∈ lw_tbl, w.before #[Value.ref b] s = true) ∧ va_X b L xs s s.heap ∧ b < s.heap.size ∧ meth.locks = false ∧ (Jvm.Cond.and given_1 narrow_1).before #[Value.ref b] s = true
theorem nest_in : ∀ q ∈ TN, Cond.methodLinkNest q.1 q.2.1 q.2.2.1 q.2.2.2 ∈ lw_tbl := by
  refine List.forall_mem_cons.mpr ⟨List.mem_of_getElem? (i := 68) (by decide +kernel), List.forall_mem_cons.mpr ⟨List.mem_of_getElem? (i := 108) (by decide +kernel), List.forall_mem_cons.mpr ⟨List.mem_of_getElem? (i := 122) (by decide +kernel), List.forall_mem_cons.mpr ⟨List.mem_of_getElem? (i := 138) (by decide +kernel), List.forall_mem_cons.mpr ⟨List.mem_of_getElem? (i := 210) (by decide +kernel), List.forall_mem_cons.mpr ⟨List.mem_of_getElem? (i := 239) (by decide +kernel), List.forall_mem_cons.mpr ⟨List.mem_of_getElem? (i := 243) (by decide +kernel), List.forall_mem_cons.mpr ⟨List.mem_of_getElem? (i := 327) (by decide +kernel), List.forall_mem_cons.mpr ⟨List.mem_of_getElem? (i := 333) (by decide +kernel), List.forall_mem_cons.mpr ⟨List.mem_of_getElem? (i := 336) (by decide +kernel), List.forall_mem_cons.mpr ⟨List.mem_of_getElem? (i := 339) (by decide +kernel), List.forall_mem_cons.mpr ⟨List.mem_of_getElem? (i := 440) (by decide +kernel), List.forall_mem_cons.mpr ⟨List.mem_of_getElem? (i := 481) (by decide +kernel), fun _ h => absurd h List.not_mem_nil⟩⟩⟩⟩⟩⟩⟩⟩⟩⟩⟩⟩⟩
theorem over_in : Cond.arrayOver (.object RX3) ∈ lw_tbl := List.mem_of_getElem? (i := 107) (by decide +kernel)
theorem TG_sub {x : Cond} (h : x ∈ TG) : x ∈ lw_tbl := (List.mem_filter.mp h).1
set_option maxRecDepth 100000 in
set_option maxHeartbeats 4000000 in
theorem whole_start {p : Program} {e : Env} {s : State} {m : MethodId} {below : List Frame} {meth : Method} {c : Code} (l : Launch) (hflags : l.flags = flags0) {b L : Nat} {xs : Nat → Int32} (hL : L ≤ 2560) (C0 : lw_At p s m meth c b L xs) : W p l e room_1 s m #[Value.ref b] below meth c s.heap [] 0 0 (lw_Z below #[Value.ref b] s) (entryFrame m ([Value.ref b] : List Value).toArray 4) := by
  obtain ⟨hx, hb, hr, hml, hown, hts, hX, hbl, hlocks, hgv⟩ := C0
  have htg : ∀ x ∈ TG, x.before #[Value.ref b] s = true := fun x h => hts x (TG_sub h)
  obtain ⟨k0, iS0, hK0⟩ := u_known (C := RX0) (T := TX0) (N := 6) (n := 6) htg cls0.2.1 (htg _ ki_X0)
  obtain ⟨k1, iS1, hK1⟩ := u_known (C := RX1) (T := TX1) (N := 3) (n := 3) htg cls1.2.1 (htg _ ki_X1)
  obtain ⟨k2, iS2, hK2⟩ := u_known (C := RX2) (T := TX2) (N := 2) (n := 2) htg cls2.2.1 (htg _ ki_X2)
  obtain ⟨k3, iS3, hK3⟩ := u_known (C := RX3) (T := TX3) (N := 8) (n := 8) htg cls3.2.1 (htg _ ki_X3)
  obtain ⟨k4, iS4, hK4⟩ := u_known (C := RX4) (T := TX4) (N := 8) (n := 8) htg cls4.2.1 (htg _ ki_X4)
  obtain ⟨k5, iS5, hK5⟩ := u_known (C := RX5) (T := TX5) (N := 16) (n := 16) htg cls5.2.1 (htg _ ki_X5)
  obtain ⟨dC, dI, hKc⟩ : ∃ (dC : Nat → ClassId) (dI : Nat → Nat → Nat), ∀ (k : Nat) (q : vw_C), vwCl[k]? = some q → u_Kn s q.1 q.2.1 q.2.2 (dC k) (dI k) := by
    refine ⟨fun k => if k = 0 then k0 else if k = 1 then k1 else if k = 2 then k2 else if k = 3 then k3 else if k = 4 then k4 else k5, fun k => if k = 0 then iS0 else if k = 1 then iS1 else if k = 2 then iS2 else if k = 3 then iS3 else if k = 4 then iS4 else iS5, ?_⟩
    intro k q hq
    have hk6 : k < 6 := (List.getElem?_eq_some_iff.mp hq).1
    rcases (show k = 0 ∨ k = 1 ∨ k = 2 ∨ k = 3 ∨ k = 4 ∨ k = 5 by omega) with rfl | rfl | rfl | rfl | rfl | rfl
    · cases hq; exact hK0
    · cases hq; exact hK1
    · cases hq; exact hK2
    · cases hq; exact hK3
    · cases hq; exact hK4
    · cases hq; exact hK5
  obtain ⟨cI, kI, pI, fI1, fI2, fI3⟩ := Cond.arrayClass_spec (htg _ ka_int)
  obtain ⟨cB, kB, pB, fB1, fB2, fB3⟩ := Cond.arrayClass_spec (htg _ ka_byte)
  obtain ⟨pO, cO, kO, fO1, fO2, fO3, fO4, fO5⟩ := Cond.arrayOver_spec (hts _ over_in)
  have hKC : KC (dC, dI) cI cB cO s := by
    refine ⟨⟨hKc, fun k q hq => ?_⟩, fun q hq => va_Nw.of rfl (hts _ (nest_in q hq)), va_AO.of (hts _ over_in)⟩
    have hk3 : k < 3 := (List.getElem?_eq_some_iff.mp hq).1
    rcases (show k = 0 ∨ k = 1 ∨ k = 2 by omega) with rfl | rfl | rfl
    · cases hq; exact ⟨fun n z => ⟨fun k h => (by cases h), kI, fI2, pI, fI3⟩, fI1⟩
    · cases hq; exact ⟨fun n z => ⟨fun k h => (by cases h), kB, fB2, pB, fB3⟩, fB1⟩
    · cases hq; exact ⟨fun n z => ⟨fun k h => (by cases h), kO, fO3, pO, fO4⟩, kO, pO, fO3, fO4, fO1, fO5⟩
  have key : J (p, l, e, room_1, s, m, #[Value.ref b], below, meth, c, lw_Z below #[Value.ref b] s) (dC, dI) (fun q => s.heap.size ≤ q) 4 0 0 [] 0 [(0, .ref b)] [] := by
    have C : JC (p, l, e, room_1, s, m, #[Value.ref b], below, meth, c, lw_Z below #[Value.ref b] s) l (dC, dI) (fun q => s.heap.size ≤ q) cI cB cO cL_law 4 RL := ⟨rfl, hx, hb, hml, hown, htg, hKC, fun _ h => h⟩
    have M : ∀ a b', a ≤ 600000 → b' ≤ 7302250 → JM (p, l, e, room_1, s, m, #[Value.ref b], below, meth, c, lw_Z below #[Value.ref b] s) a b' := fun a b' h1 h2 => ⟨h1, h2⟩
    have F : ∀ f, f ≤ 9 → JF (p, l, e, room_1, s, m, #[Value.ref b], below, meth, c, lw_Z below #[Value.ref b] s) f := fun f h1 => ⟨h1, by show 32 * f ≤ 314; omega⟩
    refine j_new C (fs := fs4) cls4 (M _ _ (by decide) (by decide)) kl_L_7 ki_X4 ini_X4 (fun j hj => by rcases (show j = 0 ∨ j = 1 ∨ j = 2 ∨ j = 3 ∨ j = 4 ∨ j = 5 ∨ j = 6 ∨ j = 7 by omega) with rfl | rfl | rfl | rfl | rfl | rfl | rfl | rfl <;> rfl) dL_law_0 (fun q0 => ?_)
    refine j_dup C rfl dL_law_3 ?_
    refine j_init C (r := []) (i_X4 l (dC, dI) cI cB cO) mt_X4_init rfl ml_L_9 im_X4_init (F 4 (by decide)) (M _ _ (by decide) (by decide)) (Nat.le_of_ble_eq_true rfl) dL_law_4 (fun w1 hw1 => ?_)
    obtain ⟨t, ht, rfl⟩ := hw1
    subst ht
    refine j_astore C (L' := [(1, .ref (t 0)), (0, .ref b)]) rfl (by decide) rfl dL_law_7 ?_
    refine j_new C (fs := fs5) cls5 (M _ _ (by decide) (by decide)) kl_L_10 ki_X5 ini_X5 (fun j hj => by rcases (show j = 0 ∨ j = 1 ∨ j = 2 ∨ j = 3 ∨ j = 4 ∨ j = 5 ∨ j = 6 ∨ j = 7 ∨ j = 8 ∨ j = 9 ∨ j = 10 ∨ j = 11 ∨ j = 12 ∨ j = 13 ∨ j = 14 ∨ j = 15 by omega) with rfl | rfl | rfl | rfl | rfl | rfl | rfl | rfl | rfl | rfl | rfl | rfl | rfl | rfl | rfl | rfl <;> rfl) dL_law_8 (fun q1 => ?_)
    refine j_dup C rfl dL_law_11 ?_
    refine j_init C (r := [] ++ dcL cI cB cO t) (i_X5 l (dC, dI) cI cB cO) mt_X5_init rfl ml_L_12 im_X5_init (F 2 (by decide)) (M _ _ (by decide) (by decide)) (Nat.le_of_ble_eq_true rfl) dL_law_12 (fun w2 hw2 => ?_)
    obtain ⟨u, hu, rfl⟩ := hw2
    subst hu
    refine j_astore C (L' := [(2, .ref (u 0)), (1, .ref (t 0)), (0, .ref b)]) rfl (by decide) rfl dL_law_15 ?_
    refine j_iconst C (v := nI 0) (by decide) dL_law_16 ?_
    refine j_istore C (L' := [(3, .int (nI 0)), (2, .ref (u 0)), (1, .ref (t 0)), (0, .ref b)]) rfl (by decide) rfl dL_law_17 ?_
    refine j_ring (q0 := 12) (a := t 12) (f := fun j => some (t (13 + 5 * j))) (g := fun j => some (ad (w00 l (dC, dI) cI cB cO t u (fun q => s.heap.size ≤ q)) (13 + 5 * j))) rfl (fun j hj => by show _ = some (if 13 + 5 * j < 44 then t (13 + 5 * j) else u (13 + 5 * j - 44)); rw [if_pos (by omega)]) ?_
    refine j_ws (ws' := wl (w00 l (dC, dI) cI cB cO t u (fun q => s.heap.size ≤ q)) sg0 0) (wl00 l (dC, dI) cI cB cO t u (fun q => s.heap.size ≤ q)) ?_
    intro H ls locs hP hD hS hl
    refine W.widen (k := 600000) (n := 7302250) (by decide) (by decide) ?_
    have hAd : AdOk (w00 l (dC, dI) cI cB cO t u (fun q => s.heap.size ≤ q)) := ad00 hD
    have CX : Cx (p, l, e, room_1, s, m, #[Value.ref b], below, meth, c, 600000, 7302250, lw_Z below #[Value.ref b] s) (w00 l (dC, dI) cI cB cO t u (fun q => s.heap.size ≤ q)) cL_law 4 RL 9 := ⟨rfl, hx, hb, hml, hown, htg, ⟨hKC.1, hKC.2.1, hAd⟩, ⟨Nat.le_refl _, by show 32 * 9 ≤ 314; decide⟩, Nat.le_refl _, Nat.le_refl _⟩
    have SX : ScX (p, l, e, room_1, s, m, #[Value.ref b], below, meth, c, 600000, 7302250, lw_Z below #[Value.ref b] s) (w00 l (dC, dI) cI cB cO t u (fun q => s.heap.size ≤ q)) b L xs := ⟨hX, hbl, Nat.not_le.mpr hbl⟩
    have hend : ∀ sg tu L', G (p, l, e, room_1, s, m, #[Value.ref b], below, meth, c, 600000, 7302250, lw_Z below #[Value.ref b] s) (w00 l (dC, dI) cI cB cO t u (fun q => s.heap.size ≤ q)) 4 sg tu 793 L' [.int (nI 1)] := fun sg tu L' H ls locs hH hS hl => va_forget (fun q hq => hS.2.2 q hq) (lw_ret hx hb hr hlocks dL_law_793)
    exact law_loop CX SX hL hend 513 0 sg0 0 a00 rfl (by decide) OA00 CA00 RA00 H ls locs hP hS hl
  rw [lg_entry_eq]
  exact key s.heap _ [] (fun k q h => by simp at h) ⟨fun i j p q h => by simp at h, fun k q h => by simp at h⟩ va_S.rf (lv_entry [.ref b] (Nat.le_of_ble_eq_true rfl))
