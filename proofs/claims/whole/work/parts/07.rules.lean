/-! further rules of the walk: numbers by nI, truth values, the long field -/
theorem Kt.of2 {w : GW} {y : MethodName} {cc : ByteArray} {n : Nat} {ret : Option FieldType} {d : Nat} {as : List Value} {sg : Sg} {tu : Int64} {r : Option Value} {sg' : Sg} {tu' : Int64} (own : String) (ho : y.cls = own) (L0 : List (Nat × Value)) (hn : plainName y.cls = true) (hL : lv_args 0 as = L0) (hlen : (lg_sl as).length ≤ n) (body : ∀ z, Cx z w cc n own d → Ends z w ret r sg' tu' → G z w n sg tu 0 L0 []) : Kt w y cc n ret d as sg tu r sg' tu' := by
  subst ho
  exact Kt.of hn hL hlen body
def bI (P : Prop) [Decidable P] : Int32 := if P then 1 else 0
theorem bI_t {P : Prop} [Decidable P] (h : P) : bI P = 1 := if_pos h
theorem bI_f {P : Prop} [Decidable P] (h : ¬ P) : bI P = 0 := if_neg h
theorem bI_nar {P : Prop} [Decidable P] : narrow .boolean (.int (bI P)) = .int (bI P) := by
  by_cases h : P
  · rw [bI_t h]; decide +kernel
  · rw [bI_f h]; decide +kernel
theorem Sq.rf {sg : Sg} : Sq sg sg := fun _ _ _ => rfl
theorem Sq.of {sg sg' : Sg} (h : sg = sg') : Sq sg sg' := fun _ _ _ => by rw [h]
theorem e_0 : shapes[0]? = some (.inr (4, [(1, 1), (1, 6), (1, 11), (1, 38), (1, 40), (0, 0), (0, 0), (0, 0)])) := rfl
theorem e_1 : shapes[1]? = some (.inr (3, [(1, 2), (1, 3), (1, 4), (1, 5), (0, 0), (0, 0), (0, 0), (0, 0)])) := rfl
theorem e_2 : shapes[2]? = some (.inl (0, 6)) := rfl
theorem e_3 : shapes[3]? = some (.inl (0, 6)) := rfl
theorem e_4 : shapes[4]? = some (.inl (0, 12)) := rfl
theorem e_5 : shapes[5]? = some (.inl (0, 7)) := rfl
theorem e_6 : shapes[6]? = some (.inr (3, [(1, 7), (1, 8), (1, 9), (1, 10), (0, 0), (0, 0), (0, 0), (0, 0)])) := rfl
theorem e_7 : shapes[7]? = some (.inl (0, 6)) := rfl
theorem e_8 : shapes[8]? = some (.inl (0, 6)) := rfl
theorem e_9 : shapes[9]? = some (.inl (0, 12)) := rfl
theorem e_10 : shapes[10]? = some (.inl (0, 7)) := rfl
theorem e_11 : shapes[11]? = some (.inr (1, [(1, 12), (0, 0), (0, 0)])) := rfl
theorem e_12 : shapes[12]? = some (.inl (2, 5)) := rfl
theorem e_13 : shapes[13]? = some (.inr (3, [(1, 14), (1, 15), (1, 16), (1, 17), (0, 0), (0, 0), (0, 0), (0, 0)])) := rfl
theorem e_14 : shapes[14]? = some (.inl (0, 6)) := rfl
theorem e_15 : shapes[15]? = some (.inl (0, 6)) := rfl
theorem e_16 : shapes[16]? = some (.inl (0, 12)) := rfl
theorem e_17 : shapes[17]? = some (.inl (0, 7)) := rfl
theorem e_18 : shapes[18]? = some (.inr (3, [(1, 19), (1, 20), (1, 21), (1, 22), (0, 0), (0, 0), (0, 0), (0, 0)])) := rfl
theorem e_19 : shapes[19]? = some (.inl (0, 6)) := rfl
theorem e_20 : shapes[20]? = some (.inl (0, 6)) := rfl
theorem e_21 : shapes[21]? = some (.inl (0, 12)) := rfl
theorem e_22 : shapes[22]? = some (.inl (0, 7)) := rfl
theorem e_23 : shapes[23]? = some (.inr (3, [(1, 24), (1, 25), (1, 26), (1, 27), (0, 0), (0, 0), (0, 0), (0, 0)])) := rfl
theorem e_24 : shapes[24]? = some (.inl (0, 6)) := rfl
theorem e_25 : shapes[25]? = some (.inl (0, 6)) := rfl
theorem e_26 : shapes[26]? = some (.inl (0, 12)) := rfl
theorem e_27 : shapes[27]? = some (.inl (0, 7)) := rfl
theorem e_28 : shapes[28]? = some (.inr (3, [(1, 29), (1, 30), (1, 31), (1, 32), (0, 0), (0, 0), (0, 0), (0, 0)])) := rfl
theorem e_29 : shapes[29]? = some (.inl (0, 6)) := rfl
theorem e_30 : shapes[30]? = some (.inl (0, 6)) := rfl
theorem e_31 : shapes[31]? = some (.inl (0, 12)) := rfl
theorem e_32 : shapes[32]? = some (.inl (0, 7)) := rfl
theorem e_33 : shapes[33]? = some (.inr (3, [(1, 34), (1, 35), (1, 36), (1, 37), (0, 0), (0, 0), (0, 0), (0, 0)])) := rfl
theorem e_34 : shapes[34]? = some (.inl (0, 6)) := rfl
theorem e_35 : shapes[35]? = some (.inl (0, 6)) := rfl
theorem e_36 : shapes[36]? = some (.inl (0, 12)) := rfl
theorem e_37 : shapes[37]? = some (.inl (0, 7)) := rfl
theorem e_38 : shapes[38]? = some (.inr (2, [(1, 39), (0, 0)])) := rfl
theorem e_39 : shapes[39]? = some (.inl (1, 120)) := rfl
theorem e_40 : shapes[40]? = some (.inr (0, [(1, 41), (1, 42), (1, 43), (0, 0), (0, 0), (0, 0)])) := rfl
theorem e_41 : shapes[41]? = some (.inl (0, 60)) := rfl
theorem e_42 : shapes[42]? = some (.inl (0, 60)) := rfl
theorem e_43 : shapes[43]? = some (.inl (0, 60)) := rfl
theorem e_44 : shapes[44]? = some (.inr (5, [(1, 45), (1, 46), (1, 47), (0, 0), (1, 48), (1, 49), (0, 0), (1, 50), (1, 51), (1, 52), (1, 53), (1, 54), (0, 0), (0, 0), (0, 0), (2, 0)])) := rfl
theorem e_45 : shapes[45]? = some (.inl (0, 35)) := rfl
theorem e_46 : shapes[46]? = some (.inl (0, 35)) := rfl
theorem e_47 : shapes[47]? = some (.inl (0, 175)) := rfl
theorem e_48 : shapes[48]? = some (.inl (0, 3)) := rfl
theorem e_49 : shapes[49]? = some (.inl (0, 120)) := rfl
theorem e_50 : shapes[50]? = some (.inl (0, 6)) := rfl
theorem e_51 : shapes[51]? = some (.inl (0, 12)) := rfl
theorem e_52 : shapes[52]? = some (.inl (0, 7)) := rfl
theorem e_53 : shapes[53]? = some (.inl (0, 60)) := rfl
theorem e_54 : shapes[54]? = some (.inl (0, 120)) := rfl
section GR2
variable {z : GZ} {w : GW} {cc : ByteArray} {nL : Nat} {own : String} {d : Nat} {sg : Sg} {tu : Int64} {pc : Nat} {L : List (Nat × Value)} {S : List Value}
theorem g_eq {sg' : Sg} {tu' : Int64} {L' : List (Nat × Value)} {S' : List Value} (h1 : sg = sg') (h2 : tu = tu') (h3 : L = L') (h4 : S = S') (k : G z w nL sg' tu' pc L' S') : G z w nL sg tu pc L S := by
  subst h1; subst h2; subst h3; subst h4; exact k
theorem g_sgE {sg' : Sg} (h : sg = sg') (k : G z w nL sg' tu pc L S) : G z w nL sg tu pc L S := by subst h; exact k
theorem g_tuE {tu' : Int64} (h : tu = tu') (k : G z w nL sg tu' pc L S) : G z w nL sg tu pc L S := by subst h; exact k
theorem g_ialdN (C : Cx z w cc nL own d) {k N : Nat} (j : Nat) (hs : shapes[k]? = some (.inl (0, N))) (hj : j < N) (hN : N < 2 ^ 31) (hdg : decode cc pc = .ok (.iaload, 1))
    (kk : G z w nL sg tu (pc + 1) L (.int (sg k j) :: S)) : G z w nL sg tu pc L (.int (nI j) :: .ref (ad w k) :: S) := by
  refine g_iald C hs (vp_in_nI hj hN) hdg ?_
  rw [nI_clamp (by omega)]
  exact kk
theorem g_baldN (C : Cx z w cc nL own d) {k N : Nat} (j : Nat) (hs : shapes[k]? = some (.inl (1, N))) (hj : j < N) (hN : N < 2 ^ 31) (hdg : decode cc pc = .ok (.baload, 1))
    (kk : G z w nL sg tu (pc + 1) L (.int (sg k j) :: S)) : G z w nL sg tu pc L (.int (nI j) :: .ref (ad w k) :: S) := by
  refine g_bald C hs (vp_in_nI hj hN) hdg ?_
  rw [nI_clamp (by omega)]
  exact kk
theorem g_aaldN (C : Cx z w cc nL own d) {k N : Nat} (j : Nat) (hs : shapes[k]? = some (.inl (2, N))) (hj : j < N) (hN : N < 2 ^ 31) (hdg : decode cc pc = .ok (.aaload, 1))
    (kk : G z w nL sg tu (pc + 1) L (.ref (ad w (13 + 5 * j)) :: S)) : G z w nL sg tu pc L (.int (nI j) :: .ref (ad w k) :: S) := by
  refine g_aald C hs (vp_in_nI hj hN) hdg ?_
  rw [nI_clamp (by omega)]
  exact kk
theorem g_iastN (C : Cx z w cc nL own d) {k N : Nat} (j : Nat) (hs : shapes[k]? = some (.inl (0, N))) {x : Int32} (hj : j < N) (hN : N < 2 ^ 31) (hdg : decode cc pc = .ok (.iastore, 1))
    (kk : G z w nL (us sg k (upd (sg k) j x)) tu (pc + 1) L S) : G z w nL sg tu pc L (.int x :: .int (nI j) :: .ref (ad w k) :: S) := by
  refine g_iast C hs (vp_in_nI hj hN) hdg ?_
  rw [nI_clamp (by omega)]
  exact kk
theorem g_bastN (C : Cx z w cc nL own d) {k N : Nat} (j : Nat) (hs : shapes[k]? = some (.inl (1, N))) {x : Int32} (hj : j < N) (hN : N < 2 ^ 31) (hdg : decode cc pc = .ok (.bastore, 1))
    (kk : G z w nL (us sg k (upd (sg k) j (vp_nar .byte x))) tu (pc + 1) L S) : G z w nL sg tu pc L (.int x :: .int (nI j) :: .ref (ad w k) :: S) := by
  refine g_bast C hs (vp_in_nI hj hN) hdg ?_
  rw [nI_clamp (by omega)]
  exact kk
theorem g_bif_eq (C : Cx z w cc nL own d) {P : Prop} [Decidable P] {off : Int} {tgt : Nat} (ht : (pc : Int) + off = (tgt : Int)) (hdg : decode cc pc = .ok (.ifCond .eq off, 3))
    (kt : ¬ P → G z w nL sg tu tgt L S) (kf : P → G z w nL sg tu (pc + 3) L S) : G z w nL sg tu pc L (.int (bI P) :: S) :=
  g_if_eq C ht hdg (fun h => kt fun q => by rw [bI_t q] at h; exact absurd h (by decide)) (fun h => by
    by_cases q : P
    · exact kf q
    · exact absurd (bI_f q) h)
theorem g_bif_ne (C : Cx z w cc nL own d) {P : Prop} [Decidable P] {off : Int} {tgt : Nat} (ht : (pc : Int) + off = (tgt : Int)) (hdg : decode cc pc = .ok (.ifCond .ne off, 3))
    (kt : P → G z w nL sg tu tgt L S) (kf : ¬ P → G z w nL sg tu (pc + 3) L S) : G z w nL sg tu pc L (.int (bI P) :: S) :=
  g_if_ne C ht hdg (fun h => by
    by_cases q : P
    · exact kt q
    · exact absurd (bI_f q) h) (fun h => kf fun q => by rw [bI_t q] at h; exact absurd h (by decide))
theorem g_icmpN_ge (C : Cx z w cc nL own d) (a b : Nat) (ha : a < 2 ^ 31) (hb : b < 2 ^ 31) {off : Int} {tgt : Nat} (ht : (pc : Int) + off = (tgt : Int)) (hdg : decode cc pc = .ok (.if_icmp .ge off, 3))
    (kt : b ≤ a → G z w nL sg tu tgt L S) (kf : a < b → G z w nL sg tu (pc + 3) L S) : G z w nL sg tu pc L (.int (nI b) :: .int (nI a) :: S) :=
  g_icmp_ge C ht hdg (fun h => kt ((nI_leI hb ha).mp h)) (fun h => kf (Nat.lt_of_not_le fun q => h ((nI_leI hb ha).mpr q)))
theorem g_icmpN_gt (C : Cx z w cc nL own d) (a b : Nat) (ha : a < 2 ^ 31) (hb : b < 2 ^ 31) {off : Int} {tgt : Nat} (ht : (pc : Int) + off = (tgt : Int)) (hdg : decode cc pc = .ok (.if_icmp .gt off, 3))
    (kt : b < a → G z w nL sg tu tgt L S) (kf : a ≤ b → G z w nL sg tu (pc + 3) L S) : G z w nL sg tu pc L (.int (nI b) :: .int (nI a) :: S) :=
  g_icmp_gt C ht hdg (fun h => kt ((nI_ltI hb ha).mp h)) (fun h => kf (Nat.le_of_not_lt fun q => h ((nI_ltI hb ha).mpr q)))
theorem g_icmpN_lt (C : Cx z w cc nL own d) (a b : Nat) (ha : a < 2 ^ 31) (hb : b < 2 ^ 31) {off : Int} {tgt : Nat} (ht : (pc : Int) + off = (tgt : Int)) (hdg : decode cc pc = .ok (.if_icmp .lt off, 3))
    (kt : a < b → G z w nL sg tu tgt L S) (kf : b ≤ a → G z w nL sg tu (pc + 3) L S) : G z w nL sg tu pc L (.int (nI b) :: .int (nI a) :: S) :=
  g_icmp_lt C ht hdg (fun h => kt ((nI_ltI ha hb).mp h)) (fun h => kf (Nat.le_of_not_lt fun q => h ((nI_ltI ha hb).mpr q)))
theorem g_icmpN_le (C : Cx z w cc nL own d) (a b : Nat) (ha : a < 2 ^ 31) (hb : b < 2 ^ 31) {off : Int} {tgt : Nat} (ht : (pc : Int) + off = (tgt : Int)) (hdg : decode cc pc = .ok (.if_icmp .le off, 3))
    (kt : a ≤ b → G z w nL sg tu tgt L S) (kf : b < a → G z w nL sg tu (pc + 3) L S) : G z w nL sg tu pc L (.int (nI b) :: .int (nI a) :: S) :=
  g_icmp_le C ht hdg (fun h => kt ((nI_leI ha hb).mp h)) (fun h => kf (Nat.lt_of_not_le fun q => h ((nI_leI ha hb).mpr q)))
theorem g_icmpN_eq (C : Cx z w cc nL own d) (a b : Nat) (ha : a < 2 ^ 31) (hb : b < 2 ^ 31) {off : Int} {tgt : Nat} (ht : (pc : Int) + off = (tgt : Int)) (hdg : decode cc pc = .ok (.if_icmp .eq off, 3))
    (kt : a = b → G z w nL sg tu tgt L S) (kf : ¬ a = b → G z w nL sg tu (pc + 3) L S) : G z w nL sg tu pc L (.int (nI b) :: .int (nI a) :: S) :=
  g_icmp_eq C ht hdg (fun h => kt ((nI_eq ha hb).mp h)) (fun h => kf fun q => h ((nI_eq ha hb).mpr q))
theorem g_icmpN_ne (C : Cx z w cc nL own d) (a b : Nat) (ha : a < 2 ^ 31) (hb : b < 2 ^ 31) {off : Int} {tgt : Nat} (ht : (pc : Int) + off = (tgt : Int)) (hdg : decode cc pc = .ok (.if_icmp .ne off, 3))
    (kt : ¬ a = b → G z w nL sg tu tgt L S) (kf : a = b → G z w nL sg tu (pc + 3) L S) : G z w nL sg tu pc L (.int (nI b) :: .int (nI a) :: S) :=
  g_icmp_ne C ht hdg (fun h => kt fun q => h ((nI_eq ha hb).mpr q)) (fun h => kf ((nI_eq ha hb).mp h))
theorem g_ifN_eq (C : Cx z w cc nL own d) (a : Nat) (ha : a < 2 ^ 31) {off : Int} {tgt : Nat} (ht : (pc : Int) + off = (tgt : Int)) (hdg : decode cc pc = .ok (.ifCond .eq off, 3))
    (kt : a = 0 → G z w nL sg tu tgt L S) (kf : ¬ a = 0 → G z w nL sg tu (pc + 3) L S) : G z w nL sg tu pc L (.int (nI a) :: S) :=
  g_if_eq C ht hdg (fun h => kt ((nI_eq ha (by omega)).mp (h.trans nI_0.symm))) (fun h => kf fun q => h (by rw [q]; exact nI_0))
theorem g_ifN_ne (C : Cx z w cc nL own d) (a : Nat) (ha : a < 2 ^ 31) {off : Int} {tgt : Nat} (ht : (pc : Int) + off = (tgt : Int)) (hdg : decode cc pc = .ok (.ifCond .ne off, 3))
    (kt : ¬ a = 0 → G z w nL sg tu tgt L S) (kf : a = 0 → G z w nL sg tu (pc + 3) L S) : G z w nL sg tu pc L (.int (nI a) :: S) :=
  g_if_ne C ht hdg (fun h => kt fun q => h (by rw [q]; exact nI_0)) (fun h => kf ((nI_eq ha (by omega)).mp (h.trans nI_0.symm)))
theorem mapIdx_setL {w : GW} {f : Nat → Int32} {tu x : Int64} {fs : List (Nat × Nat)} {j q : Nat} (hf : fs[j]? = some (2, q)) (ho : ∀ i p, i ≠ j → fs[i]? = some p → p.1 = 0 ∨ p.1 = 1) : (fs.mapIdx (fun j q => va1 w (f j) tu q)).set j (.long x) = fs.mapIdx (fun i q => va1 w (f i) x q) := by
  apply List.ext_getElem?
  intro i
  have hl : j < fs.length := (List.getElem?_eq_some_iff.mp hf).1
  by_cases hi : i = j
  · subst hi
    rw [List.getElem?_set_self (by simpa using hl), List.getElem?_mapIdx, hf]
    simp [va1]
  · rw [List.getElem?_set_ne (Ne.symm hi), List.getElem?_mapIdx, List.getElem?_mapIdx]
    cases hp : fs[i]? with
    | none => rfl
    | some p =>
      rcases ho i p hi hp with h | h <;> simp [va1, h]
/-- no cell but the reference's object holds a long -/
theorem ce_long {w : GW} {sg : Sg} {tu tu' : Int64} (j : Nat) (sh : Shp) (hj : j ≠ 44) (hs : shapes[j]? = some sh) : ce w sg tu' j sh = ce w sg tu j sh := by
  have h0 : ∀ i, i < 55 → i ≠ 44 → ∀ x, shapes[i]? = some x → (match x with | .inl _ => true | .inr (_, fs) => fs.all (fun p => p.1 == 0 || p.1 == 1)) = true := by decide +kernel
  have h1 := h0 j (shapes_lt hs) hj sh hs
  match sh, h1 with
  | .inl (0, n), _ => rfl
  | .inl (1, n), _ => rfl
  | .inl (_ + 2, n), _ => rfl
  | .inr (ci, fs), h1 =>
    show Sum.inr (ci, _) = Sum.inr (ci, _)
    congr 2
    apply List.ext_getElem?
    intro i
    rw [List.getElem?_mapIdx, List.getElem?_mapIdx]
    cases hp : fs[i]? with
    | none => rfl
    | some p =>
      have h2 := List.all_eq_true.mp h1 p (List.mem_of_getElem? hp)
      simp only [Bool.or_eq_true, beq_iff_eq] at h2
      rcases h2 with h | h <;> simp [va1, h]
theorem g_putL (C : Cx z w cc nL own d) (hlink : Cond.fieldLink own 223 (TX5 15).1 (TX5 15).2.1 (TX5 15).2.2.1 ∈ TG) (hdg : decode cc pc = .ok (.putfield 223, 3)) {x : Int64}
    (kk : G z w nL sg x (pc + 3) L S) : G z w nL sg tu pc L (.long x :: .ref (ad w 44) :: S) := by
  obtain ⟨p, l, e, R, s, m, args, below, meth, c, cells, slots, Q⟩ := z
  obtain ⟨-, hx, hb, hml, hown, hts, hK, -⟩ := C
  have hc := cls5
  have hs := e_44
  refine fun H ls locs hH hS hl0 => va_put (fs := List.mapIdx (fun j q => va1 w (sg 44 j) tu q) [(1, 45), (1, 46), (1, 47), (0, 0), (1, 48), (1, 49), (0, 0), (1, 50), (1, 51), (1, 52), (1, 53), (1, 54), (0, 0), (0, 0), (0, 0), (2, 0)]) hx hb hts hc.2.1 tyX5 hc.2.2.1 hc.2.2.2 hown hK.1 hH (wl_D hK.2.2) hS 44 (wl_get hs) hc.1 15 (by decide) (hts _ hlink) (fun _ h => h) rfl (ty := .long) (by decide +kernel) rfl rfl (by simp) hdg (fun H1 locs1 hP1 _ hS1 => kk H1 ls locs1 ?_ hS1 hl0)
  rw [mapIdx_setL (x := x) (j := 15) (q := 0) rfl (by
    intro i p hi hp
    have h0 : ∀ i, i < 16 → i ≠ 15 → ∀ x, ([(1, 45), (1, 46), (1, 47), (0, 0), (1, 48), (1, 49), (0, 0), (1, 50), (1, 51), (1, 52), (1, 53), (1, 54), (0, 0), (0, 0), (0, 0), (2, 0)] : List (Nat × Nat))[i]? = some x → x.1 = 0 ∨ x.1 = 1 := by decide +kernel
    exact h0 i (List.getElem?_eq_some_iff.mp hp).1 hi p hp), wl_set (sg' := sg) (tu' := x) (e := .inr (5, List.mapIdx (fun i q => va1 w (sg 44 i) x q) [(1, 45), (1, 46), (1, 47), (0, 0), (1, 48), (1, 49), (0, 0), (1, 50), (1, 51), (1, 52), (1, 53), (1, 54), (0, 0), (0, 0), (0, 0), (2, 0)])) hs rfl (fun i sh hi hsi => ce_long i sh hi hsi)] at hP1
  exact hP1
end GR2
