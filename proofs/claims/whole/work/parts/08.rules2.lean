/-! calls with their answers laid out; long comparisons -/
theorem lg_lt {x y : Int64} : lg_cmp x y < 0 ↔ x < y := by
  unfold lg_cmp
  by_cases h1 : x > y
  · rw [if_pos h1]
    have h1' : y < x := h1
    refine ⟨fun h => absurd h (by decide), fun h => ?_⟩
    rw [Int64.lt_iff_toInt_lt] at h h1'
    omega
  · rw [if_neg h1]
    by_cases h2 : x = y
    · rw [if_pos h2, h2]
      refine ⟨fun h => absurd h (by decide), fun h => ?_⟩
      rw [Int64.lt_iff_toInt_lt] at h
      omega
    · rw [if_neg h2]
      refine ⟨fun _ => ?_, fun _ => by decide⟩
      have h1' : ¬ y < x := h1
      rw [Int64.lt_iff_toInt_lt] at h1' ⊢
      have h3 : x.toInt ≠ y.toInt := fun q => h2 (Int64.toInt_inj.mp q)
      omega
theorem lg_gt {x y : Int64} : 0 < lg_cmp x y ↔ y < x := by
  unfold lg_cmp
  by_cases h1 : x > y
  · rw [if_pos h1]
    exact ⟨fun _ => h1, fun _ => by decide⟩
  · rw [if_neg h1]
    by_cases h2 : x = y
    · rw [if_pos h2]
      exact ⟨fun h => absurd h (by decide), fun h => absurd h h1⟩
    · rw [if_neg h2]
      exact ⟨fun h => absurd h (by decide), fun h => absurd h h1⟩
theorem lg_eq {x y : Int64} : lg_cmp x y = 0 ↔ x = y := by
  unfold lg_cmp
  by_cases h1 : x > y
  · rw [if_pos h1]
    refine ⟨fun h => absurd h (by decide), fun h => ?_⟩
    rw [h] at h1
    have h1' : y < y := h1
    rw [Int64.lt_iff_toInt_lt] at h1'
    omega
  · rw [if_neg h1]
    by_cases h2 : x = y
    · rw [if_pos h2]
      exact ⟨fun _ => h2, fun _ => rfl⟩
    · rw [if_neg h2]
      exact ⟨fun h => absurd h (by decide), fun h => absurd h h2⟩
section GR3
variable {z : GZ} {w : GW} {cc : ByteArray} {nL : Nat} {own : String} {d : Nat} {sg : Sg} {tu : Int64} {pc : Nat} {L : List (Nat × Value)} {S : List Value}
variable {y : MethodName} {bc : ByteArray} {n np d' idx : Nat} {ret : Option FieldType} {As : List Value} {v : Value} {sg' : Sg} {tu' : Int64}
theorem g_lif_lt (C : Cx z w cc nL own d) {a b : Int64} {off : Int} {tgt : Nat} (ht : (pc : Int) + off = (tgt : Int)) (hdg : decode cc pc = .ok (.ifCond .lt off, 3))
    (kt : a < b → G z w nL sg tu tgt L S) (kf : ¬ a < b → G z w nL sg tu (pc + 3) L S) : G z w nL sg tu pc L (.int (lg_cmp a b) :: S) := g_if_lt C ht hdg (fun h => kt (lg_lt.mp h)) (fun h => kf fun q => h (lg_lt.mpr q))
theorem g_lif_gt (C : Cx z w cc nL own d) {a b : Int64} {off : Int} {tgt : Nat} (ht : (pc : Int) + off = (tgt : Int)) (hdg : decode cc pc = .ok (.ifCond .gt off, 3))
    (kt : b < a → G z w nL sg tu tgt L S) (kf : ¬ b < a → G z w nL sg tu (pc + 3) L S) : G z w nL sg tu pc L (.int (lg_cmp a b) :: S) := g_if_gt C ht hdg (fun h => kt (lg_gt.mp h)) (fun h => kf fun q => h (lg_gt.mpr q))
theorem g_lif_eq (C : Cx z w cc nL own d) {a b : Int64} {off : Int} {tgt : Nat} (ht : (pc : Int) + off = (tgt : Int)) (hdg : decode cc pc = .ok (.ifCond .eq off, 3))
    (kt : a = b → G z w nL sg tu tgt L S) (kf : ¬ a = b → G z w nL sg tu (pc + 3) L S) : G z w nL sg tu pc L (.int (lg_cmp a b) :: S) := g_if_eq C ht hdg (fun h => kt (lg_eq.mp h)) (fun h => kf fun q => h (lg_eq.mpr q))
theorem g_lif_ne (C : Cx z w cc nL own d) {a b : Int64} {off : Int} {tgt : Nat} (ht : (pc : Int) + off = (tgt : Int)) (hdg : decode cc pc = .ok (.ifCond .ne off, 3))
    (kt : ¬ a = b → G z w nL sg tu tgt L S) (kf : a = b → G z w nL sg tu (pc + 3) L S) : G z w nL sg tu pc L (.int (lg_cmp a b) :: S) := g_if_ne C ht hdg (fun h => kt fun q => h (lg_eq.mpr q)) (fun h => kf (lg_eq.mp h))
theorem g_callS1 (S : List Value) (C : Cx z w cc nL own d) (hM : Kt w y bc n ret d' As sg tu (some v) sg' tu') (hm : Mt y bc n ret np) (hlink : Cond.methodLink own idx y ∈ TG) (hst : Cond.static y ∈ TG) (hd : d' + 1 ≤ d) (hn : As.length = np) (hrest : (S.map fun v => v.category).sum ≤ 8) (hdg : decode cc pc = .ok (.invokestatic idx, 3))
    (k : G z w nL sg' tu' (pc + 3) L (v :: S)) : G z w nL sg tu pc L (As.reverse ++ S) := g_callS C hM hm hlink hst hd hn hrest hdg k
theorem g_callS0 (S : List Value) (C : Cx z w cc nL own d) (hM : Kt w y bc n ret d' As sg tu none sg' tu') (hm : Mt y bc n ret np) (hlink : Cond.methodLink own idx y ∈ TG) (hst : Cond.static y ∈ TG) (hd : d' + 1 ≤ d) (hn : As.length = np) (hrest : (S.map fun v => v.category).sum ≤ 8) (hdg : decode cc pc = .ok (.invokestatic idx, 3))
    (k : G z w nL sg' tu' (pc + 3) L S) : G z w nL sg tu pc L (As.reverse ++ S) := g_callS C hM hm hlink hst hd hn hrest hdg k
theorem g_callN1 (S : List Value) (C : Cx z w cc nL own d) (hM : Kt w y bc n ret d' As sg tu (some v) sg' tu') (hm : Mt y bc n ret np) {host : String} (hlink : (own, idx, y, host) ∈ TN) (hst : Cond.static y ∈ TG) (hd : d' + 1 ≤ d) (hn : As.length = np) (hrest : (S.map fun v => v.category).sum ≤ 8) (hdg : decode cc pc = .ok (.invokestatic idx, 3))
    (k : G z w nL sg' tu' (pc + 3) L (v :: S)) : G z w nL sg tu pc L (As.reverse ++ S) := g_callSN C hM hm hlink hst hd hn hrest hdg k
theorem g_callV1 (S : List Value) (C : Cx z w cc nL own d) {q ci N : Nat} {fs : List (Nat × Nat)} {T : u_T} (hM : Kt w y bc n ret d' (.ref (ad w q) :: As) sg tu (some v) sg' tu') (hm : Mt y bc n ret np) (hq : shapes[q]? = some (.inr (ci, fs))) (hci : vwCl[ci]? = some (y.cls, T, N)) (hlink : Cond.methodLink own idx y ∈ TG) (hin : Cond.instanceMethod y ∈ TG) (hse : Cond.selects y.cls y y ∈ TG) (hd : d' + 1 ≤ d) (hn : As.length = np) (hrest : (S.map fun v => v.category).sum ≤ 8) (hdg : decode cc pc = .ok (.invokevirtual idx, 3))
    (k : G z w nL sg' tu' (pc + 3) L (v :: S)) : G z w nL sg tu pc L (As.reverse ++ .ref (ad w q) :: S) := g_callV C hM hm hq hci hlink hin hse hd hn hrest hdg k
theorem g_callV0 (S : List Value) (C : Cx z w cc nL own d) {q ci N : Nat} {fs : List (Nat × Nat)} {T : u_T} (hM : Kt w y bc n ret d' (.ref (ad w q) :: As) sg tu none sg' tu') (hm : Mt y bc n ret np) (hq : shapes[q]? = some (.inr (ci, fs))) (hci : vwCl[ci]? = some (y.cls, T, N)) (hlink : Cond.methodLink own idx y ∈ TG) (hin : Cond.instanceMethod y ∈ TG) (hse : Cond.selects y.cls y y ∈ TG) (hd : d' + 1 ≤ d) (hn : As.length = np) (hrest : (S.map fun v => v.category).sum ≤ 8) (hdg : decode cc pc = .ok (.invokevirtual idx, 3))
    (k : G z w nL sg' tu' (pc + 3) L S) : G z w nL sg tu pc L (As.reverse ++ .ref (ad w q) :: S) := g_callV C hM hm hq hci hlink hin hse hd hn hrest hdg k
end GR3
