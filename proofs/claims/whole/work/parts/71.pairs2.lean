set_option maxRecDepth 100000 in
set_option maxHeartbeats 1000000 in
theorem pr_turns (w : GW) (B : Nat) (a : AS) (hO : OA a B) (hB : B + 10000 < 2 ^ 31) (x : Int32) (v : Int32) : Pair w yX4_turns cX4_turns 3 yX5_turns cX5_turns 3 (some .int) [.int x, .int v] B a := by
  obtain ⟨f, ps, st, rf, tx, len⟩ := a
  have hO2 := hO
  obtain ⟨hok, hx, h5, hps, hl, ht⟩ := hO2
  have hok : ROk f := hok
  have hx : XOk f B := hx
  have h5 : st ≤ 5 := h5
  have hl : len ≤ 120 := hl
  by_cases h : (0 ≤ Int32.toInt64 x ∧ Int32.toInt64 x ≤ 999999) ∧ (0 ≤ Int32.toInt64 v ∧ Int32.toInt64 v ≤ 1)
  · obtain ⟨n, hn, rfl⟩ := in_of (n := 999999) (by decide) h.1
    obtain ⟨q, hq, rfl⟩ := in_of (n := 1) (by decide) h.2
    rcases (show q = 0 ∨ q = 1 by omega) with rfl | rfl
    · skip
      refine ⟨.int (nI (smP 0 n 7)), (f, ps, st, rf, tx, len), ⟨_, rfl⟩, OA_up (by omega) hO, ⟨3, by decide, fun tu sg hC => ?_⟩, ⟨1, by decide, fun tu sg hR => ?_⟩⟩
      · have e1 : rowC sg 1 = f := hC.1
        exact (c_X4_turns_0 w tu sg n hn).toP ⟨congrArg (fun q => some (Value.int q)) (by rw [p_sm hn]), hC, fun _ _ => rfl⟩
      · have e2 : sg 45 = f := hR.1
        exact (c_X5_turns_0 w tu sg n hn).toP ⟨rfl, RA_same hR rfl rfl rfl rfl rfl rfl, (fun k hk => by simp [us, show k ≠ 44 by omega, show k ≠ 45 by omega, show k ≠ 46 by omega, show k ≠ 47 by omega, show k ≠ 48 by omega, show k ≠ 49 by omega, show k ≠ 50 by omega, show k ≠ 51 by omega, show k ≠ 52 by omega, show k ≠ 53 by omega, show k ≠ 54 by omega])⟩
    · skip
      refine ⟨.int (nI (smP 1 n 7)), (f, ps, st, rf, tx, len), ⟨_, rfl⟩, OA_up (by omega) hO, ⟨3, by decide, fun tu sg hC => ?_⟩, ⟨1, by decide, fun tu sg hR => ?_⟩⟩
      · have e1 : rowC sg 1 = f := hC.1
        exact (c_X4_turns_1 w tu sg n hn).toP ⟨rfl, hC, fun _ _ => rfl⟩
      · have e2 : sg 45 = f := hR.1
        exact (c_X5_turns_1 w tu sg n hn).toP ⟨rfl, RA_same hR rfl rfl rfl rfl rfl rfl, (fun k hk => by simp [us, show k ≠ 44 by omega, show k ≠ 45 by omega, show k ≠ 46 by omega, show k ≠ 47 by omega, show k ≠ 48 by omega, show k ≠ 49 by omega, show k ≠ 50 by omega, show k ≠ 51 by omega, show k ≠ 52 by omega, show k ≠ 53 by omega, show k ≠ 54 by omega])⟩
  · skip
    refine ⟨.int (-2), badA (f, ps, st, rf, tx, len) 0, ⟨_, rfl⟩, OA_bad (by omega) hO, ⟨3, by decide, fun tu sg hC => ?_⟩, ⟨1, by decide, fun tu sg hR => ?_⟩⟩
    · exact (c_X4_turns_bad w tu sg x v h).toP ⟨rfl, PC_no (S := sg) (i := 0) (by decide) hC rfl (fun _ _ => rfl)⟩
    · exact (c_X5_turns_bad w tu sg x v h).toP ⟨rfl, RA_bad (i := 0) (by decide) hR rfl rfl rfl rfl rfl rfl, (fun k hk => by simp [us, show k ≠ 44 by omega, show k ≠ 45 by omega, show k ≠ 46 by omega, show k ≠ 47 by omega, show k ≠ 48 by omega, show k ≠ 49 by omega, show k ≠ 50 by omega, show k ≠ 51 by omega, show k ≠ 52 by omega, show k ≠ 53 by omega, show k ≠ 54 by omega])⟩
set_option maxRecDepth 100000 in
set_option maxHeartbeats 1000000 in
theorem pr_drum (w : GW) (B : Nat) (a : AS) (hO : OA a B) (hB : B + 10000 < 2 ^ 31) (x : Int32) (v : Int32) : Pair w yX4_drum cX4_drum 3 yX5_drum cX5_drum 3 (some .int) [.int x, .int v] B a := by
  obtain ⟨f, ps, st, rf, tx, len⟩ := a
  have hO2 := hO
  obtain ⟨hok, hx, h5, hps, hl, ht⟩ := hO2
  have hok : ROk f := hok
  have hx : XOk f B := hx
  have h5 : st ≤ 5 := h5
  have hl : len ≤ 120 := hl
  by_cases h : (0 ≤ Int32.toInt64 x ∧ Int32.toInt64 x ≤ 5) ∧ (0 ≤ Int32.toInt64 v ∧ Int32.toInt64 v ≤ 2)
  · obtain ⟨j, hj, rfl⟩ := in_of (n := 5) (by decide) h.1
    obtain ⟨q, hq, rfl⟩ := in_of (n := 2) (by decide) h.2
    have hj6 : j < 6 := by omega
    rcases (show q = 0 ∨ q = 1 ∨ q = 2 by omega) with rfl | rfl | rfl
    · skip
      refine ⟨.int (f j), (f, ps, st, rf, tx, len), ⟨_, rfl⟩, OA_up (by omega) hO, ⟨3, by decide, fun tu sg hC => ?_⟩, ⟨2, by decide, fun tu sg hR => ?_⟩⟩
      · have e1 : rowC sg 1 = f := hC.1
        exact (c_X4_drum_0 w tu sg j hj6 (by rw [e1]; exact hok)).toP ⟨congrArg (fun q => some (Value.int q)) (by rw [e1]), hC, fun _ _ => rfl⟩
      · have e2 : sg 45 = f := hR.1
        exact (c_X5_drum_0 w tu sg j hj6 (by rw [hR.1]; exact hok)).toP ⟨congrArg (fun q => some (Value.int q)) (by rw [e2]), RA_same hR rfl rfl rfl rfl rfl rfl, (fun k hk => by simp [us, show k ≠ 44 by omega, show k ≠ 45 by omega, show k ≠ 46 by omega, show k ≠ 47 by omega, show k ≠ 48 by omega, show k ≠ 49 by omega, show k ≠ 50 by omega, show k ≠ 51 by omega, show k ≠ 52 by omega, show k ≠ 53 by omega, show k ≠ 54 by omega])⟩
    · skip
      refine ⟨.int (nI (gN f j)), (f, ps, st, rf, tx, len), ⟨_, rfl⟩, OA_up (by omega) hO, ⟨3, by decide, fun tu sg hC => ?_⟩, ⟨2, by decide, fun tu sg hR => ?_⟩⟩
      · have e1 : rowC sg 1 = f := hC.1
        exact (c_X4_drum_1 w tu sg j hj6 (by rw [e1]; exact hok)).toP ⟨congrArg (fun q => some (Value.int q)) (by rw [e1]), hC, fun _ _ => rfl⟩
      · have e2 : sg 45 = f := hR.1
        exact (c_X5_drum_1 w tu sg j hj6 (by rw [hR.1]; exact hok)).toP ⟨congrArg (fun q => some (Value.int q)) (by rw [e2]; exact (gN_ok hok hj6).1), RA_same hR rfl rfl rfl rfl rfl rfl, (fun k hk => by simp [us, show k ≠ 44 by omega, show k ≠ 45 by omega, show k ≠ 46 by omega, show k ≠ 47 by omega, show k ≠ 48 by omega, show k ≠ 49 by omega, show k ≠ 50 by omega, show k ≠ 51 by omega, show k ≠ 52 by omega, show k ≠ 53 by omega, show k ≠ 54 by omega])⟩
    · skip
      refine ⟨.int (f (6 + j)), (f, ps, st, rf, tx, len), ⟨_, rfl⟩, OA_up (by omega) hO, ⟨3, by decide, fun tu sg hC => ?_⟩, ⟨2, by decide, fun tu sg hR => ?_⟩⟩
      · have e1 : rowC sg 1 = f := hC.1
        exact (c_X4_drum_2 w tu sg j hj6 (by rw [e1]; exact hok)).toP ⟨congrArg (fun q => some (Value.int q)) (by rw [e1]), hC, fun _ _ => rfl⟩
      · have e2 : sg 45 = f := hR.1
        exact (c_X5_drum_2 w tu sg j hj6 (by rw [hR.1]; exact hok)).toP ⟨congrArg (fun q => some (Value.int q)) (by rw [e2]), RA_same hR rfl rfl rfl rfl rfl rfl, (fun k hk => by simp [us, show k ≠ 44 by omega, show k ≠ 45 by omega, show k ≠ 46 by omega, show k ≠ 47 by omega, show k ≠ 48 by omega, show k ≠ 49 by omega, show k ≠ 50 by omega, show k ≠ 51 by omega, show k ≠ 52 by omega, show k ≠ 53 by omega, show k ≠ 54 by omega])⟩
  · by_cases h1 : 0 ≤ Int32.toInt64 x ∧ Int32.toInt64 x ≤ 5
    · obtain ⟨j, hj, rfl⟩ := in_of (n := 5) (by decide) h1
      have h2 : ¬ (0 ≤ Int32.toInt64 v ∧ Int32.toInt64 v ≤ 2) := fun q => h ⟨h1, q⟩
      refine ⟨.int (-2), badA (f, ps, st, rf, tx, len) 0, ⟨_, rfl⟩, OA_bad (by omega) hO, ⟨2, by decide, fun tu sg hC => ?_⟩, ⟨2, by decide, fun tu sg hR => ?_⟩⟩
      · exact (c_X4_drum_out w tu sg j v (by omega) h2).toP ⟨rfl, PC_no (S := sg) (i := 0) (by decide) hC rfl (fun _ _ => rfl)⟩
      · exact (c_X5_drum_bad w tu sg (nI j) v h).toP ⟨rfl, RA_bad (i := 0) (by decide) hR rfl rfl rfl rfl rfl rfl, (fun k hk => by simp [us, show k ≠ 44 by omega, show k ≠ 45 by omega, show k ≠ 46 by omega, show k ≠ 47 by omega, show k ≠ 48 by omega, show k ≠ 49 by omega, show k ≠ 50 by omega, show k ≠ 51 by omega, show k ≠ 52 by omega, show k ≠ 53 by omega, show k ≠ 54 by omega])⟩
    · skip
      refine ⟨.int (-2), badA (f, ps, st, rf, tx, len) 0, ⟨_, rfl⟩, OA_bad (by omega) hO, ⟨2, by decide, fun tu sg hC => ?_⟩, ⟨2, by decide, fun tu sg hR => ?_⟩⟩
      · exact (c_X4_drum_bad w tu sg x v h1).toP ⟨rfl, PC_no (S := sg) (i := 0) (by decide) hC rfl (fun _ _ => rfl)⟩
      · exact (c_X5_drum_bad w tu sg x v h).toP ⟨rfl, RA_bad (i := 0) (by decide) hR rfl rfl rfl rfl rfl rfl, (fun k hk => by simp [us, show k ≠ 44 by omega, show k ≠ 45 by omega, show k ≠ 46 by omega, show k ≠ 47 by omega, show k ≠ 48 by omega, show k ≠ 49 by omega, show k ≠ 50 by omega, show k ≠ 51 by omega, show k ≠ 52 by omega, show k ≠ 53 by omega, show k ≠ 54 by omega])⟩
set_option maxRecDepth 100000 in
set_option maxHeartbeats 1000000 in
theorem pr_wheel (w : GW) (B : Nat) (a : AS) (hO : OA a B) (hB : B + 10000 < 2 ^ 31) (v : Int32) : Pair w yX4_wheel cX4_wheel 2 yX5_wheel cX5_wheel 2 (some .int) [.int v] B a := by
  obtain ⟨f, ps, st, rf, tx, len⟩ := a
  have hO2 := hO
  obtain ⟨hok, hx, h5, hps, hl, ht⟩ := hO2
  have hok : ROk f := hok
  have hx : XOk f B := hx
  have h5 : st ≤ 5 := h5
  have hl : len ≤ 120 := hl
  by_cases h : 0 ≤ Int32.toInt64 v ∧ Int32.toInt64 v ≤ 11
  · obtain ⟨k, hk, rfl⟩ := in_of (n := 11) (by decide) h
    refine ⟨.int (f (12 + k)), (f, ps, st, rf, tx, len), ⟨_, rfl⟩, OA_up (by omega) hO, ⟨1, by decide, fun tu sg hC => ?_⟩, ⟨1, by decide, fun tu sg hR => ?_⟩⟩
    · have e1 : rowC sg 1 = f := hC.1
      exact (c_X4_wheel_ok w tu sg k hk (by rw [e1]; exact hok)).toP ⟨congrArg (fun q => some (Value.int q)) (by rw [e1]), hC, fun _ _ => rfl⟩
    · have e2 : sg 45 = f := hR.1
      exact (c_X5_wheel_ok w tu sg k hk).toP ⟨congrArg (fun q => some (Value.int q)) (by rw [e2]), RA_same hR rfl rfl rfl rfl rfl rfl, (fun k hk => by simp [us, show k ≠ 44 by omega, show k ≠ 45 by omega, show k ≠ 46 by omega, show k ≠ 47 by omega, show k ≠ 48 by omega, show k ≠ 49 by omega, show k ≠ 50 by omega, show k ≠ 51 by omega, show k ≠ 52 by omega, show k ≠ 53 by omega, show k ≠ 54 by omega])⟩
  · skip
    refine ⟨.int (-2), badA (f, ps, st, rf, tx, len) 0, ⟨_, rfl⟩, OA_bad (by omega) hO, ⟨1, by decide, fun tu sg hC => ?_⟩, ⟨1, by decide, fun tu sg hR => ?_⟩⟩
    · exact (c_X4_wheel_bad w tu sg v h).toP ⟨rfl, PC_no (S := sg) (i := 0) (by decide) hC rfl (fun _ _ => rfl)⟩
    · exact (c_X5_wheel_bad w tu sg v h).toP ⟨rfl, RA_bad (i := 0) (by decide) hR rfl rfl rfl rfl rfl rfl, (fun k hk => by simp [us, show k ≠ 44 by omega, show k ≠ 45 by omega, show k ≠ 46 by omega, show k ≠ 47 by omega, show k ≠ 48 by omega, show k ≠ 49 by omega, show k ≠ 50 by omega, show k ≠ 51 by omega, show k ≠ 52 by omega, show k ≠ 53 by omega, show k ≠ 54 by omega])⟩
set_option maxRecDepth 100000 in
set_option maxHeartbeats 1000000 in
theorem pr_counter (w : GW) (B : Nat) (a : AS) (hO : OA a B) (hB : B + 10000 < 2 ^ 31) (v : Int32) : Pair w yX4_counter cX4_counter 2 yX5_counter cX5_counter 2 (some .int) [.int v] B a := by
  obtain ⟨f, ps, st, rf, tx, len⟩ := a
  have hO2 := hO
  obtain ⟨hok, hx, h5, hps, hl, ht⟩ := hO2
  have hok : ROk f := hok
  have hx : XOk f B := hx
  have h5 : st ≤ 5 := h5
  have hl : len ≤ 120 := hl
  by_cases h : 0 ≤ Int32.toInt64 v ∧ Int32.toInt64 v ≤ 6
  · obtain ⟨k, hk, rfl⟩ := in_of (n := 6) (by decide) h
    refine ⟨.int (f (24 + k)), (f, ps, st, rf, tx, len), ⟨_, rfl⟩, OA_up (by omega) hO, ⟨1, by decide, fun tu sg hC => ?_⟩, ⟨1, by decide, fun tu sg hR => ?_⟩⟩
    · have e1 : rowC sg 1 = f := hC.1
      exact (c_X4_counter_ok w tu sg k hk (by rw [e1]; exact nn_c (by omega) hx)).toP ⟨congrArg (fun q => some (Value.int q)) (by rw [e1]), hC, fun _ _ => rfl⟩
    · have e2 : sg 45 = f := hR.1
      exact (c_X5_counter_ok w tu sg k hk).toP ⟨congrArg (fun q => some (Value.int q)) (by rw [e2]), RA_same hR rfl rfl rfl rfl rfl rfl, (fun k hk => by simp [us, show k ≠ 44 by omega, show k ≠ 45 by omega, show k ≠ 46 by omega, show k ≠ 47 by omega, show k ≠ 48 by omega, show k ≠ 49 by omega, show k ≠ 50 by omega, show k ≠ 51 by omega, show k ≠ 52 by omega, show k ≠ 53 by omega, show k ≠ 54 by omega])⟩
  · skip
    refine ⟨.int (-2), badA (f, ps, st, rf, tx, len) 0, ⟨_, rfl⟩, OA_bad (by omega) hO, ⟨1, by decide, fun tu sg hC => ?_⟩, ⟨1, by decide, fun tu sg hR => ?_⟩⟩
    · exact (c_X4_counter_bad w tu sg v h).toP ⟨rfl, PC_no (S := sg) (i := 0) (by decide) hC rfl (fun _ _ => rfl)⟩
    · exact (c_X5_counter_bad w tu sg v h).toP ⟨rfl, RA_bad (i := 0) (by decide) hR rfl rfl rfl rfl rfl rfl, (fun k hk => by simp [us, show k ≠ 44 by omega, show k ≠ 45 by omega, show k ≠ 46 by omega, show k ≠ 47 by omega, show k ≠ 48 by omega, show k ≠ 49 by omega, show k ≠ 50 by omega, show k ≠ 51 by omega, show k ≠ 52 by omega, show k ≠ 53 by omega, show k ≠ 54 by omega])⟩
set_option maxRecDepth 100000 in
set_option maxHeartbeats 1000000 in
theorem pr_value (w : GW) (B : Nat) (a : AS) (hO : OA a B) (hB : B + 10000 < 2 ^ 31) : Pair w yX4_value cX4_value 1 yX5_value cX5_value 1 (some .long) [] B a := by
  obtain ⟨f, ps, st, rf, tx, len⟩ := a
  have hO2 := hO
  obtain ⟨hok, hx, h5, hps, hl, ht⟩ := hO2
  have hok : ROk f := hok
  have hx : XOk f B := hx
  have h5 : st ≤ 5 := h5
  have hl : len ≤ 120 := hl
  refine ⟨.long (vlX f 12 12 0), (f, ps, st, rf, tx, len), ⟨_, rfl⟩, OA_up (by omega) hO, ⟨1, by decide, fun tu sg hC => ?_⟩, ⟨1, by decide, fun tu sg hR => ?_⟩⟩
  · have e1 : rowC sg 1 = f := hC.1
    exact (c_X4_value w tu sg).toP ⟨congrArg (fun q => some (Value.long q)) (by rw [e1]), hC, fun _ _ => rfl⟩
  · have e2 : sg 45 = f := hR.1
    exact (c_X5_value w tu sg).toP ⟨congrArg (fun q => some (Value.long q)) (by rw [e2]), RA_same hR rfl rfl rfl rfl rfl rfl, (fun k hk => by simp [us, show k ≠ 44 by omega, show k ≠ 45 by omega, show k ≠ 46 by omega, show k ≠ 47 by omega, show k ≠ 48 by omega, show k ≠ 49 by omega, show k ≠ 50 by omega, show k ≠ 51 by omega, show k ≠ 52 by omega, show k ≠ 53 by omega, show k ≠ 54 by omega])⟩
set_option maxRecDepth 100000 in
set_option maxHeartbeats 1000000 in
theorem pr_count (w : GW) (B : Nat) (a : AS) (hO : OA a B) (hB : B + 10000 < 2 ^ 31) (v : Int32) : Pair w yX4_count cX4_count 2 yX5_count cX5_count 2 (some .int) [.int v] B a := by
  obtain ⟨f, ps, st, rf, tx, len⟩ := a
  have hO2 := hO
  obtain ⟨hok, hx, h5, hps, hl, ht⟩ := hO2
  have hok : ROk f := hok
  have hx : XOk f B := hx
  have h5 : st ≤ 5 := h5
  have hl : len ≤ 120 := hl
  by_cases h : 0 ≤ Int32.toInt64 v ∧ Int32.toInt64 v ≤ 7
  · obtain ⟨k, hk, rfl⟩ := in_of (n := 7) (by decide) h
    rcases (show k = 0 ∨ k = 1 ∨ k = 2 ∨ k = 3 ∨ k = 4 ∨ k = 5 ∨ k = 6 ∨ k = 7 by omega) with rfl | rfl | rfl | rfl | rfl | rfl | rfl | rfl
    · skip
      refine ⟨.int (nbX f 0 6 (nI 0)), (f, ps, st, rf, tx, len), ⟨_, rfl⟩, OA_up (by omega) hO, ⟨4, by decide, fun tu sg hC => ?_⟩, ⟨2, by decide, fun tu sg hR => ?_⟩⟩
      · have e1 : rowC sg 1 = f := hC.1
        exact (c_X4_count_0 w tu sg B (by rw [e1]; exact hok) (by rw [e1]; exact hx) (by omega)).toP ⟨congrArg (fun q => some (Value.int q)) (by rw [e1]), hC, fun _ _ => rfl⟩
      · have e2 : sg 45 = f := hR.1
        exact (c_X5_count_0 w tu sg).toP ⟨congrArg (fun q => some (Value.int q)) (by rw [e2]), RA_same hR rfl rfl rfl rfl rfl rfl, (fun k hk => by simp [us, show k ≠ 44 by omega, show k ≠ 45 by omega, show k ≠ 46 by omega, show k ≠ 47 by omega, show k ≠ 48 by omega, show k ≠ 49 by omega, show k ≠ 50 by omega, show k ≠ 51 by omega, show k ≠ 52 by omega, show k ≠ 53 by omega, show k ≠ 54 by omega])⟩
    · skip
      refine ⟨.int (nI (ngX (gN f) 6 0)), (f, ps, st, rf, tx, len), ⟨_, rfl⟩, OA_up (by omega) hO, ⟨4, by decide, fun tu sg hC => ?_⟩, ⟨3, by decide, fun tu sg hR => ?_⟩⟩
      · have e1 : rowC sg 1 = f := hC.1
        exact (c_X4_count_1 w tu sg B (by rw [e1]; exact hok) (by rw [e1]; exact hx) (by omega)).toP ⟨congrArg (fun q => some (Value.int q)) (by rw [e1]), hC, fun _ _ => rfl⟩
      · have e2 : sg 45 = f := hR.1
        exact (c_X5_count_1 w tu sg (by rw [hR.1]; exact hok)).toP ⟨congrArg (fun q => some (Value.int q)) (by rw [e2]; exact p_giv hok), RA_same hR rfl rfl rfl rfl rfl rfl, (fun k hk => by simp [us, show k ≠ 44 by omega, show k ≠ 45 by omega, show k ≠ 46 by omega, show k ≠ 47 by omega, show k ≠ 48 by omega, show k ≠ 49 by omega, show k ≠ 50 by omega, show k ≠ 51 by omega, show k ≠ 52 by omega, show k ≠ 53 by omega, show k ≠ 54 by omega])⟩
    · skip
      refine ⟨.int (nbX f 24 7 (nI 0)), (f, ps, st, rf, tx, len), ⟨_, rfl⟩, OA_up (by omega) hO, ⟨4, by decide, fun tu sg hC => ?_⟩, ⟨2, by decide, fun tu sg hR => ?_⟩⟩
      · have e1 : rowC sg 1 = f := hC.1
        exact (c_X4_count_2 w tu sg B (by rw [e1]; exact hok) (by rw [e1]; exact hx) (by omega)).toP ⟨congrArg (fun q => some (Value.int q)) (by rw [e1]), hC, fun _ _ => rfl⟩
      · have e2 : sg 45 = f := hR.1
        exact (c_X5_count_2 w tu sg).toP ⟨congrArg (fun q => some (Value.int q)) (by rw [e2]), RA_same hR rfl rfl rfl rfl rfl rfl, (fun k hk => by simp [us, show k ≠ 44 by omega, show k ≠ 45 by omega, show k ≠ 46 by omega, show k ≠ 47 by omega, show k ≠ 48 by omega, show k ≠ 49 by omega, show k ≠ 50 by omega, show k ≠ 51 by omega, show k ≠ 52 by omega, show k ≠ 53 by omega, show k ≠ 54 by omega])⟩
    · skip
      refine ⟨.int (f 31), (f, ps, st, rf, tx, len), ⟨_, rfl⟩, OA_up (by omega) hO, ⟨4, by decide, fun tu sg hC => ?_⟩, ⟨1, by decide, fun tu sg hR => ?_⟩⟩
      · have e1 : rowC sg 1 = f := hC.1
        exact (c_X4_count_3 w tu sg B (by rw [e1]; exact hok) (by rw [e1]; exact hx) (by omega)).toP ⟨congrArg (fun q => some (Value.int q)) (by rw [e1]), hC, fun _ _ => rfl⟩
      · have e2 : sg 45 = f := hR.1
        exact (c_X5_count_3 w tu sg).toP ⟨congrArg (fun q => some (Value.int q)) (by rw [e2]), RA_same hR rfl rfl rfl rfl rfl rfl, (fun k hk => by simp [us, show k ≠ 44 by omega, show k ≠ 45 by omega, show k ≠ 46 by omega, show k ≠ 47 by omega, show k ≠ 48 by omega, show k ≠ 49 by omega, show k ≠ 50 by omega, show k ≠ 51 by omega, show k ≠ 52 by omega, show k ≠ 53 by omega, show k ≠ 54 by omega])⟩
    · skip
      refine ⟨.int (f 32), (f, ps, st, rf, tx, len), ⟨_, rfl⟩, OA_up (by omega) hO, ⟨4, by decide, fun tu sg hC => ?_⟩, ⟨1, by decide, fun tu sg hR => ?_⟩⟩
      · have e1 : rowC sg 1 = f := hC.1
        exact (c_X4_count_4 w tu sg B (by rw [e1]; exact hok) (by rw [e1]; exact hx) (by omega)).toP ⟨congrArg (fun q => some (Value.int q)) (by rw [e1]), hC, fun _ _ => rfl⟩
      · have e2 : sg 45 = f := hR.1
        exact (c_X5_count_4 w tu sg).toP ⟨congrArg (fun q => some (Value.int q)) (by rw [e2]), RA_same hR rfl rfl rfl rfl rfl rfl, (fun k hk => by simp [us, show k ≠ 44 by omega, show k ≠ 45 by omega, show k ≠ 46 by omega, show k ≠ 47 by omega, show k ≠ 48 by omega, show k ≠ 49 by omega, show k ≠ 50 by omega, show k ≠ 51 by omega, show k ≠ 52 by omega, show k ≠ 53 by omega, show k ≠ 54 by omega])⟩
    · skip
      refine ⟨.int (f 33), (f, ps, st, rf, tx, len), ⟨_, rfl⟩, OA_up (by omega) hO, ⟨4, by decide, fun tu sg hC => ?_⟩, ⟨1, by decide, fun tu sg hR => ?_⟩⟩
      · have e1 : rowC sg 1 = f := hC.1
        exact (c_X4_count_5 w tu sg B (by rw [e1]; exact hok) (by rw [e1]; exact hx) (by omega)).toP ⟨congrArg (fun q => some (Value.int q)) (by rw [e1]), hC, fun _ _ => rfl⟩
      · have e2 : sg 45 = f := hR.1
        exact (c_X5_count_5 w tu sg).toP ⟨congrArg (fun q => some (Value.int q)) (by rw [e2]), RA_same hR rfl rfl rfl rfl rfl rfl, (fun k hk => by simp [us, show k ≠ 44 by omega, show k ≠ 45 by omega, show k ≠ 46 by omega, show k ≠ 47 by omega, show k ≠ 48 by omega, show k ≠ 49 by omega, show k ≠ 50 by omega, show k ≠ 51 by omega, show k ≠ 52 by omega, show k ≠ 53 by omega, show k ≠ 54 by omega])⟩
    · skip
      refine ⟨.int (f 34), (f, ps, st, rf, tx, len), ⟨_, rfl⟩, OA_up (by omega) hO, ⟨4, by decide, fun tu sg hC => ?_⟩, ⟨1, by decide, fun tu sg hR => ?_⟩⟩
      · have e1 : rowC sg 1 = f := hC.1
        exact (c_X4_count_6 w tu sg B (by rw [e1]; exact hok) (by rw [e1]; exact hx) (by omega)).toP ⟨congrArg (fun q => some (Value.int q)) (by rw [e1]), hC, fun _ _ => rfl⟩
      · have e2 : sg 45 = f := hR.1
        exact (c_X5_count_6 w tu sg).toP ⟨congrArg (fun q => some (Value.int q)) (by rw [e2]), RA_same hR rfl rfl rfl rfl rfl rfl, (fun k hk => by simp [us, show k ≠ 44 by omega, show k ≠ 45 by omega, show k ≠ 46 by omega, show k ≠ 47 by omega, show k ≠ 48 by omega, show k ≠ 49 by omega, show k ≠ 50 by omega, show k ≠ 51 by omega, show k ≠ 52 by omega, show k ≠ 53 by omega, show k ≠ 54 by omega])⟩
    · skip
      refine ⟨.int (wsX f 6), (f, ps, st, rf, tx, len), ⟨_, rfl⟩, OA_up (by omega) hO, ⟨4, by decide, fun tu sg hC => ?_⟩, ⟨2, by decide, fun tu sg hR => ?_⟩⟩
      · have e1 : rowC sg 1 = f := hC.1
        exact (c_X4_count_7 w tu sg B (by rw [e1]; exact hok) (by rw [e1]; exact hx) (by omega)).toP ⟨congrArg (fun q => some (Value.int q)) (by rw [e1]), hC, fun _ _ => rfl⟩
      · have e2 : sg 45 = f := hR.1
        exact (c_X5_count_7 w tu sg).toP ⟨congrArg (fun q => some (Value.int q)) (by rw [e2]), RA_same hR rfl rfl rfl rfl rfl rfl, (fun k hk => by simp [us, show k ≠ 44 by omega, show k ≠ 45 by omega, show k ≠ 46 by omega, show k ≠ 47 by omega, show k ≠ 48 by omega, show k ≠ 49 by omega, show k ≠ 50 by omega, show k ≠ 51 by omega, show k ≠ 52 by omega, show k ≠ 53 by omega, show k ≠ 54 by omega])⟩
  · skip
    refine ⟨.int (-2), badA (f, ps, st, rf, tx, len) 0, ⟨_, rfl⟩, OA_bad (by omega) hO, ⟨1, by decide, fun tu sg hC => ?_⟩, ⟨1, by decide, fun tu sg hR => ?_⟩⟩
    · exact (c_X4_count_bad w tu sg v h).toP ⟨rfl, PC_no (S := sg) (i := 0) (by decide) hC rfl (fun _ _ => rfl)⟩
    · exact (c_X5_count_bad w tu sg v h).toP ⟨rfl, RA_bad (i := 0) (by decide) hR rfl rfl rfl rfl rfl rfl, (fun k hk => by simp [us, show k ≠ 44 by omega, show k ≠ 45 by omega, show k ≠ 46 by omega, show k ≠ 47 by omega, show k ≠ 48 by omega, show k ≠ 49 by omega, show k ≠ 50 by omega, show k ≠ 51 by omega, show k ≠ 52 by omega, show k ≠ 53 by omega, show k ≠ 54 by omega])⟩
set_option maxRecDepth 100000 in
set_option maxHeartbeats 1000000 in
theorem pr_trial (w : GW) (B : Nat) (a : AS) (hO : OA a B) (hB : B + 10000 < 2 ^ 31) (v : Int32) : Pair w yX4_trial cX4_trial 2 yX5_trial cX5_trial 2 (some .long) [.int v] B a := by
  obtain ⟨f, ps, st, rf, tx, len⟩ := a
  have hO2 := hO
  obtain ⟨hok, hx, h5, hps, hl, ht⟩ := hO2
  have hok : ROk f := hok
  have hx : XOk f B := hx
  have h5 : st ≤ 5 := h5
  have hl : len ≤ 120 := hl
  by_cases h : 1 ≤ Int32.toInt64 v ∧ Int32.toInt64 v ≤ 99
  · obtain ⟨n, hn1, hn, rfl⟩ := in_of1 (n := 99) (by decide) h
    refine ⟨.long (trv (gN f) (reN f) n), (f, ps, st, rf, tx, len), ⟨_, rfl⟩, OA_up (by omega) hO, ⟨3, by decide, fun tu sg hC => ?_⟩, ⟨3, by decide, fun tu sg hR => ?_⟩⟩
    · have e1 : rowC sg 1 = f := hC.1
      exact (c_X4_trial_ok w tu sg n hn1 hn (by rw [e1]; exact hok)).toP ⟨congrArg (fun q => some (Value.long q)) (by rw [e1]), hC, fun _ _ => rfl⟩
    · have e2 : sg 45 = f := hR.1
      exact (c_X5_trial_ok w tu sg n hn1 hn (by rw [hR.1]; exact hok)).toP ⟨congrArg (fun q => some (Value.long q)) (by rw [e2]), RA_same hR rfl rfl rfl rfl rfl rfl, (fun k hk => by simp [us, show k ≠ 44 by omega, show k ≠ 45 by omega, show k ≠ 46 by omega, show k ≠ 47 by omega, show k ≠ 48 by omega, show k ≠ 49 by omega, show k ≠ 50 by omega, show k ≠ 51 by omega, show k ≠ 52 by omega, show k ≠ 53 by omega, show k ≠ 54 by omega])⟩
  · skip
    refine ⟨.long (Int32.toInt64 (-2)), badA (f, ps, st, rf, tx, len) 0, ⟨_, rfl⟩, OA_bad (by omega) hO, ⟨1, by decide, fun tu sg hC => ?_⟩, ⟨1, by decide, fun tu sg hR => ?_⟩⟩
    · exact (c_X4_trial_bad w tu sg v h).toP ⟨rfl, PC_no (S := sg) (i := 0) (by decide) hC rfl (fun _ _ => rfl)⟩
    · exact (c_X5_trial_bad w tu sg v h).toP ⟨rfl, RA_bad (i := 0) (by decide) hR rfl rfl rfl rfl rfl rfl, (fun k hk => by simp [us, show k ≠ 44 by omega, show k ≠ 45 by omega, show k ≠ 46 by omega, show k ≠ 47 by omega, show k ≠ 48 by omega, show k ≠ 49 by omega, show k ≠ 50 by omega, show k ≠ 51 by omega, show k ≠ 52 by omega, show k ≠ 53 by omega, show k ≠ 54 by omega])⟩
set_option maxRecDepth 100000 in
set_option maxHeartbeats 1000000 in
theorem pr_explains (w : GW) (B : Nat) (a : AS) (hO : OA a B) (hB : B + 10000 < 2 ^ 31) (v : Int64) (x : Int32) (y : Int32) : Pair w yX4_explains cX4_explains 5 yX5_explains cX5_explains 6 (some .int) [.long v, .int x, .int y] B a := by
  obtain ⟨f, ps, st, rf, tx, len⟩ := a
  have hO2 := hO
  obtain ⟨hok, hx, h5, hps, hl, ht⟩ := hO2
  have hok : ROk f := hok
  have hx : XOk f B := hx
  have h5 : st ≤ 5 := h5
  have hl : len ≤ 120 := hl
  by_cases h : (0 ≤ v ∧ v ≤ 999999999999) ∧ (1 ≤ Int32.toInt64 x ∧ Int32.toInt64 x ≤ 99) ∧ (0 ≤ Int32.toInt64 y ∧ Int32.toInt64 y ≤ 2)
  · have hv := h.1
    obtain ⟨n, hn1, hn, rfl⟩ := in_of1 (n := 99) (by decide) h.2.1
    obtain ⟨q, hq, rfl⟩ := in_of (n := 2) (by decide) h.2.2
    rcases (show q = 0 ∨ q = 1 ∨ q = 2 by omega) with rfl | rfl | rfl
    · skip
      refine ⟨.int (ex6 v n f 6).1, (f, ps, st, rf, tx, len), ⟨_, rfl⟩, OA_up (by omega) hO, ⟨2, by decide, fun tu sg hC => ?_⟩, ⟨3, by decide, fun tu sg hR => ?_⟩⟩
      · have e1 : rowC sg 1 = f := hC.1
        exact (c_X4_explains_0 w tu sg v n hv hn1 hn (by rw [e1]; exact hok)).toP ⟨congrArg (fun q => some (Value.int q)) (by rw [e1]), hC, fun _ _ => rfl⟩
      · have e2 : sg 45 = f := hR.1
        exact (c_X5_explains_0 w tu sg v n hv hn1 hn (by rw [hR.1]; exact hok)).toP ⟨congrArg (fun q => some (Value.int q)) (by rw [e2]), RA_same hR rfl rfl rfl rfl rfl rfl, (fun k hk => by simp [us, show k ≠ 44 by omega, show k ≠ 45 by omega, show k ≠ 46 by omega, show k ≠ 47 by omega, show k ≠ 48 by omega, show k ≠ 49 by omega, show k ≠ 50 by omega, show k ≠ 51 by omega, show k ≠ 52 by omega, show k ≠ 53 by omega, show k ≠ 54 by omega])⟩
    · skip
      refine ⟨.int (ex6 v n f 6).2.1, (f, ps, st, rf, tx, len), ⟨_, rfl⟩, OA_up (by omega) hO, ⟨2, by decide, fun tu sg hC => ?_⟩, ⟨3, by decide, fun tu sg hR => ?_⟩⟩
      · have e1 : rowC sg 1 = f := hC.1
        exact (c_X4_explains_1 w tu sg v n hv hn1 hn (by rw [e1]; exact hok)).toP ⟨congrArg (fun q => some (Value.int q)) (by rw [e1]), hC, fun _ _ => rfl⟩
      · have e2 : sg 45 = f := hR.1
        exact (c_X5_explains_1 w tu sg v n hv hn1 hn (by rw [hR.1]; exact hok)).toP ⟨congrArg (fun q => some (Value.int q)) (by rw [e2]), RA_same hR rfl rfl rfl rfl rfl rfl, (fun k hk => by simp [us, show k ≠ 44 by omega, show k ≠ 45 by omega, show k ≠ 46 by omega, show k ≠ 47 by omega, show k ≠ 48 by omega, show k ≠ 49 by omega, show k ≠ 50 by omega, show k ≠ 51 by omega, show k ≠ 52 by omega, show k ≠ 53 by omega, show k ≠ 54 by omega])⟩
    · skip
      refine ⟨.int (ex6 v n f 6).2.2, (f, ps, st, rf, tx, len), ⟨_, rfl⟩, OA_up (by omega) hO, ⟨2, by decide, fun tu sg hC => ?_⟩, ⟨3, by decide, fun tu sg hR => ?_⟩⟩
      · have e1 : rowC sg 1 = f := hC.1
        exact (c_X4_explains_2 w tu sg v n hv hn1 hn (by rw [e1]; exact hok)).toP ⟨congrArg (fun q => some (Value.int q)) (by rw [e1]), hC, fun _ _ => rfl⟩
      · have e2 : sg 45 = f := hR.1
        exact (c_X5_explains_2 w tu sg v n hv hn1 hn (by rw [hR.1]; exact hok)).toP ⟨congrArg (fun q => some (Value.int q)) (by rw [e2]), RA_same hR rfl rfl rfl rfl rfl rfl, (fun k hk => by simp [us, show k ≠ 44 by omega, show k ≠ 45 by omega, show k ≠ 46 by omega, show k ≠ 47 by omega, show k ≠ 48 by omega, show k ≠ 49 by omega, show k ≠ 50 by omega, show k ≠ 51 by omega, show k ≠ 52 by omega, show k ≠ 53 by omega, show k ≠ 54 by omega])⟩
  · skip
    refine ⟨.int (-2), badA (f, ps, st, rf, tx, len) 0, ⟨_, rfl⟩, OA_bad (by omega) hO, ⟨1, by decide, fun tu sg hC => ?_⟩, ⟨1, by decide, fun tu sg hR => ?_⟩⟩
    · exact (c_X4_explains_bad w tu sg v x y h).toP ⟨rfl, PC_no (S := sg) (i := 0) (by decide) hC rfl (fun _ _ => rfl)⟩
    · exact (c_X5_explains_bad w tu sg v x y h).toP ⟨rfl, RA_bad (i := 0) (by decide) hR rfl rfl rfl rfl rfl rfl, (fun k hk => by simp [us, show k ≠ 44 by omega, show k ≠ 45 by omega, show k ≠ 46 by omega, show k ≠ 47 by omega, show k ≠ 48 by omega, show k ≠ 49 by omega, show k ≠ 50 by omega, show k ≠ 51 by omega, show k ≠ 52 by omega, show k ≠ 53 by omega, show k ≠ 54 by omega])⟩
set_option maxRecDepth 100000 in
set_option maxHeartbeats 1000000 in
theorem pr_type (w : GW) (B : Nat) (a : AS) (hO : OA a B) (hB : B + 10000 < 2 ^ 31) (v : Int32) : Pair w yX4_type cX4_type 2 yX5_type cX5_type 2 (some .int) [.int v] B a := by
  obtain ⟨f, ps, st, rf, tx, len⟩ := a
  have hO2 := hO
  obtain ⟨hok, hx, h5, hps, hl, ht⟩ := hO2
  have hok : ROk f := hok
  have hx : XOk f B := hx
  have h5 : st ≤ 5 := h5
  have hl : len ≤ 120 := hl
  by_cases h : 0 ≤ Int32.toInt64 v ∧ Int32.toInt64 v ≤ 127
  · obtain ⟨c, hc, rfl⟩ := in_of (n := 127) (by decide) h
    by_cases hl2 : len < 120
    · skip
      refine ⟨.int (nI (len + 1)), (f, ps, st, rf, tyT tx len c, len + 1), ⟨_, rfl⟩, ⟨hok, hx.up (by omega), h5, fun i hi => ⟨(hps i hi).1, (hps i hi).2.up (by omega)⟩, by show len + 1 ≤ 120; omega, fun j hj => ?_⟩, ⟨2, by decide, fun tu sg hC => ?_⟩, ⟨1, by decide, fun tu sg hR => ?_⟩⟩
      · show tyT tx len c j ≤ 127
        have hj2 : j < len + 1 := hj
        unfold tyT
        split
        · exact hc
        · exact ht j (show j < len by omega)
      · exact (c_X4_type_ok w tu sg c len hC.2.2.2.2.1 hc hl2).toP ⟨rfl, CA_text hC (fun k hk => by rw [us_ne (by omega), us_ne (by omega)]) rfl (ty_j hC.2.2.2.2.2), fun k hk => by rw [us_ne (by omega), us_ne (by omega)]⟩
      · exact (c_X5_type_ok w tu sg c len hc hR.2.2.2.2.1 hl2).toP ⟨rfl, RA_text hR rfl rfl rfl rfl rfl (ty_j hR.2.2.2.2.2), (fun k hk => by simp [us, show k ≠ 44 by omega, show k ≠ 45 by omega, show k ≠ 46 by omega, show k ≠ 47 by omega, show k ≠ 48 by omega, show k ≠ 49 by omega, show k ≠ 50 by omega, show k ≠ 51 by omega, show k ≠ 52 by omega, show k ≠ 53 by omega, show k ≠ 54 by omega])⟩
    · have hl3 : len = 120 := by omega
      subst hl3
      refine ⟨.int (-4), badA (f, ps, st, rf, tx, 120) 2, ⟨_, rfl⟩, OA_bad (by omega) hO, ⟨2, by decide, fun tu sg hC => ?_⟩, ⟨1, by decide, fun tu sg hR => ?_⟩⟩
      · exact (c_X4_type_full w tu sg c 120 hC.2.2.2.2.1 hc (by omega) (by omega)).toP ⟨rfl, PC_no (S := sg) (i := 2) (by decide) hC rfl (fun _ _ => rfl)⟩
      · exact (c_X5_type_full w tu sg c hc hR.2.2.2.2.1).toP ⟨rfl, RA_bad (i := 2) (by decide) hR rfl rfl rfl rfl rfl rfl, (fun k hk => by simp [us, show k ≠ 44 by omega, show k ≠ 45 by omega, show k ≠ 46 by omega, show k ≠ 47 by omega, show k ≠ 48 by omega, show k ≠ 49 by omega, show k ≠ 50 by omega, show k ≠ 51 by omega, show k ≠ 52 by omega, show k ≠ 53 by omega, show k ≠ 54 by omega])⟩
  · skip
    refine ⟨.int (-2), badA (f, ps, st, rf, tx, len) 0, ⟨_, rfl⟩, OA_bad (by omega) hO, ⟨2, by decide, fun tu sg hC => ?_⟩, ⟨1, by decide, fun tu sg hR => ?_⟩⟩
    · exact (c_X4_type_bad w tu sg v h).toP ⟨rfl, PC_no (S := sg) (i := 0) (by decide) hC rfl (fun _ _ => rfl)⟩
    · exact (c_X5_type_bad w tu sg v h).toP ⟨rfl, RA_bad (i := 0) (by decide) hR rfl rfl rfl rfl rfl rfl, (fun k hk => by simp [us, show k ≠ 44 by omega, show k ≠ 45 by omega, show k ≠ 46 by omega, show k ≠ 47 by omega, show k ≠ 48 by omega, show k ≠ 49 by omega, show k ≠ 50 by omega, show k ≠ 51 by omega, show k ≠ 52 by omega, show k ≠ 53 by omega, show k ≠ 54 by omega])⟩
set_option maxRecDepth 100000 in
set_option maxHeartbeats 1000000 in
theorem pr_wipes (w : GW) (B : Nat) (a : AS) (hO : OA a B) (hB : B + 10000 < 2 ^ 31) : Pair w yX4_wipes cX4_wipes 1 yX5_wipes cX5_wipes 2 (some .int) [] B a := by
  obtain ⟨f, ps, st, rf, tx, len⟩ := a
  have hO2 := hO
  obtain ⟨hok, hx, h5, hps, hl, ht⟩ := hO2
  have hok : ROk f := hok
  have hx : XOk f B := hx
  have h5 : st ≤ 5 := h5
  have hl : len ≤ 120 := hl
  refine ⟨.int (nI len), (f, ps, st, rf, tx, 0), ⟨_, rfl⟩, ⟨hok, hx.up (by omega), h5, fun i hi => ⟨(hps i hi).1, (hps i hi).2.up (by omega)⟩, Nat.zero_le _, fun j hj => absurd hj (Nat.not_lt_zero j)⟩, ⟨1, by decide, fun tu sg hC => ?_⟩, ⟨0, by decide, fun tu sg hR => ?_⟩⟩
  · exact (c_X4_wipes w tu sg).toP ⟨congrArg (fun q => some (Value.int q)) (hC.2.2.2.2.1), CA_text hC (fun k hk => by rw [us_ne (by omega)]) rfl (fun j hj => absurd hj (Nat.not_lt_zero j)), fun k hk => by rw [us_ne (by omega)]⟩
  · exact (c_X5_wipes w tu sg).toP ⟨congrArg (fun q => some (Value.int q)) (hR.2.2.2.2.1), RA_text hR rfl rfl rfl rfl rfl (fun j hj => absurd hj (Nat.not_lt_zero j)), (fun k hk => by simp [us, show k ≠ 44 by omega, show k ≠ 45 by omega, show k ≠ 46 by omega, show k ≠ 47 by omega, show k ≠ 48 by omega, show k ≠ 49 by omega, show k ≠ 50 by omega, show k ≠ 51 by omega, show k ≠ 52 by omega, show k ≠ 53 by omega, show k ≠ 54 by omega])⟩
set_option maxRecDepth 100000 in
set_option maxHeartbeats 1000000 in
theorem pr_back (w : GW) (B : Nat) (a : AS) (hO : OA a B) (hB : B + 10000 < 2 ^ 31) : Pair w yX4_back cX4_back 1 yX5_back cX5_back 2 (some .int) [] B a := by
  obtain ⟨f, ps, st, rf, tx, len⟩ := a
  have hO2 := hO
  obtain ⟨hok, hx, h5, hps, hl, ht⟩ := hO2
  have hok : ROk f := hok
  have hx : XOk f B := hx
  have h5 : st ≤ 5 := h5
  have hl : len ≤ 120 := hl
  cases st with
  | zero =>
    refine ⟨.int (-3), badA (f, ps, 0, rf, tx, len) 1, ⟨_, rfl⟩, OA_bad (by omega) hO, ⟨1, by decide, fun tu sg hC => ?_⟩, ⟨1, by decide, fun tu sg hR => ?_⟩⟩
    · exact (c_X4_back_no w tu sg hC.2.2.1).toP ⟨rfl, PC_no (S := sg) (i := 1) (by decide) hC rfl (fun _ _ => rfl)⟩
    · exact (c_X5_back_no w tu sg hR.2.1).toP ⟨rfl, RA_bad (i := 1) (by decide) hR rfl rfl rfl rfl rfl rfl, (fun k hk => by simp [us, show k ≠ 44 by omega, show k ≠ 45 by omega, show k ≠ 46 by omega, show k ≠ 47 by omega, show k ≠ 48 by omega, show k ≠ 49 by omega, show k ≠ 50 by omega, show k ≠ 51 by omega, show k ≠ 52 by omega, show k ≠ 53 by omega, show k ≠ 54 by omega])⟩
  | succ s =>
    have hs5 : s < 5 := by omega
    have hpl := hps s (Nat.lt_succ_self s)
    refine ⟨.int (nI s), (ps s, ps, s, rf, tx, len), ⟨_, rfl⟩, ⟨hpl.1, hpl.2.up (by omega), Nat.le_of_lt hs5, fun i hi => ⟨(hps i (Nat.lt_succ_of_lt hi)).1, (hps i (Nat.lt_succ_of_lt hi)).2.up (by omega)⟩, hl, ht⟩, ⟨3, by decide, fun tu sg hC => ?_⟩, ⟨0, by decide, fun tu sg hR => ?_⟩⟩
    · obtain ⟨nx, hn5, hnx, hring⟩ := hC.2.1
      have h9 := hring s (Nat.lt_succ_self s)
      have h8 : RE (rowC (gbS sg nx s) (13 + 5 * ((nx + 4) % 5))) (ps s) := by
        unfold gbS
        rw [rowC_us (by omega)]
        have h7 : RE (rowC sg (13 + 5 * ((nx + 5 - (s + 1) + s) % 5))) (ps s) := h9
        rw [show (nx + 5 - (s + 1) + s) % 5 = (nx + 4) % 5 by omega] at h7
        exact h7
      exact (c_X4_back_ok w tu sg nx s hn5 hnx hC.2.2.1 hs5).toPs (wr_re h8) ⟨rfl, CA_back hC hs5 hn5 hring, fun k hk => by rw [wrR_n (by omega)]; exact us_ne (by omega)⟩
    · exact (c_X5_back_ok w tu sg s hR.2.1 hs5).toPs (Sq.us (g := ps s) (fun j hj => hR.2.2.1 s (Nat.lt_succ_self s) j hj)) ⟨rfl, RA_back hR (us_same _ _ _) rfl rfl rfl rfl rfl, (fun k hk => by simp [us, show k ≠ 44 by omega, show k ≠ 45 by omega, show k ≠ 46 by omega, show k ≠ 47 by omega, show k ≠ 48 by omega, show k ≠ 49 by omega, show k ≠ 50 by omega, show k ≠ 51 by omega, show k ≠ 52 by omega, show k ≠ 53 by omega, show k ≠ 54 by omega])⟩
set_option maxRecDepth 100000 in
set_option maxHeartbeats 1000000 in
theorem pr_told (w : GW) (B : Nat) (a : AS) (hO : OA a B) (hB : B + 10000 < 2 ^ 31) (v : Int32) : Pair w yX4_told cX4_told 2 yX5_told cX5_told 2 (some .int) [.int v] B a := by
  obtain ⟨f, ps, st, rf, tx, len⟩ := a
  have hO2 := hO
  obtain ⟨hok, hx, h5, hps, hl, ht⟩ := hO2
  have hok : ROk f := hok
  have hx : XOk f B := hx
  have h5 : st ≤ 5 := h5
  have hl : len ≤ 120 := hl
  by_cases h : 0 ≤ Int32.toInt64 v ∧ Int32.toInt64 v ≤ 4
  · obtain ⟨k, hk, rfl⟩ := in_of (n := 4) (by decide) h
    rcases (show k = 0 ∨ k = 1 ∨ k = 2 ∨ k = 3 ∨ k = 4 by omega) with rfl | rfl | rfl | rfl | rfl
    · skip
      refine ⟨.int (rf 0), (f, ps, st, rf, tx, len), ⟨_, rfl⟩, OA_up (by omega) hO, ⟨1, by decide, fun tu sg hC => ?_⟩, ⟨1, by decide, fun tu sg hR => ?_⟩⟩
      · have e1 : rowC sg 1 = f := hC.1
        exact (c_X4_told_0 w tu sg).toP ⟨congrArg (fun q => some (Value.int q)) (hC.2.2.2.1 0 (by decide)), hC, fun _ _ => rfl⟩
      · have e2 : sg 45 = f := hR.1
        exact (c_X5_told_0 w tu sg).toP ⟨congrArg (fun q => some (Value.int q)) (hR.2.2.2.1 0 (by decide)), RA_same hR rfl rfl rfl rfl rfl rfl, (fun k hk => by simp [us, show k ≠ 44 by omega, show k ≠ 45 by omega, show k ≠ 46 by omega, show k ≠ 47 by omega, show k ≠ 48 by omega, show k ≠ 49 by omega, show k ≠ 50 by omega, show k ≠ 51 by omega, show k ≠ 52 by omega, show k ≠ 53 by omega, show k ≠ 54 by omega])⟩
    · skip
      refine ⟨.int (rf 1), (f, ps, st, rf, tx, len), ⟨_, rfl⟩, OA_up (by omega) hO, ⟨1, by decide, fun tu sg hC => ?_⟩, ⟨1, by decide, fun tu sg hR => ?_⟩⟩
      · have e1 : rowC sg 1 = f := hC.1
        exact (c_X4_told_1 w tu sg).toP ⟨congrArg (fun q => some (Value.int q)) (hC.2.2.2.1 1 (by decide)), hC, fun _ _ => rfl⟩
      · have e2 : sg 45 = f := hR.1
        exact (c_X5_told_1 w tu sg).toP ⟨congrArg (fun q => some (Value.int q)) (hR.2.2.2.1 1 (by decide)), RA_same hR rfl rfl rfl rfl rfl rfl, (fun k hk => by simp [us, show k ≠ 44 by omega, show k ≠ 45 by omega, show k ≠ 46 by omega, show k ≠ 47 by omega, show k ≠ 48 by omega, show k ≠ 49 by omega, show k ≠ 50 by omega, show k ≠ 51 by omega, show k ≠ 52 by omega, show k ≠ 53 by omega, show k ≠ 54 by omega])⟩
    · skip
      refine ⟨.int (rf 2), (f, ps, st, rf, tx, len), ⟨_, rfl⟩, OA_up (by omega) hO, ⟨1, by decide, fun tu sg hC => ?_⟩, ⟨1, by decide, fun tu sg hR => ?_⟩⟩
      · have e1 : rowC sg 1 = f := hC.1
        exact (c_X4_told_2 w tu sg).toP ⟨congrArg (fun q => some (Value.int q)) (hC.2.2.2.1 2 (by decide)), hC, fun _ _ => rfl⟩
      · have e2 : sg 45 = f := hR.1
        exact (c_X5_told_2 w tu sg).toP ⟨congrArg (fun q => some (Value.int q)) (hR.2.2.2.1 2 (by decide)), RA_same hR rfl rfl rfl rfl rfl rfl, (fun k hk => by simp [us, show k ≠ 44 by omega, show k ≠ 45 by omega, show k ≠ 46 by omega, show k ≠ 47 by omega, show k ≠ 48 by omega, show k ≠ 49 by omega, show k ≠ 50 by omega, show k ≠ 51 by omega, show k ≠ 52 by omega, show k ≠ 53 by omega, show k ≠ 54 by omega])⟩
    · skip
      refine ⟨.int (nI len), (f, ps, st, rf, tx, len), ⟨_, rfl⟩, OA_up (by omega) hO, ⟨1, by decide, fun tu sg hC => ?_⟩, ⟨1, by decide, fun tu sg hR => ?_⟩⟩
      · have e1 : rowC sg 1 = f := hC.1
        exact (c_X4_told_3 w tu sg).toP ⟨congrArg (fun q => some (Value.int q)) (hC.2.2.2.2.1), hC, fun _ _ => rfl⟩
      · have e2 : sg 45 = f := hR.1
        exact (c_X5_told_3 w tu sg).toP ⟨congrArg (fun q => some (Value.int q)) (hR.2.2.2.2.1), RA_same hR rfl rfl rfl rfl rfl rfl, (fun k hk => by simp [us, show k ≠ 44 by omega, show k ≠ 45 by omega, show k ≠ 46 by omega, show k ≠ 47 by omega, show k ≠ 48 by omega, show k ≠ 49 by omega, show k ≠ 50 by omega, show k ≠ 51 by omega, show k ≠ 52 by omega, show k ≠ 53 by omega, show k ≠ 54 by omega])⟩
    · skip
      refine ⟨.int (nI st), (f, ps, st, rf, tx, len), ⟨_, rfl⟩, OA_up (by omega) hO, ⟨1, by decide, fun tu sg hC => ?_⟩, ⟨1, by decide, fun tu sg hR => ?_⟩⟩
      · have e1 : rowC sg 1 = f := hC.1
        exact (c_X4_told_4 w tu sg).toP ⟨congrArg (fun q => some (Value.int q)) (hC.2.2.1), hC, fun _ _ => rfl⟩
      · have e2 : sg 45 = f := hR.1
        exact (c_X5_told_4 w tu sg).toP ⟨congrArg (fun q => some (Value.int q)) (hR.2.1), RA_same hR rfl rfl rfl rfl rfl rfl, (fun k hk => by simp [us, show k ≠ 44 by omega, show k ≠ 45 by omega, show k ≠ 46 by omega, show k ≠ 47 by omega, show k ≠ 48 by omega, show k ≠ 49 by omega, show k ≠ 50 by omega, show k ≠ 51 by omega, show k ≠ 52 by omega, show k ≠ 53 by omega, show k ≠ 54 by omega])⟩
  · skip
    refine ⟨.int (-2), badA (f, ps, st, rf, tx, len) 0, ⟨_, rfl⟩, OA_bad (by omega) hO, ⟨1, by decide, fun tu sg hC => ?_⟩, ⟨1, by decide, fun tu sg hR => ?_⟩⟩
    · exact (c_X4_told_bad w tu sg v h).toP ⟨rfl, PC_no (S := sg) (i := 0) (by decide) hC rfl (fun _ _ => rfl)⟩
    · exact (c_X5_told_bad w tu sg v h).toP ⟨rfl, RA_bad (i := 0) (by decide) hR rfl rfl rfl rfl rfl rfl, (fun k hk => by simp [us, show k ≠ 44 by omega, show k ≠ 45 by omega, show k ≠ 46 by omega, show k ≠ 47 by omega, show k ≠ 48 by omega, show k ≠ 49 by omega, show k ≠ 50 by omega, show k ≠ 51 by omega, show k ≠ 52 by omega, show k ≠ 53 by omega, show k ≠ 54 by omega])⟩
def tA (rf : Nat → Int32) (st len k : Nat) : Int32 := if k < 3 then rf k else if k = 3 then nI len else nI st
theorem tA_C {sg : Sg} {f : Nat → Int32} {ps : Nat → Nat → Int32} {st : Nat} {rf : Nat → Int32} {tx : Nat → Nat} {len : Nat} (h : CA sg (f, ps, st, rf, tx, len)) (k : Nat) (_ : k < 5) : tC sg k = tA rf st len k := by
  unfold tC tA
  by_cases h3 : k < 3
  · rw [if_pos h3, if_pos h3]; exact h.2.2.2.1 k h3
  · rw [if_neg h3, if_neg h3]
    by_cases h4 : k = 3
    · rw [if_pos h4, if_pos h4]; exact h.2.2.2.2.1
    · rw [if_neg h4, if_neg h4]; exact h.2.2.1
theorem tA_R {sg : Sg} {f : Nat → Int32} {ps : Nat → Nat → Int32} {st : Nat} {rf : Nat → Int32} {tx : Nat → Nat} {len : Nat} (h : RA sg (f, ps, st, rf, tx, len)) (k : Nat) (_ : k < 5) : toT sg k = tA rf st len k := by
  unfold toT tA
  by_cases h3 : k < 3
  · rw [if_pos h3, if_pos h3]; exact h.2.2.2.1 k h3
  · rw [if_neg h3, if_neg h3]
    by_cases h4 : k = 3
    · rw [if_pos h4, if_pos h4]; exact h.2.2.2.2.1
    · rw [if_neg h4, if_neg h4]; exact h.2.1
set_option maxRecDepth 100000 in
set_option maxHeartbeats 1000000 in
theorem pr_digest (w : GW) (B : Nat) (a : AS) (hO : OA a B) (hB : B + 10000 < 2 ^ 31) : Pair w yX4_digest cX4_digest 5 yX5_digest cX5_digest 3 (some .long) [] B a := by
  obtain ⟨f, ps, st, rf, tx, len⟩ := a
  have hO2 := hO
  obtain ⟨hok, hx, h5, hps, hl, ht⟩ := hO2
  have hok : ROk f := hok
  have hx : XOk f B := hx
  have h5 : st ≤ 5 := h5
  have hl : len ≤ 120 := hl
  refine ⟨.long (dgE (tA rf st len) f), (f, ps, st, rf, tx, len), ⟨_, rfl⟩, OA_up (by omega) hO, ⟨5, by decide, fun tu sg hC => ?_⟩, ⟨4, by decide, fun tu sg hR => ?_⟩⟩
  · have e1 : rowC sg 1 = f := hC.1
    exact (c_X4_digest w tu sg B (by rw [e1]; exact hok) (by rw [e1]; exact hx) (by omega)).toP ⟨congrArg (fun q => some (Value.long q)) (by rw [e1]; exact dgE_cg (tA_C hC)), hC, fun _ _ => rfl⟩
  · have e2 : sg 45 = f := hR.1
    exact (c_X5_digest w tu sg (by rw [hR.1]; exact hok)).toP ⟨congrArg (fun q => some (Value.long q)) (by rw [e2]; exact dgE_cg (tA_R hR)), RA_same hR rfl rfl rfl rfl rfl rfl, (fun k hk => by simp [us, show k ≠ 44 by omega, show k ≠ 45 by omega, show k ≠ 46 by omega, show k ≠ 47 by omega, show k ≠ 48 by omega, show k ≠ 49 by omega, show k ≠ 50 by omega, show k ≠ 51 by omega, show k ≠ 52 by omega, show k ≠ 53 by omega, show k ≠ 54 by omega])⟩
set_option maxRecDepth 100000 in
set_option maxHeartbeats 1000000 in
theorem pr_does (w : GW) (B : Nat) (a : AS) (hO : OA a B) (hB : B + 10000 < 2 ^ 31) : Pair w yX4_does cX4_does 3 yX5_does cX5_does 2 (some .int) [] B a := by
  obtain ⟨f, ps, st, rf, tx, len⟩ := a
  have hO2 := hO
  obtain ⟨hok, hx, h5, hps, hl, ht⟩ := hO2
  have hok : ROk f := hok
  have hx : XOk f B := hx
  have h5 : st ≤ 5 := h5
  have hl : len ≤ 120 := hl
  obtain ⟨m, hm60, hm, hend⟩ := prs_total (tx := tx) hl
  have ht2 : ∀ j, j < len → tx j ≤ 127 := ht
  have KC : ∀ (tu : Int64) (sg : Sg), CA sg (f, ps, st, rf, tx, len) → KtP w yX4_does cX4_does 3 (some .int) 6 [.ref (ad w 0)] sg tu (fun r s2 _ => dsC sg (f, ps, st, rf, tx, len) m r s2) := fun tu sg hC => by
    obtain ⟨nx, hn5, hnx, hring⟩ := hC.2.1
    exact c_X4_does w tu sg f ps st rf tx len m nx hC hok h5 hl ht2 hn5 hnx hring hm hend
  have KR : ∀ (tu : Int64) (sg : Sg), RA sg (f, ps, st, rf, tx, len) → KtP w yX5_does cX5_does 2 (some .int) 6 [.ref (ad w 44)] sg tu (dsP sg tu tx len m st) := fun tu sg hR =>
    c_X5_does w tu sg tx len m st hR.2.2.2.2.1 hl (fun j hj => ⟨hR.2.2.2.2.2 j hj, ht2 j hj⟩) hm hend (by rw [hR.1]; exact hok) hR.2.1 h5
  have SR : ∀ sg s2 : Sg, RA sg (f, ps, st, rf, tx, len) → dsF sg s2 → s2 45 = sg 45 → s2 47 = sg 47 → s2 44 3 = sg 44 3 → RA s2 (f, ps, st, rf, tx, len) := fun sg s2 hR hF q1 q2 q3 => RA_same hR q1 q3 q2 (hF.2 6 (by decide) (by decide) (by decide) (by decide)) (hF.1 48 (by omega)) (hF.1 49 (by omega))
  by_cases hp : pst tx len m = len ∧ 0 < m
  · rcases rn_total (tx := tx) (len := len) (f := f) m with ⟨o, f1, ho, h1, h2⟩ | ⟨f1, h1⟩
    · refine ⟨.int ((-1000) - nI o), (f, ps, st, rf, tx, len), ⟨_, rfl⟩, OA_up (by omega) hO, ⟨6, by decide, fun tu sg hC => (KC tu sg hC).to ?_⟩, ⟨6, by decide, fun tu sg hR => (KR tu sg hR).to ?_⟩⟩
      · rintro r s2 t2 ⟨hF, ⟨q, -, -⟩ | ⟨-, o2, f2, ho2, g1, g2, hr, hA⟩ | ⟨-, f2, g1, -, -⟩⟩
        · exact absurd hp q
        · exact ⟨by rw [rn_uniq h1 h2 g1 g2]; exact hr, hA, hF⟩
        · exact absurd (rn_no ho h2 g1) id
      · rintro r s2 t2 ⟨-, hF, ⟨q, -⟩ | ⟨-, o2, f2, ho2, g1, g2, hr, q1, q2, q3⟩ | ⟨-, f2, g1, -⟩⟩
        · exact absurd hp q
        · rw [hR.1] at g1 g2
          exact ⟨by rw [rn_uniq h1 h2 g1 g2]; exact hr, SR sg s2 hR hF q1 q2 q3, fun k hk => hF.1 k (by omega)⟩
        · rw [hR.1] at g1
          exact absurd (rn_no ho h2 g1) id
    · have hro := rn_ok hok hx m f1 h1
      refine ⟨.int (nI m), pushA (f, ps, st, rf, tx, len) f1, ⟨_, rfl⟩, OA_push (by omega) hO hro.1 (hro.2.up (by omega)), ⟨6, by decide, fun tu sg hC => (KC tu sg hC).to ?_⟩, ⟨6, by decide, fun tu sg hR => (KR tu sg hR).to ?_⟩⟩
      · rintro r s2 t2 ⟨hF, ⟨q, -, -⟩ | ⟨-, o2, f2, ho2, g1, g2, -, -⟩ | ⟨-, f2, g1, hr, hA⟩⟩
        · exact absurd hp q
        · exact absurd (rn_no ho2 g2 h1) id
        · have e : f2 = f1 := Option.some.inj (g1.symm.trans h1)
          subst e
          exact ⟨hr, hA, hF⟩
      · rintro r s2 t2 ⟨-, hF, ⟨q, -⟩ | ⟨-, o2, f2, ho2, g1, g2, -⟩ | ⟨-, f2, g1, hr, q1, q2, q3⟩⟩
        · exact absurd hp q
        · rw [hR.1] at g2
          exact absurd (rn_no ho2 g2 h1) id
        · rw [hR.1] at g1
          have e : f2 = f1 := Option.some.inj (g1.symm.trans h1)
          subst e
          exact ⟨hr, RA_push hR h5 q1 q2 q3 (hF.2 6 (by decide) (by decide) (by decide) (by decide)) (hF.1 48 (by omega)) (hF.1 49 (by omega)), fun k hk => hF.1 k (by omega)⟩
  · refine ⟨.int ((-10) - nI (flP tx len m)), (f, ps, st, rf, tx, len), ⟨_, rfl⟩, OA_up (by omega) hO, ⟨6, by decide, fun tu sg hC => (KC tu sg hC).to ?_⟩, ⟨6, by decide, fun tu sg hR => (KR tu sg hR).to ?_⟩⟩
    · rintro r s2 t2 ⟨hF, ⟨-, hr, hA⟩ | ⟨q, -⟩ | ⟨q, -⟩⟩
      · exact ⟨hr, hA, hF⟩
      · exact absurd q hp
      · exact absurd q hp
    · rintro r s2 t2 ⟨-, hF, ⟨-, hr, q1, q2, q3⟩ | ⟨q, -⟩ | ⟨q, -⟩⟩
      · exact ⟨hr, SR sg s2 hR hF q1 q2 q3, fun k hk => hF.1 k (by omega)⟩
      · exact absurd q hp
      · exact absurd q hp
