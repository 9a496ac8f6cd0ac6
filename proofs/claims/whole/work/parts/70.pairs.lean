theorem u45 {X : Sg} {F a b : Nat → Int32} : us (us (us X 45 F) 47 a) 44 b 45 = F := by
  rw [us_ne (by decide), us_ne (by decide), us_same]
set_option maxRecDepth 100000 in
set_option maxHeartbeats 1000000 in
theorem pr_sets (w : GW) (B : Nat) (a : AS) (hO : OA a B) (hB : B + 10000 < 2 ^ 31) (x : Int32) (v : Int32) : Pair w yX4_sets cX4_sets 3 yX5_sets cX5_sets 3 (some .int) [.int x, .int v] B a := by
  obtain ⟨f, ps, st, rf, tx, len⟩ := a
  have hO2 := hO
  obtain ⟨hok, hx, h5, hps, hl, ht⟩ := hO2
  have hok : ROk f := hok
  have hx : XOk f B := hx
  have h5 : st ≤ 5 := h5
  have hl : len ≤ 120 := hl
  by_cases h : (0 ≤ Int32.toInt64 x ∧ Int32.toInt64 x ≤ 5) ∧ (0 ≤ Int32.toInt64 v ∧ Int32.toInt64 v ≤ 9)
  · obtain ⟨j, hj, rfl⟩ := in_of (n := 5) (by decide) h.1
    obtain ⟨n, hn, rfl⟩ := in_of (n := 9) (by decide) h.2
    refine ⟨.int (f j), pushA (f, ps, st, rf, tx, len) (upd f j (nI n)), ⟨_, rfl⟩, (op_OA (l := 105) (x := j) (y := n) hO (by unfold opR; rw [if_pos rfl, if_pos ⟨by omega, hn⟩])), ⟨4, by decide, fun tu sg hC => ?_⟩, ⟨3, by decide, fun tu sg hR => ?_⟩⟩
    · obtain ⟨nx, hn5, hnx, hring⟩ := hC.2.1
      have e1 : rowC sg 1 = f := hC.1
      exact (c_X4_sets_ok w tu sg j n (by omega) hn (by rw [e1]; exact hok) nx st hn5 hnx hC.2.2.1 h5).toP ⟨congrArg (fun q => some (Value.int q)) (((congrFun (wrR_n (by omega)) j).trans ((rowC_d (sg := sg) (w := 1) (by omega)).symm.trans (congrFun e1 j)))), PC_okE (sg := sg) (a := (f, ps, st, rf, tx, len)) (nx := nx) (by rw [S1_r, e1]) hC h5 hn5 hring⟩
    · have e2 : sg 45 = f := hR.1
      exact (c_X5_sets_ok w tu sg j n st (by omega) hn (by rw [hR.1]; exact hok) hR.2.1 h5).toP ⟨congrArg (fun q => some (Value.int q)) (by rw [e2]), RA_push hR h5 (u45.trans (by rw [e2])) rfl rfl rfl rfl rfl, (fun k hk => by simp [us, show k ≠ 44 by omega, show k ≠ 45 by omega, show k ≠ 46 by omega, show k ≠ 47 by omega, show k ≠ 48 by omega, show k ≠ 49 by omega, show k ≠ 50 by omega, show k ≠ 51 by omega, show k ≠ 52 by omega, show k ≠ 53 by omega, show k ≠ 54 by omega])⟩
  · skip
    refine ⟨.int (-2), badA (f, ps, st, rf, tx, len) 0, ⟨_, rfl⟩, OA_bad (by omega) hO, ⟨3, by decide, fun tu sg hC => ?_⟩, ⟨3, by decide, fun tu sg hR => ?_⟩⟩
    · exact (c_X4_sets_bad w tu sg x v h).toP ⟨rfl, PC_no (i := 0) (by decide) hC rb_1 (fun k hk => ch_n hk)⟩
    · exact (c_X5_sets_bad w tu sg x v h).toP ⟨rfl, RA_bad (i := 0) (by decide) hR rfl rfl rfl rfl rfl rfl, (fun k hk => by simp [us, show k ≠ 44 by omega, show k ≠ 45 by omega, show k ≠ 46 by omega, show k ≠ 47 by omega, show k ≠ 48 by omega, show k ≠ 49 by omega, show k ≠ 50 by omega, show k ≠ 51 by omega, show k ≠ 52 by omega, show k ≠ 53 by omega, show k ≠ 54 by omega])⟩
set_option maxRecDepth 100000 in
set_option maxHeartbeats 1000000 in
theorem pr_input (w : GW) (B : Nat) (a : AS) (hO : OA a B) (hB : B + 10000 < 2 ^ 31) (v : Int32) : Pair w yX4_input cX4_input 2 yX5_input cX5_input 2 (some .int) [.int v] B a := by
  obtain ⟨f, ps, st, rf, tx, len⟩ := a
  have hO2 := hO
  obtain ⟨hok, hx, h5, hps, hl, ht⟩ := hO2
  have hok : ROk f := hok
  have hx : XOk f B := hx
  have h5 : st ≤ 5 := h5
  have hl : len ≤ 120 := hl
  by_cases h : 0 ≤ Int32.toInt64 v ∧ Int32.toInt64 v ≤ 999999
  · obtain ⟨n, hn, rfl⟩ := in_of (n := 999999) (by decide) h
    refine ⟨.int (nbX f 0 6 (nI 0)), pushA (f, ps, st, rf, tx, len) (inR n f), ⟨_, rfl⟩, (OA_push (by omega) hO (inR_ok hok) ((hx.of (f' := inR n f) (fun k hk => fw_out (by omega)) (fw_out (by omega)) (fw_out (by omega))).up (by omega))), ⟨4, by decide, fun tu sg hC => ?_⟩, ⟨2, by decide, fun tu sg hR => ?_⟩⟩
    · obtain ⟨nx, hn5, hnx, hring⟩ := hC.2.1
      have e1 : rowC sg 1 = f := hC.1
      exact (c_X4_input_ok w tu sg n hn (by rw [e1]; exact hok) nx st hn5 hnx hC.2.2.1 h5).toP ⟨congrArg (fun q => some (Value.int q)) (by rw [p_dig, S1_r, e1]), PC_okE (sg := sg) (a := (f, ps, st, rf, tx, len)) (nx := nx) (by rw [S1_r, e1]) hC h5 hn5 hring⟩
    · have e2 : sg 45 = f := hR.1
      exact (c_X5_input_ok w tu sg n st hn (by rw [hR.1]; exact hok) hR.2.1 h5).toP ⟨congrArg (fun q => some (Value.int q)) (by rw [e2]), RA_push hR h5 (u45.trans (by rw [e2])) rfl rfl rfl rfl rfl, (fun k hk => by simp [us, show k ≠ 44 by omega, show k ≠ 45 by omega, show k ≠ 46 by omega, show k ≠ 47 by omega, show k ≠ 48 by omega, show k ≠ 49 by omega, show k ≠ 50 by omega, show k ≠ 51 by omega, show k ≠ 52 by omega, show k ≠ 53 by omega, show k ≠ 54 by omega])⟩
  · skip
    refine ⟨.int (-2), badA (f, ps, st, rf, tx, len) 0, ⟨_, rfl⟩, OA_bad (by omega) hO, ⟨3, by decide, fun tu sg hC => ?_⟩, ⟨2, by decide, fun tu sg hR => ?_⟩⟩
    · exact (c_X4_input_bad w tu sg v h).toP ⟨rfl, PC_no (i := 0) (by decide) hC rb_1 (fun k hk => ch_n hk)⟩
    · exact (c_X5_input_bad w tu sg v h).toP ⟨rfl, RA_bad (i := 0) (by decide) hR rfl rfl rfl rfl rfl rfl, (fun k hk => by simp [us, show k ≠ 44 by omega, show k ≠ 45 by omega, show k ≠ 46 by omega, show k ≠ 47 by omega, show k ≠ 48 by omega, show k ≠ 49 by omega, show k ≠ 50 by omega, show k ≠ 51 by omega, show k ≠ 52 by omega, show k ≠ 53 by omega, show k ≠ 54 by omega])⟩
set_option maxRecDepth 100000 in
set_option maxHeartbeats 1000000 in
theorem pr_shifts (w : GW) (B : Nat) (a : AS) (hO : OA a B) (hB : B + 10000 < 2 ^ 31) (v : Int32) : Pair w yX4_shifts cX4_shifts 2 yX5_shifts cX5_shifts 2 (some .int) [.int v] B a := by
  obtain ⟨f, ps, st, rf, tx, len⟩ := a
  have hO2 := hO
  obtain ⟨hok, hx, h5, hps, hl, ht⟩ := hO2
  have hok : ROk f := hok
  have hx : XOk f B := hx
  have h5 : st ≤ 5 := h5
  have hl : len ≤ 120 := hl
  by_cases h : 0 ≤ Int32.toInt64 v ∧ Int32.toInt64 v ≤ 6
  · obtain ⟨n, hn, rfl⟩ := in_of (n := 6) (by decide) h
    refine ⟨.int (f 31), pushA (f, ps, st, rf, tx, len) (upd f 31 (nI n)), ⟨_, rfl⟩, (op_OA (l := 115) (x := n) (y := 0) hO (by unfold opR; rw [if_neg (by decide), if_pos rfl, if_pos hn])), ⟨4, by decide, fun tu sg hC => ?_⟩, ⟨2, by decide, fun tu sg hR => ?_⟩⟩
    · obtain ⟨nx, hn5, hnx, hring⟩ := hC.2.1
      have e1 : rowC sg 1 = f := hC.1
      exact (c_X4_shifts_ok w tu sg n hn (by rw [e1]; exact hok) nx st hn5 hnx hC.2.2.1 h5).toP ⟨congrArg (fun q => some (Value.int q)) ((congrFun (wrR_n (by omega)) 4).trans ((rowC_f (sg := sg) (w := 1) (j := 4) (by omega)).symm.trans (congrFun e1 31))), PC_okE (sg := sg) (a := (f, ps, st, rf, tx, len)) (nx := nx) (by rw [S1_r, e1]) hC h5 hn5 hring⟩
    · have e2 : sg 45 = f := hR.1
      exact (c_X5_shifts_ok w tu sg n st hn (by rw [hR.1]; exact hok) hR.2.1 h5).toP ⟨congrArg (fun q => some (Value.int q)) (by rw [e2]), RA_push hR h5 (u45.trans (by rw [e2])) rfl rfl rfl rfl rfl, (fun k hk => by simp [us, show k ≠ 44 by omega, show k ≠ 45 by omega, show k ≠ 46 by omega, show k ≠ 47 by omega, show k ≠ 48 by omega, show k ≠ 49 by omega, show k ≠ 50 by omega, show k ≠ 51 by omega, show k ≠ 52 by omega, show k ≠ 53 by omega, show k ≠ 54 by omega])⟩
  · skip
    refine ⟨.int (-2), badA (f, ps, st, rf, tx, len) 0, ⟨_, rfl⟩, OA_bad (by omega) hO, ⟨3, by decide, fun tu sg hC => ?_⟩, ⟨2, by decide, fun tu sg hR => ?_⟩⟩
    · exact (c_X4_shifts_bad w tu sg v h).toP ⟨rfl, PC_no (i := 0) (by decide) hC rb_1 (fun k hk => ch_n hk)⟩
    · exact (c_X5_shifts_bad w tu sg v h).toP ⟨rfl, RA_bad (i := 0) (by decide) hR rfl rfl rfl rfl rfl rfl, (fun k hk => by simp [us, show k ≠ 44 by omega, show k ≠ 45 by omega, show k ≠ 46 by omega, show k ≠ 47 by omega, show k ≠ 48 by omega, show k ≠ 49 by omega, show k ≠ 50 by omega, show k ≠ 51 by omega, show k ≠ 52 by omega, show k ≠ 53 by omega, show k ≠ 54 by omega])⟩
set_option maxRecDepth 100000 in
set_option maxHeartbeats 1000000 in
theorem pr_reaches (w : GW) (B : Nat) (a : AS) (hO : OA a B) (hB : B + 10000 < 2 ^ 31) (v : Int32) : Pair w yX4_reaches cX4_reaches 2 yX5_reaches cX5_reaches 2 (some .int) [.int v] B a := by
  obtain ⟨f, ps, st, rf, tx, len⟩ := a
  have hO2 := hO
  obtain ⟨hok, hx, h5, hps, hl, ht⟩ := hO2
  have hok : ROk f := hok
  have hx : XOk f B := hx
  have h5 : st ≤ 5 := h5
  have hl : len ≤ 120 := hl
  by_cases h : 0 ≤ Int32.toInt64 v ∧ Int32.toInt64 v ≤ 12
  · obtain ⟨n, hn, rfl⟩ := in_of (n := 12) (by decide) h
    refine ⟨.int (f 32), pushA (f, ps, st, rf, tx, len) (upd f 32 (nI n)), ⟨_, rfl⟩, (op_OA (l := 114) (x := n) (y := 0) hO (by unfold opR; rw [if_neg (by decide), if_neg (by decide), if_neg (by decide), if_neg (by decide), if_neg (by decide), if_neg (by decide), if_neg (by decide), if_neg (by decide), if_pos hn])), ⟨4, by decide, fun tu sg hC => ?_⟩, ⟨2, by decide, fun tu sg hR => ?_⟩⟩
    · obtain ⟨nx, hn5, hnx, hring⟩ := hC.2.1
      have e1 : rowC sg 1 = f := hC.1
      exact (c_X4_reaches_ok w tu sg n hn (by rw [e1]; exact hok) nx st hn5 hnx hC.2.2.1 h5).toP ⟨congrArg (fun q => some (Value.int q)) ((congrFun (wrR_n (by omega)) 5).trans ((rowC_f (sg := sg) (w := 1) (j := 5) (by omega)).symm.trans (congrFun e1 32))), PC_okE (sg := sg) (a := (f, ps, st, rf, tx, len)) (nx := nx) (by rw [S1_r, e1]) hC h5 hn5 hring⟩
    · have e2 : sg 45 = f := hR.1
      exact (c_X5_reaches_ok w tu sg n st hn (by rw [hR.1]; exact hok) hR.2.1 h5).toP ⟨congrArg (fun q => some (Value.int q)) (by rw [e2]), RA_push hR h5 (u45.trans (by rw [e2])) rfl rfl rfl rfl rfl, (fun k hk => by simp [us, show k ≠ 44 by omega, show k ≠ 45 by omega, show k ≠ 46 by omega, show k ≠ 47 by omega, show k ≠ 48 by omega, show k ≠ 49 by omega, show k ≠ 50 by omega, show k ≠ 51 by omega, show k ≠ 52 by omega, show k ≠ 53 by omega, show k ≠ 54 by omega])⟩
  · skip
    refine ⟨.int (-2), badA (f, ps, st, rf, tx, len) 0, ⟨_, rfl⟩, OA_bad (by omega) hO, ⟨3, by decide, fun tu sg hC => ?_⟩, ⟨2, by decide, fun tu sg hR => ?_⟩⟩
    · exact (c_X4_reaches_bad w tu sg v h).toP ⟨rfl, PC_no (i := 0) (by decide) hC rb_1 (fun k hk => ch_n hk)⟩
    · exact (c_X5_reaches_bad w tu sg v h).toP ⟨rfl, RA_bad (i := 0) (by decide) hR rfl rfl rfl rfl rfl rfl, (fun k hk => by simp [us, show k ≠ 44 by omega, show k ≠ 45 by omega, show k ≠ 46 by omega, show k ≠ 47 by omega, show k ≠ 48 by omega, show k ≠ 49 by omega, show k ≠ 50 by omega, show k ≠ 51 by omega, show k ≠ 52 by omega, show k ≠ 53 by omega, show k ≠ 54 by omega])⟩
set_option maxRecDepth 100000 in
set_option maxHeartbeats 1000000 in
theorem pr_wears (w : GW) (B : Nat) (a : AS) (hO : OA a B) (hB : B + 10000 < 2 ^ 31) (x : Int32) (v : Int32) : Pair w yX4_wears cX4_wears 3 yX5_wears cX5_wears 3 (some .int) [.int x, .int v] B a := by
  obtain ⟨f, ps, st, rf, tx, len⟩ := a
  have hO2 := hO
  obtain ⟨hok, hx, h5, hps, hl, ht⟩ := hO2
  have hok : ROk f := hok
  have hx : XOk f B := hx
  have h5 : st ≤ 5 := h5
  have hl : len ≤ 120 := hl
  by_cases h : (0 ≤ Int32.toInt64 x ∧ Int32.toInt64 x ≤ 5) ∧ (1 ≤ Int32.toInt64 v ∧ Int32.toInt64 v ≤ 9)
  · obtain ⟨j, hj, rfl⟩ := in_of (n := 5) (by decide) h.1
    obtain ⟨t, ht1, ht2, rfl⟩ := in_of1 (n := 9) (by decide) h.2
    refine ⟨.int (wmX (f (6 + j) ^^^ (nI 1 <<< (nI t &&& 31))) 10), pushA (f, ps, st, rf, tx, len) (upd f (6 + j) (f (6 + j) ^^^ (nI 1 <<< (nI t &&& 31)))), ⟨_, rfl⟩, (op_OA (l := 119) (x := j) (y := t) hO (by unfold opR; rw [if_neg (by decide), if_neg (by decide), if_neg (by decide), if_neg (by decide), if_neg (by decide), if_neg (by decide), if_neg (by decide), if_pos rfl, if_pos ⟨by omega, ht1, ht2⟩])), ⟨4, by decide, fun tu sg hC => ?_⟩, ⟨3, by decide, fun tu sg hR => ?_⟩⟩
    · obtain ⟨nx, hn5, hnx, hring⟩ := hC.2.1
      have e1 : rowC sg 1 = f := hC.1
      exact (c_X4_wears_ok w tu sg j t (by omega) ht1 ht2 (by rw [e1]; exact hok) nx st hn5 hnx hC.2.2.1 h5).toP ⟨congrArg (fun q => some (Value.int q)) (by rw [(show wrR sg 6 (rowC sg 1) 3 j = f (6 + j) from (congrFun (wrR_n (by omega)) j).trans ((rowC_o (sg := sg) (w := 1) (by omega)).symm.trans (congrFun e1 (6 + j))))]; exact bc_w hok (by omega) ht1 ht2), PC_okE (sg := sg) (a := (f, ps, st, rf, tx, len)) (nx := nx) (by rw [(show wrR sg 6 (rowC sg 1) 3 j = f (6 + j) from (congrFun (wrR_n (by omega)) j).trans ((rowC_o (sg := sg) (w := 1) (by omega)).symm.trans (congrFun e1 (6 + j)))), S1_r, e1]) hC h5 hn5 hring⟩
    · have e2 : sg 45 = f := hR.1
      exact (c_X5_wears_ok w tu sg j t st (by omega) ht1 ht2 hR.2.1 h5).toP ⟨congrArg (fun q => some (Value.int q)) (by rw [e2]), RA_push hR h5 (u45.trans (by rw [e2])) rfl rfl rfl rfl rfl, (fun k hk => by simp [us, show k ≠ 44 by omega, show k ≠ 45 by omega, show k ≠ 46 by omega, show k ≠ 47 by omega, show k ≠ 48 by omega, show k ≠ 49 by omega, show k ≠ 50 by omega, show k ≠ 51 by omega, show k ≠ 52 by omega, show k ≠ 53 by omega, show k ≠ 54 by omega])⟩
  · skip
    refine ⟨.int (-2), badA (f, ps, st, rf, tx, len) 0, ⟨_, rfl⟩, OA_bad (by omega) hO, ⟨3, by decide, fun tu sg hC => ?_⟩, ⟨3, by decide, fun tu sg hR => ?_⟩⟩
    · exact (c_X4_wears_bad w tu sg x v h).toP ⟨rfl, PC_no (i := 0) (by decide) hC rb_1 (fun k hk => ch_n hk)⟩
    · exact (c_X5_wears_bad w tu sg x v h).toP ⟨rfl, RA_bad (i := 0) (by decide) hR rfl rfl rfl rfl rfl rfl, (fun k hk => by simp [us, show k ≠ 44 by omega, show k ≠ 45 by omega, show k ≠ 46 by omega, show k ≠ 47 by omega, show k ≠ 48 by omega, show k ≠ 49 by omega, show k ≠ 50 by omega, show k ≠ 51 by omega, show k ≠ 52 by omega, show k ≠ 53 by omega, show k ≠ 54 by omega])⟩
set_option maxRecDepth 100000 in
set_option maxHeartbeats 1000000 in
theorem pr_clears (w : GW) (B : Nat) (a : AS) (hO : OA a B) (hB : B + 10000 < 2 ^ 31) : Pair w yX4_clears cX4_clears 1 yX5_clears cX5_clears 1 (some .int) [] B a := by
  obtain ⟨f, ps, st, rf, tx, len⟩ := a
  have hO2 := hO
  obtain ⟨hok, hx, h5, hps, hl, ht⟩ := hO2
  have hok : ROk f := hok
  have hx : XOk f B := hx
  have h5 : st ≤ 5 := h5
  have hl : len ≤ 120 := hl
  refine ⟨.int (czX f (fun _ => nI 0) 12 12), pushA (f, ps, st, rf, tx, len) (clR f), ⟨_, rfl⟩, (op_OA (l := 99) (x := 0) (y := 0) hO (by unfold opR; rw [if_neg (by decide), if_neg (by decide), if_neg (by decide), if_neg (by decide), if_pos rfl])), ⟨4, by decide, fun tu sg hC => ?_⟩, ⟨2, by decide, fun tu sg hR => ?_⟩⟩
  · obtain ⟨nx, hn5, hnx, hring⟩ := hC.2.1
    have e1 : rowC sg 1 = f := hC.1
    exact (c_X4_clears w tu sg (by rw [e1]; exact hok) nx st hn5 hnx hC.2.2.1 h5).toP ⟨congrArg (fun q => some (Value.int q)) (by rw [p_cz, cz_0, S1_r, e1]), PC_okE (sg := sg) (a := (f, ps, st, rf, tx, len)) (nx := nx) (by rw [S1_r, e1]) hC h5 hn5 hring⟩
  · have e2 : sg 45 = f := hR.1
    exact (c_X5_clears w tu sg st hR.2.1 h5).toP ⟨congrArg (fun q => some (Value.int q)) (by rw [e2]), RA_push hR h5 (u45.trans (by rw [e2]; rfl)) rfl rfl rfl rfl rfl, (fun k hk => by simp [us, show k ≠ 44 by omega, show k ≠ 45 by omega, show k ≠ 46 by omega, show k ≠ 47 by omega, show k ≠ 48 by omega, show k ≠ 49 by omega, show k ≠ 50 by omega, show k ≠ 51 by omega, show k ≠ 52 by omega, show k ≠ 53 by omega, show k ≠ 54 by omega])⟩
set_option maxRecDepth 100000 in
set_option maxHeartbeats 1000000 in
theorem pr_lays (w : GW) (B : Nat) (a : AS) (hO : OA a B) (hB : B + 10000 < 2 ^ 31) (v : Int64) : Pair w yX4_lays cX4_lays 3 yX5_lays cX5_lays 3 (some .int) [.long v] B a := by
  obtain ⟨f, ps, st, rf, tx, len⟩ := a
  have hO2 := hO
  obtain ⟨hok, hx, h5, hps, hl, ht⟩ := hO2
  have hok : ROk f := hok
  have hx : XOk f B := hx
  have h5 : st ≤ 5 := h5
  have hl : len ≤ 120 := hl
  by_cases h : 0 ≤ v ∧ v ≤ 999999999999
  · obtain ⟨m, hm, rfl⟩ := in_ofL h
    refine ⟨.int (czX f (fun k => nI (m / 10 ^ k % 10)) 12 12), pushA (f, ps, st, rf, tx, len) (laR m f), ⟨_, rfl⟩, (OA_push (by omega) hO (laR_ok hok) ((hx.of (f' := laR m f) (fun k hk => fw_out (by omega)) (fw_out (by omega)) (fw_out (by omega))).up (by omega))), ⟨4, by decide, fun tu sg hC => ?_⟩, ⟨2, by decide, fun tu sg hR => ?_⟩⟩
    · obtain ⟨nx, hn5, hnx, hring⟩ := hC.2.1
      have e1 : rowC sg 1 = f := hC.1
      exact (c_X4_lays_ok w tu sg m hm (by rw [e1]; exact hok) nx st hn5 hnx hC.2.2.1 h5).toP ⟨congrArg (fun q => some (Value.int q)) (by rw [p_cz, S1_r, e1]), PC_okE (sg := sg) (a := (f, ps, st, rf, tx, len)) (nx := nx) (by rw [S1_r, e1]) hC h5 hn5 hring⟩
    · have e2 : sg 45 = f := hR.1
      exact (c_X5_lays_ok w tu sg m st hm hR.2.1 h5).toP ⟨congrArg (fun q => some (Value.int q)) (by rw [e2]), RA_push hR h5 (u45.trans (by rw [e2])) rfl rfl rfl rfl rfl, (fun k hk => by simp [us, show k ≠ 44 by omega, show k ≠ 45 by omega, show k ≠ 46 by omega, show k ≠ 47 by omega, show k ≠ 48 by omega, show k ≠ 49 by omega, show k ≠ 50 by omega, show k ≠ 51 by omega, show k ≠ 52 by omega, show k ≠ 53 by omega, show k ≠ 54 by omega])⟩
  · skip
    refine ⟨.int (-2), badA (f, ps, st, rf, tx, len) 0, ⟨_, rfl⟩, OA_bad (by omega) hO, ⟨3, by decide, fun tu sg hC => ?_⟩, ⟨2, by decide, fun tu sg hR => ?_⟩⟩
    · exact (c_X4_lays_bad w tu sg v h).toP ⟨rfl, PC_no (i := 0) (by decide) hC rb_1 (fun k hk => ch_n hk)⟩
    · exact (c_X5_lays_bad w tu sg v h).toP ⟨rfl, RA_bad (i := 0) (by decide) hR rfl rfl rfl rfl rfl rfl, (fun k hk => by simp [us, show k ≠ 44 by omega, show k ≠ 45 by omega, show k ≠ 46 by omega, show k ≠ 47 by omega, show k ≠ 48 by omega, show k ≠ 49 by omega, show k ≠ 50 by omega, show k ≠ 51 by omega, show k ≠ 52 by omega, show k ≠ 53 by omega, show k ≠ 54 by omega])⟩
set_option maxRecDepth 100000 in
set_option maxHeartbeats 1000000 in
theorem pr_ups (w : GW) (B : Nat) (a : AS) (hO : OA a B) (hB : B + 10000 < 2 ^ 31) (v : Int32) : Pair w yX4_ups cX4_ups 2 yX5_ups cX5_ups 2 (some .int) [.int v] B a := by
  obtain ⟨f, ps, st, rf, tx, len⟩ := a
  have hO2 := hO
  obtain ⟨hok, hx, h5, hps, hl, ht⟩ := hO2
  have hok : ROk f := hok
  have hx : XOk f B := hx
  have h5 : st ≤ 5 := h5
  have hl : len ≤ 120 := hl
  by_cases h : 1 ≤ Int32.toInt64 v ∧ Int32.toInt64 v ≤ 99
  · obtain ⟨n, hn1, hn, rfl⟩ := in_of1 (n := 99) (by decide) h
    refine ⟨.int (rgs true (nI 1) (gN f) f n), pushA (f, ps, st, rf, tx, len) (itR true (nI 1) (gN f) n f), ⟨_, rfl⟩, (op_OA (l := 117) (x := n) (y := 0) hO (by unfold opR; rw [if_neg (by decide), if_neg (by decide), if_pos rfl, if_pos ⟨hn1, hn⟩])), ⟨4, by decide, fun tu sg hC => ?_⟩, ⟨3, by decide, fun tu sg hR => ?_⟩⟩
    · obtain ⟨nx, hn5, hnx, hring⟩ := hC.2.1
      have e1 : rowC sg 1 = f := hC.1
      exact (c_X4_ups_ok w tu sg n hn1 hn (by rw [e1]; exact hok) nx st hn5 hnx hC.2.2.1 h5).toP ⟨congrArg (fun q => some (Value.int q)) (by rw [S1_r, e1]), PC_okE (sg := sg) (a := (f, ps, st, rf, tx, len)) (nx := nx) (by rw [S1_r, e1]) hC h5 hn5 hring⟩
    · have e2 : sg 45 = f := hR.1
      exact (c_X5_ups_ok w tu sg n st hn1 hn (by rw [hR.1]; exact hok) hR.2.1 h5).toP ⟨congrArg (fun q => some (Value.int q)) (by rw [e2]), RA_push hR h5 (u45.trans (by rw [e2])) rfl rfl rfl rfl rfl, (fun k hk => by simp [us, show k ≠ 44 by omega, show k ≠ 45 by omega, show k ≠ 46 by omega, show k ≠ 47 by omega, show k ≠ 48 by omega, show k ≠ 49 by omega, show k ≠ 50 by omega, show k ≠ 51 by omega, show k ≠ 52 by omega, show k ≠ 53 by omega, show k ≠ 54 by omega])⟩
  · skip
    refine ⟨.int (-2), badA (f, ps, st, rf, tx, len) 0, ⟨_, rfl⟩, OA_bad (by omega) hO, ⟨3, by decide, fun tu sg hC => ?_⟩, ⟨2, by decide, fun tu sg hR => ?_⟩⟩
    · exact (c_X4_ups_bad w tu sg v h).toP ⟨rfl, PC_no (i := 0) (by decide) hC rb_1 (fun k hk => ch_n hk)⟩
    · exact (c_X5_ups_bad w tu sg v h).toP ⟨rfl, RA_bad (i := 0) (by decide) hR rfl rfl rfl rfl rfl rfl, (fun k hk => by simp [us, show k ≠ 44 by omega, show k ≠ 45 by omega, show k ≠ 46 by omega, show k ≠ 47 by omega, show k ≠ 48 by omega, show k ≠ 49 by omega, show k ≠ 50 by omega, show k ≠ 51 by omega, show k ≠ 52 by omega, show k ≠ 53 by omega, show k ≠ 54 by omega])⟩
set_option maxRecDepth 100000 in
set_option maxHeartbeats 1000000 in
theorem pr_downs (w : GW) (B : Nat) (a : AS) (hO : OA a B) (hB : B + 10000 < 2 ^ 31) (v : Int32) : Pair w yX4_downs cX4_downs 2 yX5_downs cX5_downs 2 (some .int) [.int v] B a := by
  obtain ⟨f, ps, st, rf, tx, len⟩ := a
  have hO2 := hO
  obtain ⟨hok, hx, h5, hps, hl, ht⟩ := hO2
  have hok : ROk f := hok
  have hx : XOk f B := hx
  have h5 : st ≤ 5 := h5
  have hl : len ≤ 120 := hl
  by_cases h : 1 ≤ Int32.toInt64 v ∧ Int32.toInt64 v ≤ 99
  · obtain ⟨n, hn1, hn, rfl⟩ := in_of1 (n := 99) (by decide) h
    refine ⟨.int (rgs false (-1) (gN f) f n), pushA (f, ps, st, rf, tx, len) (itR false (-1) (gN f) n f), ⟨_, rfl⟩, (op_OA (l := 100) (x := n) (y := 0) hO (by unfold opR; rw [if_neg (by decide), if_neg (by decide), if_neg (by decide), if_pos rfl, if_pos ⟨hn1, hn⟩])), ⟨4, by decide, fun tu sg hC => ?_⟩, ⟨3, by decide, fun tu sg hR => ?_⟩⟩
    · obtain ⟨nx, hn5, hnx, hring⟩ := hC.2.1
      have e1 : rowC sg 1 = f := hC.1
      exact (c_X4_downs_ok w tu sg n hn1 hn (by rw [e1]; exact hok) nx st hn5 hnx hC.2.2.1 h5).toP ⟨congrArg (fun q => some (Value.int q)) (by rw [S1_r, e1]), PC_okE (sg := sg) (a := (f, ps, st, rf, tx, len)) (nx := nx) (by rw [S1_r, e1]) hC h5 hn5 hring⟩
    · have e2 : sg 45 = f := hR.1
      exact (c_X5_downs_ok w tu sg n st hn1 hn (by rw [hR.1]; exact hok) hR.2.1 h5).toP ⟨congrArg (fun q => some (Value.int q)) (by rw [e2]), RA_push hR h5 (u45.trans (by rw [e2])) rfl rfl rfl rfl rfl, (fun k hk => by simp [us, show k ≠ 44 by omega, show k ≠ 45 by omega, show k ≠ 46 by omega, show k ≠ 47 by omega, show k ≠ 48 by omega, show k ≠ 49 by omega, show k ≠ 50 by omega, show k ≠ 51 by omega, show k ≠ 52 by omega, show k ≠ 53 by omega, show k ≠ 54 by omega])⟩
  · skip
    refine ⟨.int (-2), badA (f, ps, st, rf, tx, len) 0, ⟨_, rfl⟩, OA_bad (by omega) hO, ⟨3, by decide, fun tu sg hC => ?_⟩, ⟨2, by decide, fun tu sg hR => ?_⟩⟩
    · exact (c_X4_downs_bad w tu sg v h).toP ⟨rfl, PC_no (i := 0) (by decide) hC rb_1 (fun k hk => ch_n hk)⟩
    · exact (c_X5_downs_bad w tu sg v h).toP ⟨rfl, RA_bad (i := 0) (by decide) hR rfl rfl rfl rfl rfl rfl, (fun k hk => by simp [us, show k ≠ 44 by omega, show k ≠ 45 by omega, show k ≠ 46 by omega, show k ≠ 47 by omega, show k ≠ 48 by omega, show k ≠ 49 by omega, show k ≠ 50 by omega, show k ≠ 51 by omega, show k ≠ 52 by omega, show k ≠ 53 by omega, show k ≠ 54 by omega])⟩
set_option maxRecDepth 100000 in
set_option maxHeartbeats 1000000 in
theorem pr_times (w : GW) (B : Nat) (a : AS) (hO : OA a B) (hB : B + 10000 < 2 ^ 31) (x : Int32) (v : Int32) : Pair w yX4_times cX4_times 3 yX5_times cX5_times 3 (some .int) [.int x, .int v] B a := by
  obtain ⟨f, ps, st, rf, tx, len⟩ := a
  have hO2 := hO
  obtain ⟨hok, hx, h5, hps, hl, ht⟩ := hO2
  have hok : ROk f := hok
  have hx : XOk f B := hx
  have h5 : st ≤ 5 := h5
  have hl : len ≤ 120 := hl
  by_cases h : (0 ≤ Int32.toInt64 x ∧ Int32.toInt64 x ≤ 999999) ∧ (0 ≤ Int32.toInt64 v ∧ Int32.toInt64 v ≤ 1)
  · obtain ⟨n, hn, rfl⟩ := in_of (n := 999999) (by decide) h.1
    obtain ⟨q, hq, rfl⟩ := in_of (n := 1) (by decide) h.2
    rcases (show q = 0 ∨ q = 1 by omega) with rfl | rfl
    · skip
      refine ⟨.int (nI (smP 0 n 7)), pushA (f, ps, st, rf, tx, len) (muR 0 n (gN f) 6 (clR f)), ⟨_, rfl⟩, (op_OA (l := 116) (x := n) (y := 0) hO (by unfold opR; rw [if_neg (by decide), if_neg (by decide), if_neg (by decide), if_neg (by decide), if_neg (by decide), if_pos rfl, if_pos ⟨hn, rfl⟩])), ⟨4, by decide, fun tu sg hC => ?_⟩, ⟨3, by decide, fun tu sg hR => ?_⟩⟩
      · obtain ⟨nx, hn5, hnx, hring⟩ := hC.2.1
        have e1 : rowC sg 1 = f := hC.1
        exact (c_X4_times_0 w tu sg n hn (by rw [e1]; exact hok) nx st hn5 hnx hC.2.2.1 h5).toP ⟨congrArg (fun q => some (Value.int q)) (by rw [p_sm hn]), PC_okE (sg := sg) (a := (f, ps, st, rf, tx, len)) (nx := nx) (by rw [S1_r, e1]) hC h5 hn5 hring⟩
      · have e2 : sg 45 = f := hR.1
        exact (c_X5_times_0 w tu sg n st hn (by rw [hR.1]; exact hok) hR.2.1 h5).toP ⟨rfl, RA_push hR h5 (u45.trans (by rw [e2])) rfl rfl rfl rfl rfl, (fun k hk => by simp [us, show k ≠ 44 by omega, show k ≠ 45 by omega, show k ≠ 46 by omega, show k ≠ 47 by omega, show k ≠ 48 by omega, show k ≠ 49 by omega, show k ≠ 50 by omega, show k ≠ 51 by omega, show k ≠ 52 by omega, show k ≠ 53 by omega, show k ≠ 54 by omega])⟩
    · skip
      refine ⟨.int (nI (smP 1 n 7)), pushA (f, ps, st, rf, tx, len) (muR 1 n (gN f) 7 (clR f)), ⟨_, rfl⟩, (op_OA (l := 116) (x := n) (y := 1) hO (by unfold opR; rw [if_neg (by decide), if_neg (by decide), if_neg (by decide), if_neg (by decide), if_neg (by decide), if_pos rfl, if_neg (by omega), if_pos ⟨hn, rfl⟩])), ⟨4, by decide, fun tu sg hC => ?_⟩, ⟨3, by decide, fun tu sg hR => ?_⟩⟩
      · obtain ⟨nx, hn5, hnx, hring⟩ := hC.2.1
        have e1 : rowC sg 1 = f := hC.1
        exact (c_X4_times_1 w tu sg n hn (by rw [e1]; exact hok) nx st hn5 hnx hC.2.2.1 h5).toP ⟨rfl, PC_okE (sg := sg) (a := (f, ps, st, rf, tx, len)) (nx := nx) (by rw [S1_r, e1]) hC h5 hn5 hring⟩
      · have e2 : sg 45 = f := hR.1
        exact (c_X5_times_1 w tu sg n st hn (by rw [hR.1]; exact hok) hR.2.1 h5).toP ⟨rfl, RA_push hR h5 (u45.trans (by rw [e2])) rfl rfl rfl rfl rfl, (fun k hk => by simp [us, show k ≠ 44 by omega, show k ≠ 45 by omega, show k ≠ 46 by omega, show k ≠ 47 by omega, show k ≠ 48 by omega, show k ≠ 49 by omega, show k ≠ 50 by omega, show k ≠ 51 by omega, show k ≠ 52 by omega, show k ≠ 53 by omega, show k ≠ 54 by omega])⟩
  · skip
    refine ⟨.int (-2), badA (f, ps, st, rf, tx, len) 0, ⟨_, rfl⟩, OA_bad (by omega) hO, ⟨3, by decide, fun tu sg hC => ?_⟩, ⟨2, by decide, fun tu sg hR => ?_⟩⟩
    · exact (c_X4_times_bad w tu sg x v h).toP ⟨rfl, PC_no (i := 0) (by decide) hC rb_1 (fun k hk => ch_n hk)⟩
    · exact (c_X5_times_bad w tu sg x v h).toP ⟨rfl, RA_bad (i := 0) (by decide) hR rfl rfl rfl rfl rfl rfl, (fun k hk => by simp [us, show k ≠ 44 by omega, show k ≠ 45 by omega, show k ≠ 46 by omega, show k ≠ 47 by omega, show k ≠ 48 by omega, show k ≠ 49 by omega, show k ≠ 50 by omega, show k ≠ 51 by omega, show k ≠ 52 by omega, show k ≠ 53 by omega, show k ≠ 54 by omega])⟩
set_option maxRecDepth 100000 in
set_option maxHeartbeats 1000000 in
theorem pr_divides (w : GW) (B : Nat) (a : AS) (hO : OA a B) (hB : B + 10000 < 2 ^ 31) : Pair w yX4_divides cX4_divides 1 yX5_divides cX5_divides 2 (some .int) [] B a := by
  obtain ⟨f, ps, st, rf, tx, len⟩ := a
  have hO2 := hO
  obtain ⟨hok, hx, h5, hps, hl, ht⟩ := hO2
  have hok : ROk f := hok
  have hx : XOk f B := hx
  have h5 : st ≤ 5 := h5
  have hl : len ≤ 120 := hl
  by_cases hz : gsm (gN f) 6 = 0
  · skip
    refine ⟨.int (-3), badA (f, ps, st, rf, tx, len) 1, ⟨_, rfl⟩, OA_bad (by omega) hO, ⟨4, by decide, fun tu sg hC => ?_⟩, ⟨3, by decide, fun tu sg hR => ?_⟩⟩
    · have e1 : rowC sg 1 = f := hC.1
      exact (c_X4_divides_z w tu sg (by rw [e1]; exact ng_gs.mpr hz) (by rw [e1]; exact hok)).toP ⟨rfl, PC_no (i := 1) (by decide) hC rb_1 (fun k hk => ch_n hk)⟩
    · have e2 : sg 45 = f := hR.1
      exact (c_X5_divides_z w tu sg (by rw [hR.1]; exact hok) (by rw [e2]; exact hz)).toP ⟨rfl, RA_bad (i := 1) (by decide) hR rfl rfl rfl rfl rfl rfl, (fun k hk => by simp [us, show k ≠ 44 by omega, show k ≠ 45 by omega, show k ≠ 46 by omega, show k ≠ 47 by omega, show k ≠ 48 by omega, show k ≠ 49 by omega, show k ≠ 50 by omega, show k ≠ 51 by omega, show k ≠ 52 by omega, show k ≠ 53 by omega, show k ≠ 54 by omega])⟩
  · cases hb : dvB (gN f) 7 (ccR f) with
    | true =>
      refine ⟨.int (nI (dvC (gN f) 7 (ccR f))), pushA (f, ps, st, rf, tx, len) (dvF (gN f) 7 (ccR f)), ⟨_, rfl⟩, (op_OA (l := 118) (x := 0) (y := 0) hO (by unfold opR; rw [if_neg (by decide), if_neg (by decide), if_neg (by decide), if_neg (by decide), if_neg (by decide), if_neg (by decide), if_pos rfl, if_neg hz, if_pos hb])), ⟨5, by decide, fun tu sg hC => ?_⟩, ⟨4, by decide, fun tu sg hR => ?_⟩⟩
      · obtain ⟨nx, hn5, hnx, hring⟩ := hC.2.1
        have e1 : rowC sg 1 = f := hC.1
        exact (c_X4_divides_ok w tu sg (by rw [e1]; exact fun q => hz (ng_gs.mp q)) (by rw [e1]; exact hb) (by rw [e1]; exact hok) nx st hn5 hnx hC.2.2.1 h5).toP ⟨congrArg (fun q => some (Value.int q)) (by rw [S1_r, e1]), PC_okE (sg := sg) (a := (f, ps, st, rf, tx, len)) (nx := nx) (by rw [S1_r, e1]) hC h5 hn5 hring⟩
      · have e2 : sg 45 = f := hR.1
        exact (c_X5_divides_ok w tu sg st (by rw [hR.1]; exact hok) (by rw [e2]; exact hz) (by rw [e2]; exact hb) hR.2.1 h5).toP ⟨congrArg (fun q => some (Value.int q)) (by rw [e2]), RA_push hR h5 (u45.trans (by rw [e2])) rfl rfl rfl rfl rfl, (fun k hk => by simp [us, show k ≠ 44 by omega, show k ≠ 45 by omega, show k ≠ 46 by omega, show k ≠ 47 by omega, show k ≠ 48 by omega, show k ≠ 49 by omega, show k ≠ 50 by omega, show k ≠ 51 by omega, show k ≠ 52 by omega, show k ≠ 53 by omega, show k ≠ 54 by omega])⟩
    | false =>
      refine ⟨.int (-3), badA (f, ps, st, rf, tx, len) 1, ⟨_, rfl⟩, OA_bad (by omega) hO, ⟨5, by decide, fun tu sg hC => ?_⟩, ⟨4, by decide, fun tu sg hR => ?_⟩⟩
      · have e1 : rowC sg 1 = f := hC.1
        exact (c_X4_divides_no w tu sg (by rw [e1]; exact fun q => hz (ng_gs.mp q)) (by rw [e1]; exact hb) (by rw [e1]; exact hok)).toP ⟨rfl, PC_no (i := 1) (by decide) hC bk_1 (fun k hk => (wrR_n (by omega)).trans (ch_n hk))⟩
      · have e2 : sg 45 = f := hR.1
        exact (c_X5_divides_no w tu sg (by rw [hR.1]; exact hok) (by rw [e2]; exact hz) (by rw [e2]; exact hb)).toP ⟨rfl, RA_bad (i := 1) (by decide) hR rfl rfl rfl rfl rfl rfl, (fun k hk => by simp [us, show k ≠ 44 by omega, show k ≠ 45 by omega, show k ≠ 46 by omega, show k ≠ 47 by omega, show k ≠ 48 by omega, show k ≠ 49 by omega, show k ≠ 50 by omega, show k ≠ 51 by omega, show k ≠ 52 by omega, show k ≠ 53 by omega, show k ≠ 54 by omega])⟩
