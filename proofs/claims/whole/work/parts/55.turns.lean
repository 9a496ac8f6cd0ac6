theorem abs_pI {H m : Nat} : (if 0 ≤ pI H m then pI H m else 0 - pI H m) = nI (aP H m) := by
  by_cases h : H = 1 ∧ 5 < m % 10
  · obtain ⟨rfl, h5⟩ := h
    rw [(pI_neg ⟨rfl, h5⟩).2]
    unfold aP
    rw [if_pos ⟨rfl, h5⟩]
  · rw [show pI H m = nI (m % 10) from if_neg h, show aP H m = m % 10 from if_neg h]
    exact abs_d _ (Nat.mod_lt _ (by omega))
set_option maxRecDepth 100000 in
set_option maxHeartbeats 400000 in
theorem c_X4_turnsToMultiply_0 (w : GW) (tu : Int64) (sg : Sg) (n : Nat) (hn : n ≤ 999999) : Kt w yX4_turnsToMultiply cX4_turnsToMultiply 6 (some .int) 2 [.int (nI n), .int (nI 0)] sg tu (some (.int (nI (smP 0 n 6)))) sg tu := by
  refine Kt.of2 RX4 rfl [(0, .int (nI n)), (1, .int (nI 0))] (by decide) rfl (Nat.le_of_ble_eq_true rfl) (fun z C E => ?_)
  refine g_iload_n C 0 rfl rfl dX4_turnsToMultiply_0 ?_
  refine g_iload_n C 1 rfl rfl dX4_turnsToMultiply_1 ?_
  refine g_callS1 [] C (c_X4_canMultiply_0 w tu sg n hn) mt_X4_canMultiply ml_X4_212 st_X4_canMultiply (by decide) rfl (Nat.le_of_ble_eq_true rfl) dX4_turnsToMultiply_2 ?_
  refine g_eq (L' := [(0, .int (nI n)), (1, .int (nI 0))]) (S' := [.int (nI 1)]) rfl rfl rfl rfl ?_
  refine g_if_ne C (tgt := 11) (by decide) dX4_turnsToMultiply_5 (fun h5 => ?_) (fun h5 => absurd h5 (by decide))
  refine g_iconst C (v := (nI 0)) (by decide) dX4_turnsToMultiply_11 ?_
  refine g_istore_n C (L' := [(2, .int (nI 0)), (0, .int (nI n)), (1, .int (nI 0))]) rfl (by decide) rfl dX4_turnsToMultiply_12 ?_
  refine g_iload_n C 1 rfl rfl dX4_turnsToMultiply_13 ?_
  refine g_istore_n C (L' := [(3, .int (nI n)), (2, .int (nI 0)), (0, .int (nI n)), (1, .int (nI 0))]) rfl (by decide) rfl dX4_turnsToMultiply_14 ?_
  refine g_iconst C (v := (nI 0)) (by decide) dX4_turnsToMultiply_15 ?_
  refine g_istore C (L' := [(4, .int (nI 0)), (3, .int (nI n)), (2, .int (nI 0)), (0, .int (nI n)), (1, .int (nI 0))]) (by decide) rfl dX4_turnsToMultiply_16 ?_
  have lp : ∀ (nf i : Nat), 6 < i + nf → i ≤ 6 → (True) → G z w 6 sg tu 18 [(4, .int (nI i)), (3, .int (nI (mkP 0 n i))), (2, .int (nI (smP 0 n i))), (0, .int (nI n)), (1, .int (nI 0))] [] := by
    intro nf
    induction nf with
    | zero => intro i  h1 h2 hI; exact absurd h1 (by omega)
    | succ nf ihlp =>
      intro i  h1 h2 hI
      have hmk := mkP_le (how := 0) hn i
      refine g_iload C 0 rfl dX4_turnsToMultiply_18 ?_
      refine g_iload_n C 4 rfl rfl dX4_turnsToMultiply_20 ?_
      refine g_callS1 [.int (nI i)] C (c_X4_figuresToMultiply_0 w tu sg  ) mt_X4_figuresToMultiply ml_X4_216 st_X4_figuresToMultiply (by decide) rfl (Nat.le_of_ble_eq_true rfl) dX4_turnsToMultiply_21 ?_
      refine g_eq (L' := [(4, .int (nI i)), (3, .int (nI (mkP 0 n i))), (2, .int (nI (smP 0 n i))), (0, .int (nI n)), (1, .int (nI 0))]) (S' := [.int (nI 6), .int (nI i)]) rfl rfl rfl rfl ?_
      refine g_icmpN_ge C i 6 (by omega) (by omega) (tgt := 55) (by decide) dX4_turnsToMultiply_24 (fun h24 => ?_) (fun h24 => ?_)
      ·
        have hiN : 6 = i := by omega
        subst hiN
        refine g_iload_n C 2 rfl rfl dX4_turnsToMultiply_55 ?_
        exact g_iret C E dX4_turnsToMultiply_56 rfl Sq.rf rfl
      ·
        refine g_iload_n C 1 rfl rfl dX4_turnsToMultiply_27 ?_
        refine g_iload_n C 4 rfl rfl dX4_turnsToMultiply_28 ?_
        refine g_callS1 [] C (c_X4_turnsForFigure_0 w tu sg (mkP 0 n i) hmk) mt_X4_turnsForFigure ml_X4_219 st_X4_turnsForFigure (by decide) rfl (Nat.le_of_ble_eq_true rfl) dX4_turnsToMultiply_29 ?_
        refine g_eq (L' := [(4, .int (nI i)), (3, .int (nI (mkP 0 n i))), (2, .int (nI (smP 0 n i))), (0, .int (nI n)), (1, .int (nI 0))]) (S' := [.int (pI 0 (mkP 0 n i))]) rfl rfl rfl rfl ?_
        refine g_istore C (L' := [(5, .int (pI 0 (mkP 0 n i))), (4, .int (nI i)), (3, .int (nI (mkP 0 n i))), (2, .int (nI (smP 0 n i))), (0, .int (nI n)), (1, .int (nI 0))]) (by decide) rfl dX4_turnsToMultiply_32 ?_
        refine g_iload_n C 2 rfl rfl dX4_turnsToMultiply_34 ?_
        refine g_iload C 0 rfl dX4_turnsToMultiply_35 ?_
        refine g_callS1 [] C (c_X4_leftBehindFigure_0 w tu sg (mkP 0 n i) (pI 0 (mkP 0 n i)) hmk rfl) mt_X4_leftBehindFigure ml_X4_222 st_X4_leftBehindFigure (by decide) rfl (Nat.le_of_ble_eq_true rfl) dX4_turnsToMultiply_37 ?_
        refine g_eq (L' := [(5, .int (pI 0 (mkP 0 n i))), (4, .int (nI i)), (3, .int (nI (mkP 0 n i))), (2, .int (nI (smP 0 n i))), (0, .int (nI n)), (1, .int (nI 0))]) (S' := [.int (nI (nxP 0 (mkP 0 n i)))]) rfl rfl rfl rfl ?_
        refine g_istore_n C (L' := [(3, .int (nI (nxP 0 (mkP 0 n i)))), (5, .int (pI 0 (mkP 0 n i))), (4, .int (nI i)), (2, .int (nI (smP 0 n i))), (0, .int (nI n)), (1, .int (nI 0))]) rfl (by decide) rfl dX4_turnsToMultiply_40 ?_
        refine g_iload_n C 3 rfl rfl dX4_turnsToMultiply_41 ?_
        refine g_iload C 1 rfl dX4_turnsToMultiply_42 ?_
        refine g_mabs C ml_X4_225 st_Lib_Math_abs_name ini_J9 co_math_abs (by decide) (Nat.le_of_ble_eq_true rfl) dX4_turnsToMultiply_44 ?_
        refine g_top (y := (nI (aP 0 (mkP 0 n i)))) abs_pI ?_
        refine g_iadd C dX4_turnsToMultiply_47 ?_
        refine g_top (y := (nI ((smP 0 n i) + (aP 0 (mkP 0 n i))))) (nI_add (smP 0 n i) (aP 0 (mkP 0 n i))) ?_
        refine g_istore_n C (L' := [(2, .int (nI ((smP 0 n i) + (aP 0 (mkP 0 n i))))), (3, .int (nI (nxP 0 (mkP 0 n i)))), (5, .int (pI 0 (mkP 0 n i))), (4, .int (nI i)), (0, .int (nI n)), (1, .int (nI 0))]) rfl (by decide) rfl dX4_turnsToMultiply_48 ?_
        refine g_iinc C (n := 1) (v := (nI (i + 1))) (L' := [(4, .int (nI (i + 1))), (2, .int (nI ((smP 0 n i) + (aP 0 (mkP 0 n i))))), (3, .int (nI (nxP 0 (mkP 0 n i)))), (5, .int (pI 0 (mkP 0 n i))), (0, .int (nI n)), (1, .int (nI 0))]) 3 rfl (nI_add i 1) (by decide) rfl dX4_turnsToMultiply_49 ?_
        refine g_goto C (tgt := 18) (by decide) dX4_turnsToMultiply_52 ?_
        refine g_sub (L' := [(4, .int (nI (i + 1))), (3, .int (nI (nxP 0 (mkP 0 n i)))), (2, .int (nI ((smP 0 n i) + (aP 0 (mkP 0 n i))))), (0, .int (nI n)), (1, .int (nI 0))]) [0, 2, 1, 4, 5] rfl ?_
        refine g_eq (L' := [(4, .int (nI (i + 1))), (3, .int (nI (mkP 0 n (i + 1)))), (2, .int (nI (smP 0 n (i + 1)))), (0, .int (nI n)), (1, .int (nI 0))]) rfl rfl rfl rfl ?_
        exact ihlp (i + 1)  (by omega) (by omega) trivial
  refine g_sub (L' := [(4, .int (nI 0)), (3, .int (nI n)), (2, .int (nI 0)), (0, .int (nI n)), (1, .int (nI 0))]) [0, 1, 2, 3, 4] rfl ?_
  exact lp (6 + 1) 0  (by omega) (by omega) trivial
set_option maxRecDepth 100000 in
set_option maxHeartbeats 400000 in
theorem c_X4_turnsToMultiply_1 (w : GW) (tu : Int64) (sg : Sg) (n : Nat) (hn : n ≤ 999999) : Kt w yX4_turnsToMultiply cX4_turnsToMultiply 6 (some .int) 2 [.int (nI n), .int (nI 1)] sg tu (some (.int (nI (smP 1 n 7)))) sg tu := by
  refine Kt.of2 RX4 rfl [(0, .int (nI n)), (1, .int (nI 1))] (by decide) rfl (Nat.le_of_ble_eq_true rfl) (fun z C E => ?_)
  refine g_iload_n C 0 rfl rfl dX4_turnsToMultiply_0 ?_
  refine g_iload_n C 1 rfl rfl dX4_turnsToMultiply_1 ?_
  refine g_callS1 [] C (c_X4_canMultiply_1 w tu sg n hn) mt_X4_canMultiply ml_X4_212 st_X4_canMultiply (by decide) rfl (Nat.le_of_ble_eq_true rfl) dX4_turnsToMultiply_2 ?_
  refine g_eq (L' := [(0, .int (nI n)), (1, .int (nI 1))]) (S' := [.int (nI 1)]) rfl rfl rfl rfl ?_
  refine g_if_ne C (tgt := 11) (by decide) dX4_turnsToMultiply_5 (fun h5 => ?_) (fun h5 => absurd h5 (by decide))
  refine g_iconst C (v := (nI 0)) (by decide) dX4_turnsToMultiply_11 ?_
  refine g_istore_n C (L' := [(2, .int (nI 0)), (0, .int (nI n)), (1, .int (nI 1))]) rfl (by decide) rfl dX4_turnsToMultiply_12 ?_
  refine g_iload_n C 1 rfl rfl dX4_turnsToMultiply_13 ?_
  refine g_istore_n C (L' := [(3, .int (nI n)), (2, .int (nI 0)), (0, .int (nI n)), (1, .int (nI 1))]) rfl (by decide) rfl dX4_turnsToMultiply_14 ?_
  refine g_iconst C (v := (nI 0)) (by decide) dX4_turnsToMultiply_15 ?_
  refine g_istore C (L' := [(4, .int (nI 0)), (3, .int (nI n)), (2, .int (nI 0)), (0, .int (nI n)), (1, .int (nI 1))]) (by decide) rfl dX4_turnsToMultiply_16 ?_
  have lp : ∀ (nf i : Nat), 7 < i + nf → i ≤ 7 → (True) → G z w 6 sg tu 18 [(4, .int (nI i)), (3, .int (nI (mkP 1 n i))), (2, .int (nI (smP 1 n i))), (0, .int (nI n)), (1, .int (nI 1))] [] := by
    intro nf
    induction nf with
    | zero => intro i  h1 h2 hI; exact absurd h1 (by omega)
    | succ nf ihlp =>
      intro i  h1 h2 hI
      have hmk := mkP_le (how := 1) hn i
      refine g_iload C 0 rfl dX4_turnsToMultiply_18 ?_
      refine g_iload_n C 4 rfl rfl dX4_turnsToMultiply_20 ?_
      refine g_callS1 [.int (nI i)] C (c_X4_figuresToMultiply_1 w tu sg  ) mt_X4_figuresToMultiply ml_X4_216 st_X4_figuresToMultiply (by decide) rfl (Nat.le_of_ble_eq_true rfl) dX4_turnsToMultiply_21 ?_
      refine g_eq (L' := [(4, .int (nI i)), (3, .int (nI (mkP 1 n i))), (2, .int (nI (smP 1 n i))), (0, .int (nI n)), (1, .int (nI 1))]) (S' := [.int (nI 7), .int (nI i)]) rfl rfl rfl rfl ?_
      refine g_icmpN_ge C i 7 (by omega) (by omega) (tgt := 55) (by decide) dX4_turnsToMultiply_24 (fun h24 => ?_) (fun h24 => ?_)
      ·
        have hiN : 7 = i := by omega
        subst hiN
        refine g_iload_n C 2 rfl rfl dX4_turnsToMultiply_55 ?_
        exact g_iret C E dX4_turnsToMultiply_56 rfl Sq.rf rfl
      ·
        refine g_iload_n C 1 rfl rfl dX4_turnsToMultiply_27 ?_
        refine g_iload_n C 4 rfl rfl dX4_turnsToMultiply_28 ?_
        refine g_callS1 [] C (c_X4_turnsForFigure_1 w tu sg (mkP 1 n i) hmk) mt_X4_turnsForFigure ml_X4_219 st_X4_turnsForFigure (by decide) rfl (Nat.le_of_ble_eq_true rfl) dX4_turnsToMultiply_29 ?_
        refine g_eq (L' := [(4, .int (nI i)), (3, .int (nI (mkP 1 n i))), (2, .int (nI (smP 1 n i))), (0, .int (nI n)), (1, .int (nI 1))]) (S' := [.int (pI 1 (mkP 1 n i))]) rfl rfl rfl rfl ?_
        refine g_istore C (L' := [(5, .int (pI 1 (mkP 1 n i))), (4, .int (nI i)), (3, .int (nI (mkP 1 n i))), (2, .int (nI (smP 1 n i))), (0, .int (nI n)), (1, .int (nI 1))]) (by decide) rfl dX4_turnsToMultiply_32 ?_
        refine g_iload_n C 2 rfl rfl dX4_turnsToMultiply_34 ?_
        refine g_iload C 0 rfl dX4_turnsToMultiply_35 ?_
        refine g_callS1 [] C (c_X4_leftBehindFigure_1 w tu sg (mkP 1 n i) (pI 1 (mkP 1 n i)) hmk rfl) mt_X4_leftBehindFigure ml_X4_222 st_X4_leftBehindFigure (by decide) rfl (Nat.le_of_ble_eq_true rfl) dX4_turnsToMultiply_37 ?_
        refine g_eq (L' := [(5, .int (pI 1 (mkP 1 n i))), (4, .int (nI i)), (3, .int (nI (mkP 1 n i))), (2, .int (nI (smP 1 n i))), (0, .int (nI n)), (1, .int (nI 1))]) (S' := [.int (nI (nxP 1 (mkP 1 n i)))]) rfl rfl rfl rfl ?_
        refine g_istore_n C (L' := [(3, .int (nI (nxP 1 (mkP 1 n i)))), (5, .int (pI 1 (mkP 1 n i))), (4, .int (nI i)), (2, .int (nI (smP 1 n i))), (0, .int (nI n)), (1, .int (nI 1))]) rfl (by decide) rfl dX4_turnsToMultiply_40 ?_
        refine g_iload_n C 3 rfl rfl dX4_turnsToMultiply_41 ?_
        refine g_iload C 1 rfl dX4_turnsToMultiply_42 ?_
        refine g_mabs C ml_X4_225 st_Lib_Math_abs_name ini_J9 co_math_abs (by decide) (Nat.le_of_ble_eq_true rfl) dX4_turnsToMultiply_44 ?_
        refine g_top (y := (nI (aP 1 (mkP 1 n i)))) abs_pI ?_
        refine g_iadd C dX4_turnsToMultiply_47 ?_
        refine g_top (y := (nI ((smP 1 n i) + (aP 1 (mkP 1 n i))))) (nI_add (smP 1 n i) (aP 1 (mkP 1 n i))) ?_
        refine g_istore_n C (L' := [(2, .int (nI ((smP 1 n i) + (aP 1 (mkP 1 n i))))), (3, .int (nI (nxP 1 (mkP 1 n i)))), (5, .int (pI 1 (mkP 1 n i))), (4, .int (nI i)), (0, .int (nI n)), (1, .int (nI 1))]) rfl (by decide) rfl dX4_turnsToMultiply_48 ?_
        refine g_iinc C (n := 1) (v := (nI (i + 1))) (L' := [(4, .int (nI (i + 1))), (2, .int (nI ((smP 1 n i) + (aP 1 (mkP 1 n i))))), (3, .int (nI (nxP 1 (mkP 1 n i)))), (5, .int (pI 1 (mkP 1 n i))), (0, .int (nI n)), (1, .int (nI 1))]) 3 rfl (nI_add i 1) (by decide) rfl dX4_turnsToMultiply_49 ?_
        refine g_goto C (tgt := 18) (by decide) dX4_turnsToMultiply_52 ?_
        refine g_sub (L' := [(4, .int (nI (i + 1))), (3, .int (nI (nxP 1 (mkP 1 n i)))), (2, .int (nI ((smP 1 n i) + (aP 1 (mkP 1 n i))))), (0, .int (nI n)), (1, .int (nI 1))]) [0, 2, 1, 4, 5] rfl ?_
        refine g_eq (L' := [(4, .int (nI (i + 1))), (3, .int (nI (mkP 1 n (i + 1)))), (2, .int (nI (smP 1 n (i + 1)))), (0, .int (nI n)), (1, .int (nI 1))]) rfl rfl rfl rfl ?_
        exact ihlp (i + 1)  (by omega) (by omega) trivial
  refine g_sub (L' := [(4, .int (nI 0)), (3, .int (nI n)), (2, .int (nI 0)), (0, .int (nI n)), (1, .int (nI 1))]) [0, 1, 2, 3, 4] rfl ?_
  exact lp (7 + 1) 0  (by omega) (by omega) trivial
set_option maxRecDepth 100000 in
set_option maxHeartbeats 400000 in
theorem c_X4_turnsToMultiply_bad (w : GW) (tu : Int64) (sg : Sg) (x : Int32) (v : Int32) (h : ¬ ((0 ≤ Int32.toInt64 x ∧ Int32.toInt64 x ≤ 999999) ∧ (0 ≤ Int32.toInt64 v ∧ Int32.toInt64 v ≤ 1))) : Kt w yX4_turnsToMultiply cX4_turnsToMultiply 6 (some .int) 2 [.int x, .int v] sg tu (some (.int (-2))) sg tu := by
  refine Kt.of2 RX4 rfl [(0, .int x), (1, .int v)] (by decide) rfl (Nat.le_of_ble_eq_true rfl) (fun z C E => ?_)
  refine g_iload_n C 0 rfl rfl dX4_turnsToMultiply_0 ?_
  refine g_iload_n C 1 rfl rfl dX4_turnsToMultiply_1 ?_
  refine g_callS1 [] C (c_X4_canMultiply_bad w tu sg x v h) mt_X4_canMultiply ml_X4_212 st_X4_canMultiply (by decide) rfl (Nat.le_of_ble_eq_true rfl) dX4_turnsToMultiply_2 ?_
  refine g_eq (L' := [(0, .int x), (1, .int v)]) (S' := [.int (nI 0)]) rfl rfl rfl rfl ?_
  refine g_if_ne C (tgt := 11) (by decide) dX4_turnsToMultiply_5 (fun h5 => absurd h5 (by decide)) (fun h5 => ?_)
  refine g_bipush C (v := (-2)) (by decide) dX4_turnsToMultiply_8 ?_
  exact g_iret C E dX4_turnsToMultiply_10 rfl Sq.rf rfl
