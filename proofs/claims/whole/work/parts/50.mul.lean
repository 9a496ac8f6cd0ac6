theorem pI_neg {m : Nat} (h : 1 = 1 ∧ 5 < m % 10) : pI 1 m < 0 ∧ (if 0 ≤ pI 1 m then pI 1 m else 0 - pI 1 m) = nI (10 - m % 10) := by
  have e : pI 1 m = nI (m % 10) - nI 10 := if_pos h
  rw [e]
  have hd : ∀ a, a < 10 → 5 < a → (nI a - nI 10 < 0 ∧ (if 0 ≤ nI a - nI 10 then nI a - nI 10 else 0 - (nI a - nI 10)) = nI (10 - a)) := by decide +kernel
  exact hd _ (by omega) h.2
theorem mu_end {sg : Sg} {H n : Nat} {g : Nat → Nat} (K : Nat) : wrR sg 1 (muR H n g K (clR (rowC sg 1))) 1 7 - sg 1 7 = nI (smP H n K) := by
  have e : wrR sg 1 (muR H n g K (clR (rowC sg 1))) 1 7 = muR H n g K (clR (rowC sg 1)) 34 := by rw [wrR_0]; rfl
  rw [e, muR_34, show clR (rowC sg 1) 34 = sg 1 7 from (clR_hi (by omega)).trans (rowC_f (sg := sg) (w := 1) (j := 7) (by omega))]
  exact i_cnc _ _
theorem abs_d : ∀ a, a < 10 → (if 0 ≤ nI a then nI a else 0 - nI a) = nI a := by decide +kernel
set_option maxRecDepth 100000 in
set_option maxHeartbeats 400000 in
theorem c_X3_multiply_0 (w : GW) (tu : Int64) (sg : Sg) (n : Nat) (hn : n ≤ 999999) (hok : ROk (rowC sg 1)) : Kt w yX3_multiply cX3_multiply 9 (some .int) 3 [.ref (ad w 1), .int (nI n), .int (nI 0)] sg tu (some (.int (nI (smP 0 n 6)))) (wrR sg 1 (muR 0 n (gN (rowC sg 1)) 6 (clR (rowC sg 1)))) tu := by
  refine Kt.of2 RX3 rfl [(0, .ref (ad w 1)), (1, .int (nI n)), (2, .int (nI 0))] (by decide) rfl (Nat.le_of_ble_eq_true rfl) (fun z C E => ?_)
  refine g_iload_n C 1 rfl rfl dX3_multiply_0 ?_
  refine g_iload_n C 2 rfl rfl dX3_multiply_1 ?_
  refine g_callN1 [] C (c_X4_canMultiply_0 w tu sg n hn) mt_X4_canMultiply nl_X3_85 st_X4_canMultiply (by decide) rfl (Nat.le_of_ble_eq_true rfl) dX3_multiply_2 ?_
  refine g_eq (L' := [(0, .ref (ad w 1)), (1, .int (nI n)), (2, .int (nI 0))]) (S' := [.int (nI 1)]) rfl rfl rfl rfl ?_
  refine g_if_ne C (tgt := 11) (by decide) dX3_multiply_5 (fun h5 => ?_) (fun h5 => absurd h5 (by decide))
  refine g_aload_n C 0 rfl rfl dX3_multiply_11 ?_
  refine g_getI C (j := 7) cls3 e_1 rfl (by decide) fl_X3_34 dX3_multiply_12 ?_
  refine g_istore_n C (L' := [(3, .int (sg 1 7)), (0, .ref (ad w 1)), (1, .int (nI n)), (2, .int (nI 0))]) rfl (by decide) rfl dX3_multiply_15 ?_
  refine g_aload_n C 1 rfl rfl dX3_multiply_16 ?_
  refine g_callV1 [] C (c_X3_clearAll w tu sg  ) mt_X3_clearAll e_1 rfl ml_X3_88 im_X3_clearAll se_X3_clearAll (by decide) rfl (Nat.le_of_ble_eq_true rfl) dX3_multiply_17 ?_
  refine g_eq (sg' := (wrR sg 1 (clR (rowC sg 1)))) (L' := [(3, .int (sg 1 7)), (0, .ref (ad w 1)), (1, .int (nI n)), (2, .int (nI 0))]) (S' := [.int (czX (sg 4) (fun k => nI (0 / 10 ^ k % 10)) 0 12)]) rfl rfl rfl rfl ?_
  refine g_pop C rfl dX3_multiply_20 ?_
  refine g_iload_n C 2 rfl rfl dX3_multiply_21 ?_
  refine g_istore C (L' := [(4, .int (nI n)), (3, .int (sg 1 7)), (0, .ref (ad w 1)), (1, .int (nI n)), (2, .int (nI 0))]) (by decide) rfl dX3_multiply_22 ?_
  refine g_iconst C (v := (nI 0)) (by decide) dX3_multiply_24 ?_
  refine g_istore C (L' := [(5, .int (nI 0)), (4, .int (nI n)), (3, .int (sg 1 7)), (0, .ref (ad w 1)), (1, .int (nI n)), (2, .int (nI 0))]) (by decide) rfl dX3_multiply_25 ?_
  have lp : ∀ (nf i : Nat), 6 < i + nf → i ≤ 6 → (True) → G z w 9 (wrR sg 1 (muR 0 n (gN (rowC sg 1)) i (clR (rowC sg 1)))) tu 27 [(5, .int (nI i)), (4, .int (nI (mkP 0 n i))), (3, .int (sg 1 7)), (0, .ref (ad w 1)), (1, .int (nI n)), (2, .int (nI 0))] [] := by
    intro nf
    induction nf with
    | zero => intro i  h1 h2 hI; exact absurd h1 (by omega)
    | succ nf ihlp =>
      intro i  h1 h2 hI
      have hmk := mkP_le (how := 0) hn i
      refine g_iload C 0 rfl dX3_multiply_27 ?_
      refine g_iload_n C 5 rfl rfl dX3_multiply_29 ?_
      refine g_callN1 [.int (nI i)] C (c_X4_figuresToMultiply_0 w tu (wrR sg 1 (muR 0 n (gN (rowC sg 1)) i (clR (rowC sg 1))))  ) mt_X4_figuresToMultiply nl_X3_92 st_X4_figuresToMultiply (by decide) rfl (Nat.le_of_ble_eq_true rfl) dX3_multiply_30 ?_
      refine g_eq (L' := [(5, .int (nI i)), (4, .int (nI (mkP 0 n i))), (3, .int (sg 1 7)), (0, .ref (ad w 1)), (1, .int (nI n)), (2, .int (nI 0))]) (S' := [.int (nI 6), .int (nI i)]) rfl rfl rfl rfl ?_
      refine g_icmpN_ge C i 6 (by omega) (by omega) (tgt := 105) (by decide) dX3_multiply_33 (fun h33 => ?_) (fun h33 => ?_)
      ·
        have hiN : 6 = i := by omega
        subst hiN
        refine g_aload_n C 3 rfl rfl dX3_multiply_105 ?_
        refine g_getI C (j := 7) cls3 e_1 rfl (by decide) fl_X3_34 dX3_multiply_106 ?_
        refine g_iload_n C 2 rfl rfl dX3_multiply_109 ?_
        refine g_isub C dX3_multiply_110 ?_
        exact g_iret C E dX3_multiply_111 (mu_end 6) Sq.rf rfl
      ·
        refine g_aload_n C 3 rfl rfl dX3_multiply_36 ?_
        refine g_iload C 0 rfl dX3_multiply_37 ?_
        refine g_putI C (j := 4) cls3 e_1 rfl (by decide) rfl rfl fl_X3_24 dX3_multiply_39 ?_
        refine g_sgE (sg' := (us (wrR sg 1 (muR 0 n (gN (rowC sg 1)) i (clR (rowC sg 1)))) 1 (upd ((wrR sg 1 (muR 0 n (gN (rowC sg 1)) i (clR (rowC sg 1)))) 1) 4 (nI i)))) rfl ?_
        refine g_sq (sg' := (wrR sg 1 (upd (muR 0 n (gN (rowC sg 1)) i (clR (rowC sg 1))) 31 (nI i)))) sh_w ?_
        have hF0 : ROk (upd (muR 0 n (gN (rowC sg 1)) i (clR (rowC sg 1))) 31 (nI i)) := sh_ok (muR_ok (clR_ok hok) (fun _ h => (gN_ok hok h).2) i (by omega)) (by omega)
        have hl0 : ∀ j, j < 12 → (upd (muR 0 n (gN (rowC sg 1)) i (clR (rowC sg 1))) 31 (nI i)) j = rowC sg 1 j := fun j hj => (upd_ne (by omega)).trans ((muR_lo hj i).trans (clR_lo (by omega)))
        have hmd : mkP 0 n i % 10 < 10 := Nat.mod_lt _ (by omega)
        refine g_iload C 1 rfl dX3_multiply_42 ?_
        refine g_iload_n C 5 rfl rfl dX3_multiply_44 ?_
        refine g_callN1 [] C (c_X4_turnsForFigure_0 w tu (wrR sg 1 (upd (muR 0 n (gN (rowC sg 1)) i (clR (rowC sg 1))) 31 (nI i))) (mkP 0 n i) hmk) mt_X4_turnsForFigure nl_X3_95 st_X4_turnsForFigure (by decide) rfl (Nat.le_of_ble_eq_true rfl) dX3_multiply_45 ?_
        refine g_eq (L' := [(5, .int (nI i)), (4, .int (nI (mkP 0 n i))), (3, .int (sg 1 7)), (0, .ref (ad w 1)), (1, .int (nI n)), (2, .int (nI 0))]) (S' := [.int (pI 0 (mkP 0 n i))]) rfl rfl rfl rfl ?_
        refine g_istore C (L' := [(6, .int (pI 0 (mkP 0 n i))), (5, .int (nI i)), (4, .int (nI (mkP 0 n i))), (3, .int (sg 1 7)), (0, .ref (ad w 1)), (1, .int (nI n)), (2, .int (nI 0))]) (by decide) rfl dX3_multiply_48 ?_
        refine g_iload C 2 rfl dX3_multiply_50 ?_
        refine g_iload C 0 rfl dX3_multiply_52 ?_
        refine g_callN1 [] C (c_X4_leftBehindFigure_0 w tu (wrR sg 1 (upd (muR 0 n (gN (rowC sg 1)) i (clR (rowC sg 1))) 31 (nI i))) (mkP 0 n i) (pI 0 (mkP 0 n i)) hmk rfl) mt_X4_leftBehindFigure nl_X3_99 st_X4_leftBehindFigure (by decide) rfl (Nat.le_of_ble_eq_true rfl) dX3_multiply_54 ?_
        refine g_eq (L' := [(6, .int (pI 0 (mkP 0 n i))), (5, .int (nI i)), (4, .int (nI (mkP 0 n i))), (3, .int (sg 1 7)), (0, .ref (ad w 1)), (1, .int (nI n)), (2, .int (nI 0))]) (S' := [.int (nI (nxP 0 (mkP 0 n i)))]) rfl rfl rfl rfl ?_
        refine g_istore C (L' := [(4, .int (nI (nxP 0 (mkP 0 n i)))), (6, .int (pI 0 (mkP 0 n i))), (5, .int (nI i)), (3, .int (sg 1 7)), (0, .ref (ad w 1)), (1, .int (nI n)), (2, .int (nI 0))]) (by decide) rfl dX3_multiply_57 ?_
        have hov : ¬ (0 = 1 ∧ 5 < mkP 0 n i % 10) := by omega
        refine g_eq (L' := [(4, .int (nI (nxP 0 (mkP 0 n i)))), (6, .int (nI (mkP 0 n i % 10))), (5, .int (nI i)), (3, .int (sg 1 7)), (0, .ref (ad w 1)), (1, .int (nI n)), (2, .int (nI 0))]) rfl rfl (by rw [show pI 0 (mkP 0 n i) = nI (mkP 0 n i % 10) from if_neg hov]) rfl ?_
        refine g_iload C 1 rfl dX3_multiply_59 ?_
        refine g_if_ge C (tgt := 68) (by decide) dX3_multiply_61 (fun h61 => ?_) (fun h61 => absurd (nI_pos' (by omega)) h61)
        refine g_iconst C (v := (nI 1)) (by decide) dX3_multiply_68 ?_
        refine g_istore C (L' := [(7, .int (nI 1)), (4, .int (nI (nxP 0 (mkP 0 n i)))), (6, .int (nI (mkP 0 n i % 10))), (5, .int (nI i)), (3, .int (sg 1 7)), (0, .ref (ad w 1)), (1, .int (nI n)), (2, .int (nI 0))]) (by decide) rfl dX3_multiply_69 ?_
        refine g_iconst C (v := (nI 0)) (by decide) dX3_multiply_71 ?_
        refine g_istore C (L' := [(8, .int (nI 0)), (7, .int (nI 1)), (4, .int (nI (nxP 0 (mkP 0 n i)))), (6, .int (nI (mkP 0 n i % 10))), (5, .int (nI i)), (3, .int (sg 1 7)), (0, .ref (ad w 1)), (1, .int (nI n)), (2, .int (nI 0))]) (by decide) rfl dX3_multiply_72 ?_
        have lq : ∀ (nf q : Nat), (mkP 0 n i % 10) < q + nf → q ≤ (mkP 0 n i % 10) → (True) → G z w 9 (wrR sg 1 (itR true (nI 1) (gN (rowC sg 1)) q (upd (muR 0 n (gN (rowC sg 1)) i (clR (rowC sg 1))) 31 (nI i)))) tu 74 [(8, .int (nI q)), (7, .int (nI 1)), (4, .int (nI (nxP 0 (mkP 0 n i)))), (6, .int (nI (mkP 0 n i % 10))), (5, .int (nI i)), (3, .int (sg 1 7)), (0, .ref (ad w 1)), (1, .int (nI n)), (2, .int (nI 0))] [] := by
          intro nf
          induction nf with
          | zero => intro q  h1 h2 hI; exact absurd h1 (by omega)
          | succ nf ihlq =>
            intro q  h1 h2 hI
            refine g_iload C 0 rfl dX3_multiply_74 ?_
            refine g_iload C 3 rfl dX3_multiply_76 ?_
            refine g_mabs C ml_X3_102 st_Lib_Math_abs_name ini_J9 co_math_abs (by decide) (Nat.le_of_ble_eq_true rfl) dX3_multiply_78 ?_
            refine g_top (y := (nI (mkP 0 n i % 10))) (abs_d _ hmd) ?_
            refine g_icmpN_ge C q (mkP 0 n i % 10) (by omega) (by omega) (tgt := 99) (by decide) dX3_multiply_81 (fun h81 => ?_) (fun h81 => ?_)
            ·
              have hiN : (mkP 0 n i % 10) = q := by omega
              subst hiN
              refine g_iinc C (n := 1) (v := (nI (i + 1))) (L' := [(5, .int (nI (i + 1))), (8, .int (nI (mkP 0 n i % 10))), (7, .int (nI 1)), (4, .int (nI (nxP 0 (mkP 0 n i)))), (6, .int (nI (mkP 0 n i % 10))), (3, .int (sg 1 7)), (0, .ref (ad w 1)), (1, .int (nI n)), (2, .int (nI 0))]) 4 rfl (nI_add i 1) (by decide) rfl dX3_multiply_99 ?_
              refine g_goto C (tgt := 27) (by decide) dX3_multiply_102 ?_
              refine g_sub (L' := [(5, .int (nI (i + 1))), (4, .int (nI (nxP 0 (mkP 0 n i)))), (3, .int (sg 1 7)), (0, .ref (ad w 1)), (1, .int (nI n)), (2, .int (nI 0))]) [0, 3, 5, 6, 7, 8] rfl ?_
              refine g_eq (L' := [(5, .int (nI (i + 1))), (4, .int (nI (mkP 0 n (i + 1)))), (3, .int (sg 1 7)), (0, .ref (ad w 1)), (1, .int (nI n)), (2, .int (nI 0))]) rfl rfl rfl rfl ?_
              refine g_sgE (sg' := (wrR sg 1 (muR 0 n (gN (rowC sg 1)) (i + 1) (clR (rowC sg 1))))) (congrArg (wrR sg 1) (muR_no hov).symm) ?_
              exact ihlp (i + 1)  (by omega) (by omega) trivial
            ·
              refine g_aload_n C 6 rfl rfl dX3_multiply_84 ?_
              refine g_iload C 1 rfl dX3_multiply_85 ?_
              refine g_iload C 1 rfl dX3_multiply_87 ?_
              refine g_callV1 [] C (c_X3_turnOnce_up w tu (wrR sg 1 (itR true (nI 1) (gN (rowC sg 1)) q (upd (muR 0 n (gN (rowC sg 1)) i (clR (rowC sg 1))) 31 (nI i)))) (nI 1) (by rw [rowC_wr]; exact itR_ok hF0 (fun _ h => (gN_ok hok h).2) q)) mt_X3_turnOnce e_1 rfl ml_X3_81 im_X3_turnOnce se_X3_turnOnce (by decide) rfl (Nat.le_of_ble_eq_true rfl) dX3_multiply_89 ?_
              refine g_eq (sg' := (wrR (wrR sg 1 (itR true (nI 1) (gN (rowC sg 1)) q (upd (muR 0 n (gN (rowC sg 1)) i (clR (rowC sg 1))) 31 (nI i)))) 1 (tR true (nI 1) (gN (rowC (wrR sg 1 (itR true (nI 1) (gN (rowC sg 1)) q (upd (muR 0 n (gN (rowC sg 1)) i (clR (rowC sg 1))) 31 (nI i)))) 1)) (rowC (wrR sg 1 (itR true (nI 1) (gN (rowC sg 1)) q (upd (muR 0 n (gN (rowC sg 1)) i (clR (rowC sg 1))) 31 (nI i)))) 1)))) (L' := [(8, .int (nI q)), (7, .int (nI 1)), (4, .int (nI (nxP 0 (mkP 0 n i)))), (6, .int (nI (mkP 0 n i % 10))), (5, .int (nI i)), (3, .int (sg 1 7)), (0, .ref (ad w 1)), (1, .int (nI n)), (2, .int (nI 0))]) (S' := [.int (bI (blP true (wN (rowC (wrR sg 1 (itR true (nI 1) (gN (rowC sg 1)) q (upd (muR 0 n (gN (rowC sg 1)) i (clR (rowC sg 1))) 31 (nI i)))) 1)) (gN (rowC (wrR sg 1 (itR true (nI 1) (gN (rowC sg 1)) q (upd (muR 0 n (gN (rowC sg 1)) i (clR (rowC sg 1))) 31 (nI i)))) 1)) (sN (rowC (wrR sg 1 (itR true (nI 1) (gN (rowC sg 1)) q (upd (muR 0 n (gN (rowC sg 1)) i (clR (rowC sg 1))) 31 (nI i)))) 1)) (sN (rowC (wrR sg 1 (itR true (nI 1) (gN (rowC sg 1)) q (upd (muR 0 n (gN (rowC sg 1)) i (clR (rowC sg 1))) 31 (nI i)))) 1) + 5 + reN (rowC (wrR sg 1 (itR true (nI 1) (gN (rowC sg 1)) q (upd (muR 0 n (gN (rowC sg 1)) i (clR (rowC sg 1))) 31 (nI i)))) 1))))]) rfl rfl rfl rfl ?_
              refine g_pop C rfl dX3_multiply_92 ?_
              refine g_iinc C (n := 1) (v := (nI (q + 1))) (L' := [(8, .int (nI (q + 1))), (7, .int (nI 1)), (4, .int (nI (nxP 0 (mkP 0 n i)))), (6, .int (nI (mkP 0 n i % 10))), (5, .int (nI i)), (3, .int (sg 1 7)), (0, .ref (ad w 1)), (1, .int (nI n)), (2, .int (nI 0))]) 0 rfl (nI_add q 1) (by decide) rfl dX3_multiply_93 ?_
              refine g_goto C (tgt := 74) (by decide) dX3_multiply_96 ?_
              refine g_sub (L' := [(8, .int (nI (q + 1))), (7, .int (nI 1)), (4, .int (nI (nxP 0 (mkP 0 n i)))), (6, .int (nI (mkP 0 n i % 10))), (5, .int (nI i)), (3, .int (sg 1 7)), (0, .ref (ad w 1)), (1, .int (nI n)), (2, .int (nI 0))]) [0, 1, 2, 3, 4, 5, 6, 7, 8] rfl ?_
              refine g_sgE (sg' := (wrR sg 1 (itR true (nI 1) (gN (rowC sg 1)) (q + 1) (upd (muR 0 n (gN (rowC sg 1)) i (clR (rowC sg 1))) 31 (nI i))))) (tn_1 (fun d hd => gN_lo (fun j hj => (itR_lo hj q).trans (hl0 j hj)) hd)) ?_
              exact ihlq (q + 1)  (by omega) (by omega) trivial
        refine g_sgE (sg' := (wrR sg 1 (itR true (nI 1) (gN (rowC sg 1)) 0 (upd (muR 0 n (gN (rowC sg 1)) i (clR (rowC sg 1))) 31 (nI i))))) rfl ?_
        exact lq ((mkP 0 n i % 10) + 1) 0  (by omega) (by omega) trivial
  refine g_sgE (sg' := (wrR sg 1 (muR 0 n (gN (rowC sg 1)) 0 (clR (rowC sg 1))))) rfl ?_
  refine g_sub (L' := [(5, .int (nI 0)), (4, .int (nI n)), (3, .int (sg 1 7)), (0, .ref (ad w 1)), (1, .int (nI n)), (2, .int (nI 0))]) [0, 1, 2, 3, 4, 5] rfl ?_
  exact lp (6 + 1) 0  (by omega) (by omega) trivial
set_option maxRecDepth 100000 in
set_option maxHeartbeats 400000 in
theorem c_X3_multiply_1 (w : GW) (tu : Int64) (sg : Sg) (n : Nat) (hn : n ≤ 999999) (hok : ROk (rowC sg 1)) : Kt w yX3_multiply cX3_multiply 9 (some .int) 3 [.ref (ad w 1), .int (nI n), .int (nI 1)] sg tu (some (.int (nI (smP 1 n 7)))) (wrR sg 1 (muR 1 n (gN (rowC sg 1)) 7 (clR (rowC sg 1)))) tu := by
  refine Kt.of2 RX3 rfl [(0, .ref (ad w 1)), (1, .int (nI n)), (2, .int (nI 1))] (by decide) rfl (Nat.le_of_ble_eq_true rfl) (fun z C E => ?_)
  refine g_iload_n C 1 rfl rfl dX3_multiply_0 ?_
  refine g_iload_n C 2 rfl rfl dX3_multiply_1 ?_
  refine g_callN1 [] C (c_X4_canMultiply_1 w tu sg n hn) mt_X4_canMultiply nl_X3_85 st_X4_canMultiply (by decide) rfl (Nat.le_of_ble_eq_true rfl) dX3_multiply_2 ?_
  refine g_eq (L' := [(0, .ref (ad w 1)), (1, .int (nI n)), (2, .int (nI 1))]) (S' := [.int (nI 1)]) rfl rfl rfl rfl ?_
  refine g_if_ne C (tgt := 11) (by decide) dX3_multiply_5 (fun h5 => ?_) (fun h5 => absurd h5 (by decide))
  refine g_aload_n C 0 rfl rfl dX3_multiply_11 ?_
  refine g_getI C (j := 7) cls3 e_1 rfl (by decide) fl_X3_34 dX3_multiply_12 ?_
  refine g_istore_n C (L' := [(3, .int (sg 1 7)), (0, .ref (ad w 1)), (1, .int (nI n)), (2, .int (nI 1))]) rfl (by decide) rfl dX3_multiply_15 ?_
  refine g_aload_n C 1 rfl rfl dX3_multiply_16 ?_
  refine g_callV1 [] C (c_X3_clearAll w tu sg  ) mt_X3_clearAll e_1 rfl ml_X3_88 im_X3_clearAll se_X3_clearAll (by decide) rfl (Nat.le_of_ble_eq_true rfl) dX3_multiply_17 ?_
  refine g_eq (sg' := (wrR sg 1 (clR (rowC sg 1)))) (L' := [(3, .int (sg 1 7)), (0, .ref (ad w 1)), (1, .int (nI n)), (2, .int (nI 1))]) (S' := [.int (czX (sg 4) (fun k => nI (0 / 10 ^ k % 10)) 0 12)]) rfl rfl rfl rfl ?_
  refine g_pop C rfl dX3_multiply_20 ?_
  refine g_iload_n C 2 rfl rfl dX3_multiply_21 ?_
  refine g_istore C (L' := [(4, .int (nI n)), (3, .int (sg 1 7)), (0, .ref (ad w 1)), (1, .int (nI n)), (2, .int (nI 1))]) (by decide) rfl dX3_multiply_22 ?_
  refine g_iconst C (v := (nI 0)) (by decide) dX3_multiply_24 ?_
  refine g_istore C (L' := [(5, .int (nI 0)), (4, .int (nI n)), (3, .int (sg 1 7)), (0, .ref (ad w 1)), (1, .int (nI n)), (2, .int (nI 1))]) (by decide) rfl dX3_multiply_25 ?_
  have lp : ∀ (nf i : Nat), 7 < i + nf → i ≤ 7 → (True) → G z w 9 (wrR sg 1 (muR 1 n (gN (rowC sg 1)) i (clR (rowC sg 1)))) tu 27 [(5, .int (nI i)), (4, .int (nI (mkP 1 n i))), (3, .int (sg 1 7)), (0, .ref (ad w 1)), (1, .int (nI n)), (2, .int (nI 1))] [] := by
    intro nf
    induction nf with
    | zero => intro i  h1 h2 hI; exact absurd h1 (by omega)
    | succ nf ihlp =>
      intro i  h1 h2 hI
      have hmk := mkP_le (how := 1) hn i
      refine g_iload C 0 rfl dX3_multiply_27 ?_
      refine g_iload_n C 5 rfl rfl dX3_multiply_29 ?_
      refine g_callN1 [.int (nI i)] C (c_X4_figuresToMultiply_1 w tu (wrR sg 1 (muR 1 n (gN (rowC sg 1)) i (clR (rowC sg 1))))  ) mt_X4_figuresToMultiply nl_X3_92 st_X4_figuresToMultiply (by decide) rfl (Nat.le_of_ble_eq_true rfl) dX3_multiply_30 ?_
      refine g_eq (L' := [(5, .int (nI i)), (4, .int (nI (mkP 1 n i))), (3, .int (sg 1 7)), (0, .ref (ad w 1)), (1, .int (nI n)), (2, .int (nI 1))]) (S' := [.int (nI 7), .int (nI i)]) rfl rfl rfl rfl ?_
      refine g_icmpN_ge C i 7 (by omega) (by omega) (tgt := 105) (by decide) dX3_multiply_33 (fun h33 => ?_) (fun h33 => ?_)
      ·
        have hiN : 7 = i := by omega
        subst hiN
        refine g_aload_n C 3 rfl rfl dX3_multiply_105 ?_
        refine g_getI C (j := 7) cls3 e_1 rfl (by decide) fl_X3_34 dX3_multiply_106 ?_
        refine g_iload_n C 2 rfl rfl dX3_multiply_109 ?_
        refine g_isub C dX3_multiply_110 ?_
        exact g_iret C E dX3_multiply_111 (mu_end 7) Sq.rf rfl
      ·
        refine g_aload_n C 3 rfl rfl dX3_multiply_36 ?_
        refine g_iload C 0 rfl dX3_multiply_37 ?_
        refine g_putI C (j := 4) cls3 e_1 rfl (by decide) rfl rfl fl_X3_24 dX3_multiply_39 ?_
        refine g_sgE (sg' := (us (wrR sg 1 (muR 1 n (gN (rowC sg 1)) i (clR (rowC sg 1)))) 1 (upd ((wrR sg 1 (muR 1 n (gN (rowC sg 1)) i (clR (rowC sg 1)))) 1) 4 (nI i)))) rfl ?_
        refine g_sq (sg' := (wrR sg 1 (upd (muR 1 n (gN (rowC sg 1)) i (clR (rowC sg 1))) 31 (nI i)))) sh_w ?_
        have hF0 : ROk (upd (muR 1 n (gN (rowC sg 1)) i (clR (rowC sg 1))) 31 (nI i)) := sh_ok (muR_ok (clR_ok hok) (fun _ h => (gN_ok hok h).2) i (by omega)) (by omega)
        have hl0 : ∀ j, j < 12 → (upd (muR 1 n (gN (rowC sg 1)) i (clR (rowC sg 1))) 31 (nI i)) j = rowC sg 1 j := fun j hj => (upd_ne (by omega)).trans ((muR_lo hj i).trans (clR_lo (by omega)))
        have hmd : mkP 1 n i % 10 < 10 := Nat.mod_lt _ (by omega)
        refine g_iload C 1 rfl dX3_multiply_42 ?_
        refine g_iload_n C 5 rfl rfl dX3_multiply_44 ?_
        refine g_callN1 [] C (c_X4_turnsForFigure_1 w tu (wrR sg 1 (upd (muR 1 n (gN (rowC sg 1)) i (clR (rowC sg 1))) 31 (nI i))) (mkP 1 n i) hmk) mt_X4_turnsForFigure nl_X3_95 st_X4_turnsForFigure (by decide) rfl (Nat.le_of_ble_eq_true rfl) dX3_multiply_45 ?_
        refine g_eq (L' := [(5, .int (nI i)), (4, .int (nI (mkP 1 n i))), (3, .int (sg 1 7)), (0, .ref (ad w 1)), (1, .int (nI n)), (2, .int (nI 1))]) (S' := [.int (pI 1 (mkP 1 n i))]) rfl rfl rfl rfl ?_
        refine g_istore C (L' := [(6, .int (pI 1 (mkP 1 n i))), (5, .int (nI i)), (4, .int (nI (mkP 1 n i))), (3, .int (sg 1 7)), (0, .ref (ad w 1)), (1, .int (nI n)), (2, .int (nI 1))]) (by decide) rfl dX3_multiply_48 ?_
        refine g_iload C 2 rfl dX3_multiply_50 ?_
        refine g_iload C 0 rfl dX3_multiply_52 ?_
        refine g_callN1 [] C (c_X4_leftBehindFigure_1 w tu (wrR sg 1 (upd (muR 1 n (gN (rowC sg 1)) i (clR (rowC sg 1))) 31 (nI i))) (mkP 1 n i) (pI 1 (mkP 1 n i)) hmk rfl) mt_X4_leftBehindFigure nl_X3_99 st_X4_leftBehindFigure (by decide) rfl (Nat.le_of_ble_eq_true rfl) dX3_multiply_54 ?_
        refine g_eq (L' := [(6, .int (pI 1 (mkP 1 n i))), (5, .int (nI i)), (4, .int (nI (mkP 1 n i))), (3, .int (sg 1 7)), (0, .ref (ad w 1)), (1, .int (nI n)), (2, .int (nI 1))]) (S' := [.int (nI (nxP 1 (mkP 1 n i)))]) rfl rfl rfl rfl ?_
        refine g_istore C (L' := [(4, .int (nI (nxP 1 (mkP 1 n i)))), (6, .int (pI 1 (mkP 1 n i))), (5, .int (nI i)), (3, .int (sg 1 7)), (0, .ref (ad w 1)), (1, .int (nI n)), (2, .int (nI 1))]) (by decide) rfl dX3_multiply_57 ?_
        by_cases hov : 1 = 1 ∧ 5 < mkP 1 n i % 10
        ·
          have hpn := pI_neg hov
          refine g_iload C 1 rfl dX3_multiply_59 ?_
          refine g_if_ge C (tgt := 68) (by decide) dX3_multiply_61 (fun h61 => absurd hpn.1 (Int32.not_lt.mpr h61)) (fun h61 => ?_)
          refine g_iconst C (v := (-1)) (by decide) dX3_multiply_64 ?_
          refine g_goto C (tgt := 69) (by decide) dX3_multiply_65 ?_
          refine g_istore C (L' := [(7, .int (-1)), (4, .int (nI (nxP 1 (mkP 1 n i)))), (6, .int (pI 1 (mkP 1 n i))), (5, .int (nI i)), (3, .int (sg 1 7)), (0, .ref (ad w 1)), (1, .int (nI n)), (2, .int (nI 1))]) (by decide) rfl dX3_multiply_69 ?_
          refine g_iconst C (v := (nI 0)) (by decide) dX3_multiply_71 ?_
          refine g_istore C (L' := [(8, .int (nI 0)), (7, .int (-1)), (4, .int (nI (nxP 1 (mkP 1 n i)))), (6, .int (pI 1 (mkP 1 n i))), (5, .int (nI i)), (3, .int (sg 1 7)), (0, .ref (ad w 1)), (1, .int (nI n)), (2, .int (nI 1))]) (by decide) rfl dX3_multiply_72 ?_
          have lq : ∀ (nf q : Nat), (10 - mkP 1 n i % 10) < q + nf → q ≤ (10 - mkP 1 n i % 10) → (True) → G z w 9 (wrR sg 1 (itR false (-1) (gN (rowC sg 1)) q (upd (muR 1 n (gN (rowC sg 1)) i (clR (rowC sg 1))) 31 (nI i)))) tu 74 [(8, .int (nI q)), (7, .int (-1)), (4, .int (nI (nxP 1 (mkP 1 n i)))), (6, .int (pI 1 (mkP 1 n i))), (5, .int (nI i)), (3, .int (sg 1 7)), (0, .ref (ad w 1)), (1, .int (nI n)), (2, .int (nI 1))] [] := by
            intro nf
            induction nf with
            | zero => intro q  h1 h2 hI; exact absurd h1 (by omega)
            | succ nf ihlq =>
              intro q  h1 h2 hI
              refine g_iload C 0 rfl dX3_multiply_74 ?_
              refine g_iload C 3 rfl dX3_multiply_76 ?_
              refine g_mabs C ml_X3_102 st_Lib_Math_abs_name ini_J9 co_math_abs (by decide) (Nat.le_of_ble_eq_true rfl) dX3_multiply_78 ?_
              refine g_top (y := (nI (10 - mkP 1 n i % 10))) hpn.2 ?_
              refine g_icmpN_ge C q (10 - mkP 1 n i % 10) (by omega) (by omega) (tgt := 99) (by decide) dX3_multiply_81 (fun h81 => ?_) (fun h81 => ?_)
              ·
                have hiN : (10 - mkP 1 n i % 10) = q := by omega
                subst hiN
                refine g_iinc C (n := 1) (v := (nI (i + 1))) (L' := [(5, .int (nI (i + 1))), (8, .int (nI (10 - mkP 1 n i % 10))), (7, .int (-1)), (4, .int (nI (nxP 1 (mkP 1 n i)))), (6, .int (pI 1 (mkP 1 n i))), (3, .int (sg 1 7)), (0, .ref (ad w 1)), (1, .int (nI n)), (2, .int (nI 1))]) 4 rfl (nI_add i 1) (by decide) rfl dX3_multiply_99 ?_
                refine g_goto C (tgt := 27) (by decide) dX3_multiply_102 ?_
                refine g_sub (L' := [(5, .int (nI (i + 1))), (4, .int (nI (nxP 1 (mkP 1 n i)))), (3, .int (sg 1 7)), (0, .ref (ad w 1)), (1, .int (nI n)), (2, .int (nI 1))]) [0, 3, 5, 6, 7, 8] rfl ?_
                refine g_eq (L' := [(5, .int (nI (i + 1))), (4, .int (nI (mkP 1 n (i + 1)))), (3, .int (sg 1 7)), (0, .ref (ad w 1)), (1, .int (nI n)), (2, .int (nI 1))]) rfl rfl rfl rfl ?_
                refine g_sgE (sg' := (wrR sg 1 (muR 1 n (gN (rowC sg 1)) (i + 1) (clR (rowC sg 1))))) (congrArg (wrR sg 1) (muR_ov hov).symm) ?_
                exact ihlp (i + 1)  (by omega) (by omega) trivial
              ·
                refine g_aload_n C 6 rfl rfl dX3_multiply_84 ?_
                refine g_iload C 1 rfl dX3_multiply_85 ?_
                refine g_iload C 1 rfl dX3_multiply_87 ?_
                refine g_callV1 [] C (c_X3_turnOnce_dn w tu (wrR sg 1 (itR false (-1) (gN (rowC sg 1)) q (upd (muR 1 n (gN (rowC sg 1)) i (clR (rowC sg 1))) 31 (nI i)))) (-1) (by rw [rowC_wr]; exact itR_ok hF0 (fun _ h => (gN_ok hok h).2) q)) mt_X3_turnOnce e_1 rfl ml_X3_81 im_X3_turnOnce se_X3_turnOnce (by decide) rfl (Nat.le_of_ble_eq_true rfl) dX3_multiply_89 ?_
                refine g_eq (sg' := (wrR (wrR sg 1 (itR false (-1) (gN (rowC sg 1)) q (upd (muR 1 n (gN (rowC sg 1)) i (clR (rowC sg 1))) 31 (nI i)))) 1 (tR false (-1) (gN (rowC (wrR sg 1 (itR false (-1) (gN (rowC sg 1)) q (upd (muR 1 n (gN (rowC sg 1)) i (clR (rowC sg 1))) 31 (nI i)))) 1)) (rowC (wrR sg 1 (itR false (-1) (gN (rowC sg 1)) q (upd (muR 1 n (gN (rowC sg 1)) i (clR (rowC sg 1))) 31 (nI i)))) 1)))) (L' := [(8, .int (nI q)), (7, .int (-1)), (4, .int (nI (nxP 1 (mkP 1 n i)))), (6, .int (pI 1 (mkP 1 n i))), (5, .int (nI i)), (3, .int (sg 1 7)), (0, .ref (ad w 1)), (1, .int (nI n)), (2, .int (nI 1))]) (S' := [.int (bI (blP false (wN (rowC (wrR sg 1 (itR false (-1) (gN (rowC sg 1)) q (upd (muR 1 n (gN (rowC sg 1)) i (clR (rowC sg 1))) 31 (nI i)))) 1)) (gN (rowC (wrR sg 1 (itR false (-1) (gN (rowC sg 1)) q (upd (muR 1 n (gN (rowC sg 1)) i (clR (rowC sg 1))) 31 (nI i)))) 1)) (sN (rowC (wrR sg 1 (itR false (-1) (gN (rowC sg 1)) q (upd (muR 1 n (gN (rowC sg 1)) i (clR (rowC sg 1))) 31 (nI i)))) 1)) (sN (rowC (wrR sg 1 (itR false (-1) (gN (rowC sg 1)) q (upd (muR 1 n (gN (rowC sg 1)) i (clR (rowC sg 1))) 31 (nI i)))) 1) + 5 + reN (rowC (wrR sg 1 (itR false (-1) (gN (rowC sg 1)) q (upd (muR 1 n (gN (rowC sg 1)) i (clR (rowC sg 1))) 31 (nI i)))) 1))))]) rfl rfl rfl rfl ?_
                refine g_pop C rfl dX3_multiply_92 ?_
                refine g_iinc C (n := 1) (v := (nI (q + 1))) (L' := [(8, .int (nI (q + 1))), (7, .int (-1)), (4, .int (nI (nxP 1 (mkP 1 n i)))), (6, .int (pI 1 (mkP 1 n i))), (5, .int (nI i)), (3, .int (sg 1 7)), (0, .ref (ad w 1)), (1, .int (nI n)), (2, .int (nI 1))]) 0 rfl (nI_add q 1) (by decide) rfl dX3_multiply_93 ?_
                refine g_goto C (tgt := 74) (by decide) dX3_multiply_96 ?_
                refine g_sub (L' := [(8, .int (nI (q + 1))), (7, .int (-1)), (4, .int (nI (nxP 1 (mkP 1 n i)))), (6, .int (pI 1 (mkP 1 n i))), (5, .int (nI i)), (3, .int (sg 1 7)), (0, .ref (ad w 1)), (1, .int (nI n)), (2, .int (nI 1))]) [0, 1, 2, 3, 4, 5, 6, 7, 8] rfl ?_
                refine g_sgE (sg' := (wrR sg 1 (itR false (-1) (gN (rowC sg 1)) (q + 1) (upd (muR 1 n (gN (rowC sg 1)) i (clR (rowC sg 1))) 31 (nI i))))) (tn_1 (fun d hd => gN_lo (fun j hj => (itR_lo hj q).trans (hl0 j hj)) hd)) ?_
                exact ihlq (q + 1)  (by omega) (by omega) trivial
          refine g_sgE (sg' := (wrR sg 1 (itR false (-1) (gN (rowC sg 1)) 0 (upd (muR 1 n (gN (rowC sg 1)) i (clR (rowC sg 1))) 31 (nI i))))) rfl ?_
          exact lq ((10 - mkP 1 n i % 10) + 1) 0  (by omega) (by omega) trivial
        ·
          refine g_eq (L' := [(4, .int (nI (nxP 1 (mkP 1 n i)))), (6, .int (nI (mkP 1 n i % 10))), (5, .int (nI i)), (3, .int (sg 1 7)), (0, .ref (ad w 1)), (1, .int (nI n)), (2, .int (nI 1))]) rfl rfl (by rw [show pI 1 (mkP 1 n i) = nI (mkP 1 n i % 10) from if_neg hov]) rfl ?_
          refine g_iload C 1 rfl dX3_multiply_59 ?_
          refine g_if_ge C (tgt := 68) (by decide) dX3_multiply_61 (fun h61 => ?_) (fun h61 => absurd (nI_pos' (by omega)) h61)
          refine g_iconst C (v := (nI 1)) (by decide) dX3_multiply_68 ?_
          refine g_istore C (L' := [(7, .int (nI 1)), (4, .int (nI (nxP 1 (mkP 1 n i)))), (6, .int (nI (mkP 1 n i % 10))), (5, .int (nI i)), (3, .int (sg 1 7)), (0, .ref (ad w 1)), (1, .int (nI n)), (2, .int (nI 1))]) (by decide) rfl dX3_multiply_69 ?_
          refine g_iconst C (v := (nI 0)) (by decide) dX3_multiply_71 ?_
          refine g_istore C (L' := [(8, .int (nI 0)), (7, .int (nI 1)), (4, .int (nI (nxP 1 (mkP 1 n i)))), (6, .int (nI (mkP 1 n i % 10))), (5, .int (nI i)), (3, .int (sg 1 7)), (0, .ref (ad w 1)), (1, .int (nI n)), (2, .int (nI 1))]) (by decide) rfl dX3_multiply_72 ?_
          have lq : ∀ (nf q : Nat), (mkP 1 n i % 10) < q + nf → q ≤ (mkP 1 n i % 10) → (True) → G z w 9 (wrR sg 1 (itR true (nI 1) (gN (rowC sg 1)) q (upd (muR 1 n (gN (rowC sg 1)) i (clR (rowC sg 1))) 31 (nI i)))) tu 74 [(8, .int (nI q)), (7, .int (nI 1)), (4, .int (nI (nxP 1 (mkP 1 n i)))), (6, .int (nI (mkP 1 n i % 10))), (5, .int (nI i)), (3, .int (sg 1 7)), (0, .ref (ad w 1)), (1, .int (nI n)), (2, .int (nI 1))] [] := by
            intro nf
            induction nf with
            | zero => intro q  h1 h2 hI; exact absurd h1 (by omega)
            | succ nf ihlq =>
              intro q  h1 h2 hI
              refine g_iload C 0 rfl dX3_multiply_74 ?_
              refine g_iload C 3 rfl dX3_multiply_76 ?_
              refine g_mabs C ml_X3_102 st_Lib_Math_abs_name ini_J9 co_math_abs (by decide) (Nat.le_of_ble_eq_true rfl) dX3_multiply_78 ?_
              refine g_top (y := (nI (mkP 1 n i % 10))) (abs_d _ hmd) ?_
              refine g_icmpN_ge C q (mkP 1 n i % 10) (by omega) (by omega) (tgt := 99) (by decide) dX3_multiply_81 (fun h81 => ?_) (fun h81 => ?_)
              ·
                have hiN : (mkP 1 n i % 10) = q := by omega
                subst hiN
                refine g_iinc C (n := 1) (v := (nI (i + 1))) (L' := [(5, .int (nI (i + 1))), (8, .int (nI (mkP 1 n i % 10))), (7, .int (nI 1)), (4, .int (nI (nxP 1 (mkP 1 n i)))), (6, .int (nI (mkP 1 n i % 10))), (3, .int (sg 1 7)), (0, .ref (ad w 1)), (1, .int (nI n)), (2, .int (nI 1))]) 4 rfl (nI_add i 1) (by decide) rfl dX3_multiply_99 ?_
                refine g_goto C (tgt := 27) (by decide) dX3_multiply_102 ?_
                refine g_sub (L' := [(5, .int (nI (i + 1))), (4, .int (nI (nxP 1 (mkP 1 n i)))), (3, .int (sg 1 7)), (0, .ref (ad w 1)), (1, .int (nI n)), (2, .int (nI 1))]) [0, 3, 5, 6, 7, 8] rfl ?_
                refine g_eq (L' := [(5, .int (nI (i + 1))), (4, .int (nI (mkP 1 n (i + 1)))), (3, .int (sg 1 7)), (0, .ref (ad w 1)), (1, .int (nI n)), (2, .int (nI 1))]) rfl rfl rfl rfl ?_
                refine g_sgE (sg' := (wrR sg 1 (muR 1 n (gN (rowC sg 1)) (i + 1) (clR (rowC sg 1))))) (congrArg (wrR sg 1) (muR_no hov).symm) ?_
                exact ihlp (i + 1)  (by omega) (by omega) trivial
              ·
                refine g_aload_n C 6 rfl rfl dX3_multiply_84 ?_
                refine g_iload C 1 rfl dX3_multiply_85 ?_
                refine g_iload C 1 rfl dX3_multiply_87 ?_
                refine g_callV1 [] C (c_X3_turnOnce_up w tu (wrR sg 1 (itR true (nI 1) (gN (rowC sg 1)) q (upd (muR 1 n (gN (rowC sg 1)) i (clR (rowC sg 1))) 31 (nI i)))) (nI 1) (by rw [rowC_wr]; exact itR_ok hF0 (fun _ h => (gN_ok hok h).2) q)) mt_X3_turnOnce e_1 rfl ml_X3_81 im_X3_turnOnce se_X3_turnOnce (by decide) rfl (Nat.le_of_ble_eq_true rfl) dX3_multiply_89 ?_
                refine g_eq (sg' := (wrR (wrR sg 1 (itR true (nI 1) (gN (rowC sg 1)) q (upd (muR 1 n (gN (rowC sg 1)) i (clR (rowC sg 1))) 31 (nI i)))) 1 (tR true (nI 1) (gN (rowC (wrR sg 1 (itR true (nI 1) (gN (rowC sg 1)) q (upd (muR 1 n (gN (rowC sg 1)) i (clR (rowC sg 1))) 31 (nI i)))) 1)) (rowC (wrR sg 1 (itR true (nI 1) (gN (rowC sg 1)) q (upd (muR 1 n (gN (rowC sg 1)) i (clR (rowC sg 1))) 31 (nI i)))) 1)))) (L' := [(8, .int (nI q)), (7, .int (nI 1)), (4, .int (nI (nxP 1 (mkP 1 n i)))), (6, .int (nI (mkP 1 n i % 10))), (5, .int (nI i)), (3, .int (sg 1 7)), (0, .ref (ad w 1)), (1, .int (nI n)), (2, .int (nI 1))]) (S' := [.int (bI (blP true (wN (rowC (wrR sg 1 (itR true (nI 1) (gN (rowC sg 1)) q (upd (muR 1 n (gN (rowC sg 1)) i (clR (rowC sg 1))) 31 (nI i)))) 1)) (gN (rowC (wrR sg 1 (itR true (nI 1) (gN (rowC sg 1)) q (upd (muR 1 n (gN (rowC sg 1)) i (clR (rowC sg 1))) 31 (nI i)))) 1)) (sN (rowC (wrR sg 1 (itR true (nI 1) (gN (rowC sg 1)) q (upd (muR 1 n (gN (rowC sg 1)) i (clR (rowC sg 1))) 31 (nI i)))) 1)) (sN (rowC (wrR sg 1 (itR true (nI 1) (gN (rowC sg 1)) q (upd (muR 1 n (gN (rowC sg 1)) i (clR (rowC sg 1))) 31 (nI i)))) 1) + 5 + reN (rowC (wrR sg 1 (itR true (nI 1) (gN (rowC sg 1)) q (upd (muR 1 n (gN (rowC sg 1)) i (clR (rowC sg 1))) 31 (nI i)))) 1))))]) rfl rfl rfl rfl ?_
                refine g_pop C rfl dX3_multiply_92 ?_
                refine g_iinc C (n := 1) (v := (nI (q + 1))) (L' := [(8, .int (nI (q + 1))), (7, .int (nI 1)), (4, .int (nI (nxP 1 (mkP 1 n i)))), (6, .int (nI (mkP 1 n i % 10))), (5, .int (nI i)), (3, .int (sg 1 7)), (0, .ref (ad w 1)), (1, .int (nI n)), (2, .int (nI 1))]) 0 rfl (nI_add q 1) (by decide) rfl dX3_multiply_93 ?_
                refine g_goto C (tgt := 74) (by decide) dX3_multiply_96 ?_
                refine g_sub (L' := [(8, .int (nI (q + 1))), (7, .int (nI 1)), (4, .int (nI (nxP 1 (mkP 1 n i)))), (6, .int (nI (mkP 1 n i % 10))), (5, .int (nI i)), (3, .int (sg 1 7)), (0, .ref (ad w 1)), (1, .int (nI n)), (2, .int (nI 1))]) [0, 1, 2, 3, 4, 5, 6, 7, 8] rfl ?_
                refine g_sgE (sg' := (wrR sg 1 (itR true (nI 1) (gN (rowC sg 1)) (q + 1) (upd (muR 1 n (gN (rowC sg 1)) i (clR (rowC sg 1))) 31 (nI i))))) (tn_1 (fun d hd => gN_lo (fun j hj => (itR_lo hj q).trans (hl0 j hj)) hd)) ?_
                exact ihlq (q + 1)  (by omega) (by omega) trivial
          refine g_sgE (sg' := (wrR sg 1 (itR true (nI 1) (gN (rowC sg 1)) 0 (upd (muR 1 n (gN (rowC sg 1)) i (clR (rowC sg 1))) 31 (nI i))))) rfl ?_
          exact lq ((mkP 1 n i % 10) + 1) 0  (by omega) (by omega) trivial
  refine g_sgE (sg' := (wrR sg 1 (muR 1 n (gN (rowC sg 1)) 0 (clR (rowC sg 1))))) rfl ?_
  refine g_sub (L' := [(5, .int (nI 0)), (4, .int (nI n)), (3, .int (sg 1 7)), (0, .ref (ad w 1)), (1, .int (nI n)), (2, .int (nI 1))]) [0, 1, 2, 3, 4, 5] rfl ?_
  exact lp (7 + 1) 0  (by omega) (by omega) trivial
set_option maxRecDepth 100000 in
set_option maxHeartbeats 400000 in
theorem c_X3_multiply_bad (w : GW) (tu : Int64) (sg : Sg) (x : Int32) (v : Int32) (h : ¬ ((0 ≤ Int32.toInt64 x ∧ Int32.toInt64 x ≤ 999999) ∧ (0 ≤ Int32.toInt64 v ∧ Int32.toInt64 v ≤ 1))) : Kt w yX3_multiply cX3_multiply 9 (some .int) 2 [.ref (ad w 1), .int x, .int v] sg tu (some (.int (-2))) sg tu := by
  refine Kt.of2 RX3 rfl [(0, .ref (ad w 1)), (1, .int x), (2, .int v)] (by decide) rfl (Nat.le_of_ble_eq_true rfl) (fun z C E => ?_)
  refine g_iload_n C 1 rfl rfl dX3_multiply_0 ?_
  refine g_iload_n C 2 rfl rfl dX3_multiply_1 ?_
  refine g_callN1 [] C (c_X4_canMultiply_bad w tu sg x v h) mt_X4_canMultiply nl_X3_85 st_X4_canMultiply (by decide) rfl (Nat.le_of_ble_eq_true rfl) dX3_multiply_2 ?_
  refine g_eq (L' := [(0, .ref (ad w 1)), (1, .int x), (2, .int v)]) (S' := [.int (nI 0)]) rfl rfl rfl rfl ?_
  refine g_if_ne C (tgt := 11) (by decide) dX3_multiply_5 (fun h5 => absurd h5 (by decide)) (fun h5 => ?_)
  refine g_bipush C (v := (-2)) (by decide) dX3_multiply_8 ?_
  exact g_iret C E dX3_multiply_10 rfl Sq.rf rfl
