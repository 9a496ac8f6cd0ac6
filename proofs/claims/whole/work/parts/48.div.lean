theorem sh_w {sg : Sg} {f : Nat → Int32} {x : Int32} : Sq (us (wrR sg 1 f) 1 (upd (wrR sg 1 f 1) 4 x)) (wrR sg 1 (upd f 31 x)) := by
  have h := wr_fld (sg := wrR sg 1 f) (q := 4) (x := x) (by omega) (by omega)
  rw [wrR_wrR, rowC_wr] at h
  exact h
theorem cc_w {sg : Sg} {c : Nat → Int32} (hc : ∀ j, j < 7 → c j = nI 0) : Sq (us sg 5 c) (wrR sg 1 (ccR (rowC sg 1))) :=
  Sq.wr isW_1 (fldF (sg := sg) (fun j h1 h2 => ccR_out (by omega))) (fun j hj => ((ccR_out (by omega)).trans (rowC_d (sg := sg) (w := 1) hj)).symm) (fun j hj => ((ccR_out (by omega)).trans (rowC_o (sg := sg) (w := 1) hj)).symm) (fun j hj => ((ccR_out (by omega)).trans (rowC_w (sg := sg) (w := 1) hj)).symm) (fun j hj => by unfold ccR; rw [fw_in (by omega)]; exact hc j hj) (fun k hk => us_ne (by omega))
set_option maxRecDepth 100000 in
set_option maxHeartbeats 400000 in
theorem c_X3_turnDownTillBell (w : GW) (tu : Int64) (sg : Sg) (g : Nat → Nat) (hok : ROk (rowC sg 1)) (hgg : ∀ d, d < 6 → gN (rowC sg 1) d = g d) : Kt w yX3_turnDownTillBell cX3_turnDownTillBell 2 (some .boolean) 3 [.ref (ad w 1)] sg tu (some (.int (bI (dwB g 20 (rowC sg 1) = true)))) (wrR sg 1 (dwn g 20 (rowC sg 1))) tu := by
  refine Kt.of2 RX3 rfl [(0, .ref (ad w 1))] (by decide) rfl (Nat.le_of_ble_eq_true rfl) (fun z C E => ?_)
  refine g_iconst C (v := (nI 0)) (by decide) dX3_turnDownTillBell_0 ?_
  refine g_istore_n C (L' := [(1, .int (nI 0)), (0, .ref (ad w 1))]) rfl (by decide) rfl dX3_turnDownTillBell_1 ?_
  refine g_sq (sg' := wrR sg 1 (rowC sg 1)) wr_id ?_
  have hg9 : ∀ i, i < 6 → g i ≤ 9 := fun i hi => (hgg i hi) ▸ (gN_ok hok hi).2
  have lp : ∀ (r k : Nat) (f : Nat → Int32), k + r = 20 → ROk f → (∀ j, j < 12 → f j = rowC sg 1 j) → dwn g r f = dwn g 20 (rowC sg 1) → dwB g r f = dwB g 20 (rowC sg 1) → G z w 2 (wrR sg 1 f) tu 2 [(1, .int (nI k)), (0, .ref (ad w 1))] [] := by
    intro r
    induction r with
    | zero =>
      intro k f hk hf hl hd hb
      have hk20 : k = 20 := by omega
      subst hk20
      refine g_iload_n C 0 rfl rfl dX3_turnDownTillBell_2 ?_
      refine g_bipush C (v := (nI 20)) (by decide) dX3_turnDownTillBell_3 ?_
      refine g_icmpN_ge C 20 20 (by omega) (by omega) (tgt := 25) (by decide) dX3_turnDownTillBell_5 (fun h5 => ?_) (fun h5 => absurd h5 (by decide))
      refine g_iconst C (v := (nI 0)) (by decide) dX3_turnDownTillBell_25 ?_
      exact g_zret C E dX3_turnDownTillBell_26 (by decide +kernel) (bI_f (fun q => by rw [← hb] at q; cases q)).symm (Sq.of (by rw [← hd]; rfl)) rfl
    | succ r ih =>
      intro k f hk hf hl hd hb
      have hgf : ∀ d, d < 6 → gN f d = g d := fun d hd => (gN_lo hl hd).trans (hgg d hd)
      refine g_iload_n C 0 rfl rfl dX3_turnDownTillBell_2 ?_
      refine g_bipush C (v := (nI 20)) (by decide) dX3_turnDownTillBell_3 ?_
      refine g_icmpN_ge C k 20 (by omega) (by omega) (tgt := 25) (by decide) dX3_turnDownTillBell_5 (fun h5 => absurd h5 (by omega)) (fun h5 => ?_)
      refine g_aload_n C 1 rfl rfl dX3_turnDownTillBell_8 ?_
      refine g_iconst C (v := (-1)) (by decide) dX3_turnDownTillBell_9 ?_
      refine g_iconst C (v := (nI 1)) (by decide) dX3_turnDownTillBell_10 ?_
      refine g_callV1 [] C (c_X3_turnOnce_dn w tu (wrR sg 1 f) (nI 1) (by rw [rowC_wr]; exact hf)) mt_X3_turnOnce e_1 rfl ml_X3_81 im_X3_turnOnce se_X3_turnOnce (by decide) rfl (Nat.le_of_ble_eq_true rfl) dX3_turnDownTillBell_11 ?_
      refine g_eq (sg' := (wrR (wrR sg 1 f) 1 (tR false (nI 1) (gN (rowC (wrR sg 1 f) 1)) (rowC (wrR sg 1 f) 1)))) (L' := [(1, .int (nI k)), (0, .ref (ad w 1))]) (S' := [.int (bI (blP false (wN (rowC (wrR sg 1 f) 1)) (gN (rowC (wrR sg 1 f) 1)) (sN (rowC (wrR sg 1 f) 1)) (sN (rowC (wrR sg 1 f) 1) + 5 + reN (rowC (wrR sg 1 f) 1))))]) rfl rfl rfl rfl ?_
      refine g_bif_eq C (tgt := 19) (by decide) dX3_turnDownTillBell_14 (fun h14 => ?_) (fun h14 => ?_)
      ·
        have hbl := fun q => h14 ((tb_1 (sg := sg) hgf).mpr q)
        refine g_iinc C (n := 1) (v := (nI (k + 1))) (L' := [(1, .int (nI (k + 1))), (0, .ref (ad w 1))]) 0 rfl (nI_add k 1) (by decide) rfl dX3_turnDownTillBell_19 ?_
        refine g_goto C (tgt := 2) (by decide) dX3_turnDownTillBell_22 ?_
        refine g_sub (L' := [(1, .int (nI (k + 1))), (0, .ref (ad w 1))]) [0, 1] rfl ?_
        refine g_sgE (sg' := (wrR sg 1 (tR false (nI 1) g f))) (tn_1 hgf) ?_
        exact ih (k + 1) _ (by omega) (tR_ok hf hg9) (fun j hj => (tR_lo hj).trans (hl j hj)) (by rw [← hd, dwn_f hbl]) (by rw [← hb, dwB_f hbl])
      ·
        have hbl := (tb_1 (sg := sg) hgf).mp h14
        refine g_iconst C (v := (nI 1)) (by decide) dX3_turnDownTillBell_17 ?_
        exact g_zret C E dX3_turnDownTillBell_18 (by decide +kernel) (bI_t (by rw [← hb, dwB_t hbl])).symm (Sq.of ((tn_1 hgf).trans (by rw [← hd, dwn_t hbl]))) rfl
  exact lp 20 0 (rowC sg 1) rfl hok (fun _ _ => rfl) rfl rfl
set_option maxRecDepth 100000 in
set_option maxHeartbeats 400000 in
theorem c_X3_divide_z (w : GW) (tu : Int64) (sg : Sg) (hok : ROk (rowC sg 1)) (hz : ngX (gN (rowC sg 1)) 6 0 = 0) : Kt w yX3_divide cX3_divide 3 (some .int) 3 [.ref (ad w 1)] sg tu (some (.int (-3))) sg tu := by
  refine Kt.of2 RX3 rfl [(0, .ref (ad w 1))] (by decide) rfl (Nat.le_of_ble_eq_true rfl) (fun z C E => ?_)
  have hng := ngX_lt (g := gN (rowC sg 1)) 6 0 (fun k hk => (gN_ok hok (by omega)).2)
  have hng2 : ngX (gN (rowC sg 1)) 6 0 < 2 ^ 31 := Nat.lt_of_lt_of_le hng (by decide)
  refine g_aload_n C 0 rfl rfl dX3_divide_0 ?_
  refine g_callV1 [] C (c_X3_numberGiven w tu sg  hok) mt_X3_numberGiven e_1 rfl ml_X3_107 im_X3_numberGiven se_X3_numberGiven (by decide) rfl (Nat.le_of_ble_eq_true rfl) dX3_divide_1 ?_
  refine g_eq (L' := [(0, .ref (ad w 1))]) (S' := [.int (nI (ngX (gN (rowC sg 1)) 6 0))]) rfl rfl rfl rfl ?_
  refine g_ifN_ne C (ngX (gN (rowC sg 1)) 6 0) (by omega) (tgt := 10) (by decide) dX3_divide_4 (fun h4 => absurd hz h4) (fun h4 => ?_)
  refine g_bipush C (v := (-3)) (by decide) dX3_divide_7 ?_
  exact g_iret C E dX3_divide_9 rfl Sq.rf rfl
set_option maxRecDepth 100000 in
set_option maxHeartbeats 400000 in
theorem c_X3_divide_ok (w : GW) (tu : Int64) (sg : Sg) (hok : ROk (rowC sg 1)) (hz : ¬ ngX (gN (rowC sg 1)) 6 0 = 0) (hb : dvB (gN (rowC sg 1)) 7 (ccR (rowC sg 1)) = true) : Kt w yX3_divide cX3_divide 3 (some .int) 4 [.ref (ad w 1)] sg tu (some (.int (nI (dvC (gN (rowC sg 1)) 7 (ccR (rowC sg 1)))))) (wrR sg 1 (dvF (gN (rowC sg 1)) 7 (ccR (rowC sg 1)))) tu := by
  refine Kt.of2 RX3 rfl [(0, .ref (ad w 1))] (by decide) rfl (Nat.le_of_ble_eq_true rfl) (fun z C E => ?_)
  have hng := ngX_lt (g := gN (rowC sg 1)) 6 0 (fun k hk => (gN_ok hok (by omega)).2)
  have hng2 : ngX (gN (rowC sg 1)) 6 0 < 2 ^ 31 := Nat.lt_of_lt_of_le hng (by decide)
  refine g_aload_n C 0 rfl rfl dX3_divide_0 ?_
  refine g_callV1 [] C (c_X3_numberGiven w tu sg  hok) mt_X3_numberGiven e_1 rfl ml_X3_107 im_X3_numberGiven se_X3_numberGiven (by decide) rfl (Nat.le_of_ble_eq_true rfl) dX3_divide_1 ?_
  refine g_eq (L' := [(0, .ref (ad w 1))]) (S' := [.int (nI (ngX (gN (rowC sg 1)) 6 0))]) rfl rfl rfl rfl ?_
  refine g_ifN_ne C (ngX (gN (rowC sg 1)) 6 0) (by omega) (tgt := 10) (by decide) dX3_divide_4 (fun h4 => ?_) (fun h4 => absurd h4 hz)
  refine g_aload_n C 0 rfl rfl dX3_divide_10 ?_
  refine g_getI C (j := 7) cls3 e_1 rfl (by decide) fl_X3_34 dX3_divide_11 ?_
  refine g_istore_n C (L' := [(1, .int (sg 1 7)), (0, .ref (ad w 1))]) rfl (by decide) rfl dX3_divide_14 ?_
  refine g_aload_n C 1 rfl rfl dX3_divide_15 ?_
  refine g_getR C (j := 3) cls3 e_1 rfl (by decide) fl_X3_21 dX3_divide_16 ?_
  refine g_iconst C (v := (nI 0)) (by decide) dX3_divide_19 ?_
  refine g_callS0 [] C (c_J7_fill_53178 w tu sg  ) mt_J7_fill_53178 ml_X3_71 st_J7_fill_53178 (by decide) rfl (Nat.le_of_ble_eq_true rfl) dX3_divide_20 ?_
  refine g_eq (sg' := (us sg 5 (fun _ => nI 0))) (L' := [(1, .int (sg 1 7)), (0, .ref (ad w 1))]) (S' := []) rfl rfl rfl rfl ?_
  refine g_sq (sg' := wrR sg 1 (ccR (rowC sg 1))) (cc_w (fun j hj => rfl)) ?_
  refine g_bipush C (v := (nI 6)) (by decide) dX3_divide_23 ?_
  refine g_istore_n C (L' := [(2, .int (nI 6)), (1, .int (sg 1 7)), (0, .ref (ad w 1))]) rfl (by decide) rfl dX3_divide_25 ?_
  have lp : ∀ (r : Nat) (f : Nat → Int32), r ≤ 7 → ROk f → (∀ j, j < 12 → f j = rowC sg 1 j) → dvF (gN (rowC sg 1)) r f = dvF (gN (rowC sg 1)) 7 (ccR (rowC sg 1)) → dvB (gN (rowC sg 1)) r f = dvB (gN (rowC sg 1)) 7 (ccR (rowC sg 1)) → G z w 3 (wrR sg 1 f) tu 26 [(2, .int (nI r + (-1))), (1, .int (sg 1 7)), (0, .ref (ad w 1))] [] := by
    intro r
    induction r with
    | zero =>
      intro f hr hf hl hd hbb
      refine g_iload_n C 0 rfl rfl dX3_divide_26 ?_
      refine g_if_lt C (tgt := 58) (by decide) dX3_divide_27 (fun h27 => ?_) (fun h27 => absurd (by decide) h27)
      refine g_aload_n C 2 rfl rfl dX3_divide_58 ?_
      refine g_getI C (j := 7) cls3 e_1 rfl (by decide) fl_X3_34 dX3_divide_59 ?_
      refine g_iload_n C 1 rfl rfl dX3_divide_62 ?_
      refine g_isub C dX3_divide_63 ?_
      exact g_iret C E dX3_divide_64 (by show f 34 - sg 1 7 = _; rw [show f = dvF (gN (rowC sg 1)) 7 (ccR (rowC sg 1)) from hd, dvF_34 7 _ hb, ccR_out (by omega), show rowC sg 1 34 = sg 1 7 from rowC_f (sg := sg) (w := 1) (j := 7) (by omega)]; exact i_cnc _ _) (Sq.of (by rw [← hd]; rfl)) rfl
    | succ r ih =>
      intro f hr hf hl hd hbb
      refine g_eq (L' := [(2, .int (nI r)), (1, .int (sg 1 7)), (0, .ref (ad w 1))]) rfl rfl (by rw [pk_m1]) rfl ?_
      have hl1 : ∀ j, j < 12 → (upd f 31 (nI r)) j = rowC sg 1 j := fun j hj => (upd_ne (by omega)).trans (hl j hj)
      have hl2 : ∀ j, j < 12 → dwn (gN (rowC sg 1)) 20 (upd f 31 (nI r)) j = rowC sg 1 j := fun j hj => (dwn_lo hj 20 _).trans (hl1 j hj)
      refine g_iload_n C 0 rfl rfl dX3_divide_26 ?_
      refine g_if_lt C (tgt := 58) (by decide) dX3_divide_27 (fun h27 => absurd h27 (nI_pos (by omega))) (fun h27 => ?_)
      refine g_aload_n C 2 rfl rfl dX3_divide_30 ?_
      refine g_iload_n C 0 rfl rfl dX3_divide_31 ?_
      refine g_putI C (j := 4) cls3 e_1 rfl (by decide) rfl rfl fl_X3_24 dX3_divide_32 ?_
      refine g_sgE (sg' := (us (wrR sg 1 f) 1 (upd ((wrR sg 1 f) 1) 4 (nI r)))) rfl ?_
      refine g_sq (sg' := (wrR sg 1 (upd f 31 (nI r)))) sh_w ?_
      refine g_aload_n C 2 rfl rfl dX3_divide_35 ?_
      refine g_callV1 [] C (c_X3_turnDownTillBell w tu (wrR sg 1 (upd f 31 (nI r)))  (gN (rowC sg 1)) (by rw [rowC_wr]; exact sh_ok hf (by omega)) (fun d hd => by rw [rowC_wr]; exact gN_lo hl1 hd)) mt_X3_turnDownTillBell e_1 rfl ml_X3_110 im_X3_turnDownTillBell se_X3_turnDownTillBell (by decide) rfl (Nat.le_of_ble_eq_true rfl) dX3_divide_36 ?_
      refine g_eq (sg' := (wrR (wrR sg 1 (upd f 31 (nI r))) 1 (dwn (gN (rowC sg 1)) 20 (rowC (wrR sg 1 (upd f 31 (nI r))) 1)))) (L' := [(2, .int (nI r)), (1, .int (sg 1 7)), (0, .ref (ad w 1))]) (S' := [.int (bI (dwB (gN (rowC sg 1)) 20 (rowC (wrR sg 1 (upd f 31 (nI r))) 1) = true))]) rfl rfl rfl rfl ?_
      refine g_sgE (sg' := (wrR sg 1 (dwn (gN (rowC sg 1)) 20 (upd f 31 (nI r))))) (by rw [wrR_wrR, rowC_wr]) ?_
      refine g_bif_ne C (tgt := 45) (by decide) dX3_divide_39 (fun h39 => ?_) (fun h39 => ?_)
      ·
        rw [rowC_wr] at h39
        refine g_aload_n C 2 rfl rfl dX3_divide_45 ?_
        refine g_iconst C (v := (nI 1)) (by decide) dX3_divide_46 ?_
        refine g_iconst C (v := (-1)) (by decide) dX3_divide_47 ?_
        refine g_callV1 [] C (c_X3_turnOnce_up w tu (wrR sg 1 (dwn (gN (rowC sg 1)) 20 (upd f 31 (nI r)))) (-1) (by rw [rowC_wr]; exact dwn_ok (fun _ h => (gN_ok hok h).2) 20 _ (sh_ok hf (by omega)))) mt_X3_turnOnce e_1 rfl ml_X3_81 im_X3_turnOnce se_X3_turnOnce (by decide) rfl (Nat.le_of_ble_eq_true rfl) dX3_divide_48 ?_
        refine g_eq (sg' := (wrR (wrR sg 1 (dwn (gN (rowC sg 1)) 20 (upd f 31 (nI r)))) 1 (tR true (-1) (gN (rowC (wrR sg 1 (dwn (gN (rowC sg 1)) 20 (upd f 31 (nI r)))) 1)) (rowC (wrR sg 1 (dwn (gN (rowC sg 1)) 20 (upd f 31 (nI r)))) 1)))) (L' := [(2, .int (nI r)), (1, .int (sg 1 7)), (0, .ref (ad w 1))]) (S' := [.int (bI (blP true (wN (rowC (wrR sg 1 (dwn (gN (rowC sg 1)) 20 (upd f 31 (nI r)))) 1)) (gN (rowC (wrR sg 1 (dwn (gN (rowC sg 1)) 20 (upd f 31 (nI r)))) 1)) (sN (rowC (wrR sg 1 (dwn (gN (rowC sg 1)) 20 (upd f 31 (nI r)))) 1)) (sN (rowC (wrR sg 1 (dwn (gN (rowC sg 1)) 20 (upd f 31 (nI r)))) 1) + 5 + reN (rowC (wrR sg 1 (dwn (gN (rowC sg 1)) 20 (upd f 31 (nI r)))) 1))))]) rfl rfl rfl rfl ?_
        refine g_pop C rfl dX3_divide_51 ?_
        refine g_iinc C (n := -1) (v := ((nI r) + (-1))) (L' := [(2, .int ((nI r) + (-1))), (1, .int (sg 1 7)), (0, .ref (ad w 1))]) 0 rfl rfl (by decide) rfl dX3_divide_52 ?_
        refine g_goto C (tgt := 26) (by decide) dX3_divide_55 ?_
        refine g_sub (L' := [(2, .int ((nI r) + (-1))), (1, .int (sg 1 7)), (0, .ref (ad w 1))]) [0, 1, 2] rfl ?_
        refine g_sgE (sg' := (wrR sg 1 (tR true (-1) (gN (rowC sg 1)) (dwn (gN (rowC sg 1)) 20 (upd f 31 (nI r)))))) (tn_1 (fun d hd => gN_lo hl2 hd)) ?_
        exact ih _ (by omega) (dv_step_ok hf (fun _ h => (gN_ok hok h).2) (by omega)) (fun j hj => (tR_lo hj).trans (hl2 j hj)) (by rw [← hd, dvF_t h39]) (by rw [← hbb, dvB_t h39])
      ·
        rw [rowC_wr] at h39
        rw [dvB_f h39, hb] at hbb
        cases hbb
  refine g_eq (L' := [(2, .int (nI 7 + (-1))), (1, .int (sg 1 7)), (0, .ref (ad w 1))]) rfl rfl rfl rfl ?_
  exact lp 7 _ (Nat.le_refl _) (ccR_ok hok) (fun j hj => ccR_out (by omega)) rfl rfl
set_option maxRecDepth 100000 in
set_option maxHeartbeats 400000 in
theorem c_X3_divide_no (w : GW) (tu : Int64) (sg : Sg) (hok : ROk (rowC sg 1)) (hz : ¬ ngX (gN (rowC sg 1)) 6 0 = 0) (hb : dvB (gN (rowC sg 1)) 7 (ccR (rowC sg 1)) = false) : Kt w yX3_divide cX3_divide 3 (some .int) 4 [.ref (ad w 1)] sg tu (some (.int (-3))) (wrR sg 1 (dvF (gN (rowC sg 1)) 7 (ccR (rowC sg 1)))) tu := by
  refine Kt.of2 RX3 rfl [(0, .ref (ad w 1))] (by decide) rfl (Nat.le_of_ble_eq_true rfl) (fun z C E => ?_)
  have hng := ngX_lt (g := gN (rowC sg 1)) 6 0 (fun k hk => (gN_ok hok (by omega)).2)
  have hng2 : ngX (gN (rowC sg 1)) 6 0 < 2 ^ 31 := Nat.lt_of_lt_of_le hng (by decide)
  refine g_aload_n C 0 rfl rfl dX3_divide_0 ?_
  refine g_callV1 [] C (c_X3_numberGiven w tu sg  hok) mt_X3_numberGiven e_1 rfl ml_X3_107 im_X3_numberGiven se_X3_numberGiven (by decide) rfl (Nat.le_of_ble_eq_true rfl) dX3_divide_1 ?_
  refine g_eq (L' := [(0, .ref (ad w 1))]) (S' := [.int (nI (ngX (gN (rowC sg 1)) 6 0))]) rfl rfl rfl rfl ?_
  refine g_ifN_ne C (ngX (gN (rowC sg 1)) 6 0) (by omega) (tgt := 10) (by decide) dX3_divide_4 (fun h4 => ?_) (fun h4 => absurd h4 hz)
  refine g_aload_n C 0 rfl rfl dX3_divide_10 ?_
  refine g_getI C (j := 7) cls3 e_1 rfl (by decide) fl_X3_34 dX3_divide_11 ?_
  refine g_istore_n C (L' := [(1, .int (sg 1 7)), (0, .ref (ad w 1))]) rfl (by decide) rfl dX3_divide_14 ?_
  refine g_aload_n C 1 rfl rfl dX3_divide_15 ?_
  refine g_getR C (j := 3) cls3 e_1 rfl (by decide) fl_X3_21 dX3_divide_16 ?_
  refine g_iconst C (v := (nI 0)) (by decide) dX3_divide_19 ?_
  refine g_callS0 [] C (c_J7_fill_53178 w tu sg  ) mt_J7_fill_53178 ml_X3_71 st_J7_fill_53178 (by decide) rfl (Nat.le_of_ble_eq_true rfl) dX3_divide_20 ?_
  refine g_eq (sg' := (us sg 5 (fun _ => nI 0))) (L' := [(1, .int (sg 1 7)), (0, .ref (ad w 1))]) (S' := []) rfl rfl rfl rfl ?_
  refine g_sq (sg' := wrR sg 1 (ccR (rowC sg 1))) (cc_w (fun j hj => rfl)) ?_
  refine g_bipush C (v := (nI 6)) (by decide) dX3_divide_23 ?_
  refine g_istore_n C (L' := [(2, .int (nI 6)), (1, .int (sg 1 7)), (0, .ref (ad w 1))]) rfl (by decide) rfl dX3_divide_25 ?_
  have lp : ∀ (r : Nat) (f : Nat → Int32), r ≤ 7 → ROk f → (∀ j, j < 12 → f j = rowC sg 1 j) → dvF (gN (rowC sg 1)) r f = dvF (gN (rowC sg 1)) 7 (ccR (rowC sg 1)) → dvB (gN (rowC sg 1)) r f = dvB (gN (rowC sg 1)) 7 (ccR (rowC sg 1)) → G z w 3 (wrR sg 1 f) tu 26 [(2, .int (nI r + (-1))), (1, .int (sg 1 7)), (0, .ref (ad w 1))] [] := by
    intro r
    induction r with
    | zero =>
      intro f hr hf hl hd hbb
      rw [hb] at hbb
      cases hbb
    | succ r ih =>
      intro f hr hf hl hd hbb
      refine g_eq (L' := [(2, .int (nI r)), (1, .int (sg 1 7)), (0, .ref (ad w 1))]) rfl rfl (by rw [pk_m1]) rfl ?_
      have hl1 : ∀ j, j < 12 → (upd f 31 (nI r)) j = rowC sg 1 j := fun j hj => (upd_ne (by omega)).trans (hl j hj)
      have hl2 : ∀ j, j < 12 → dwn (gN (rowC sg 1)) 20 (upd f 31 (nI r)) j = rowC sg 1 j := fun j hj => (dwn_lo hj 20 _).trans (hl1 j hj)
      refine g_iload_n C 0 rfl rfl dX3_divide_26 ?_
      refine g_if_lt C (tgt := 58) (by decide) dX3_divide_27 (fun h27 => absurd h27 (nI_pos (by omega))) (fun h27 => ?_)
      refine g_aload_n C 2 rfl rfl dX3_divide_30 ?_
      refine g_iload_n C 0 rfl rfl dX3_divide_31 ?_
      refine g_putI C (j := 4) cls3 e_1 rfl (by decide) rfl rfl fl_X3_24 dX3_divide_32 ?_
      refine g_sgE (sg' := (us (wrR sg 1 f) 1 (upd ((wrR sg 1 f) 1) 4 (nI r)))) rfl ?_
      refine g_sq (sg' := (wrR sg 1 (upd f 31 (nI r)))) sh_w ?_
      refine g_aload_n C 2 rfl rfl dX3_divide_35 ?_
      refine g_callV1 [] C (c_X3_turnDownTillBell w tu (wrR sg 1 (upd f 31 (nI r)))  (gN (rowC sg 1)) (by rw [rowC_wr]; exact sh_ok hf (by omega)) (fun d hd => by rw [rowC_wr]; exact gN_lo hl1 hd)) mt_X3_turnDownTillBell e_1 rfl ml_X3_110 im_X3_turnDownTillBell se_X3_turnDownTillBell (by decide) rfl (Nat.le_of_ble_eq_true rfl) dX3_divide_36 ?_
      refine g_eq (sg' := (wrR (wrR sg 1 (upd f 31 (nI r))) 1 (dwn (gN (rowC sg 1)) 20 (rowC (wrR sg 1 (upd f 31 (nI r))) 1)))) (L' := [(2, .int (nI r)), (1, .int (sg 1 7)), (0, .ref (ad w 1))]) (S' := [.int (bI (dwB (gN (rowC sg 1)) 20 (rowC (wrR sg 1 (upd f 31 (nI r))) 1) = true))]) rfl rfl rfl rfl ?_
      refine g_sgE (sg' := (wrR sg 1 (dwn (gN (rowC sg 1)) 20 (upd f 31 (nI r))))) (by rw [wrR_wrR, rowC_wr]) ?_
      refine g_bif_ne C (tgt := 45) (by decide) dX3_divide_39 (fun h39 => ?_) (fun h39 => ?_)
      ·
        rw [rowC_wr] at h39
        refine g_aload_n C 2 rfl rfl dX3_divide_45 ?_
        refine g_iconst C (v := (nI 1)) (by decide) dX3_divide_46 ?_
        refine g_iconst C (v := (-1)) (by decide) dX3_divide_47 ?_
        refine g_callV1 [] C (c_X3_turnOnce_up w tu (wrR sg 1 (dwn (gN (rowC sg 1)) 20 (upd f 31 (nI r)))) (-1) (by rw [rowC_wr]; exact dwn_ok (fun _ h => (gN_ok hok h).2) 20 _ (sh_ok hf (by omega)))) mt_X3_turnOnce e_1 rfl ml_X3_81 im_X3_turnOnce se_X3_turnOnce (by decide) rfl (Nat.le_of_ble_eq_true rfl) dX3_divide_48 ?_
        refine g_eq (sg' := (wrR (wrR sg 1 (dwn (gN (rowC sg 1)) 20 (upd f 31 (nI r)))) 1 (tR true (-1) (gN (rowC (wrR sg 1 (dwn (gN (rowC sg 1)) 20 (upd f 31 (nI r)))) 1)) (rowC (wrR sg 1 (dwn (gN (rowC sg 1)) 20 (upd f 31 (nI r)))) 1)))) (L' := [(2, .int (nI r)), (1, .int (sg 1 7)), (0, .ref (ad w 1))]) (S' := [.int (bI (blP true (wN (rowC (wrR sg 1 (dwn (gN (rowC sg 1)) 20 (upd f 31 (nI r)))) 1)) (gN (rowC (wrR sg 1 (dwn (gN (rowC sg 1)) 20 (upd f 31 (nI r)))) 1)) (sN (rowC (wrR sg 1 (dwn (gN (rowC sg 1)) 20 (upd f 31 (nI r)))) 1)) (sN (rowC (wrR sg 1 (dwn (gN (rowC sg 1)) 20 (upd f 31 (nI r)))) 1) + 5 + reN (rowC (wrR sg 1 (dwn (gN (rowC sg 1)) 20 (upd f 31 (nI r)))) 1))))]) rfl rfl rfl rfl ?_
        refine g_pop C rfl dX3_divide_51 ?_
        refine g_iinc C (n := -1) (v := ((nI r) + (-1))) (L' := [(2, .int ((nI r) + (-1))), (1, .int (sg 1 7)), (0, .ref (ad w 1))]) 0 rfl rfl (by decide) rfl dX3_divide_52 ?_
        refine g_goto C (tgt := 26) (by decide) dX3_divide_55 ?_
        refine g_sub (L' := [(2, .int ((nI r) + (-1))), (1, .int (sg 1 7)), (0, .ref (ad w 1))]) [0, 1, 2] rfl ?_
        refine g_sgE (sg' := (wrR sg 1 (tR true (-1) (gN (rowC sg 1)) (dwn (gN (rowC sg 1)) 20 (upd f 31 (nI r)))))) (tn_1 (fun d hd => gN_lo hl2 hd)) ?_
        exact ih _ (by omega) (dv_step_ok hf (fun _ h => (gN_ok hok h).2) (by omega)) (fun j hj => (tR_lo hj).trans (hl2 j hj)) (by rw [← hd, dvF_t h39]) (by rw [← hbb, dvB_t h39])
      ·
        rw [rowC_wr] at h39
        refine g_bipush C (v := (-3)) (by decide) dX3_divide_42 ?_
        exact g_iret C E dX3_divide_44 rfl (Sq.of (by rw [← hd, dvF_f h39])) rfl
  refine g_eq (L' := [(2, .int (nI 7 + (-1))), (1, .int (sg 1 7)), (0, .ref (ad w 1))]) rfl rfl rfl rfl ?_
  exact lp 7 _ (Nat.le_refl _) (ccR_ok hok) (fun j hj => ccR_out (by omega)) rfl rfl
