set_option maxRecDepth 100000 in
set_option maxHeartbeats 400000 in
theorem c_X5_downs0 (w : GW) (tu : Int64) (sg : Sg) (g : Nat → Nat) (hok : ROk (sg 45)) (hgi : ∀ i, i < 6 → sg 50 i = nI (g i)) (hg9 : ∀ i, i < 6 → g i ≤ 9) : Kt w yX5_downs0 cX5_downs0 3 (some .boolean) 2 [.ref (ad w 44)] sg tu (some (.int (bI (dwB g 20 (sg 45) = true)))) (us sg 45 (dwn g 20 (sg 45))) tu := by
  refine Kt.of2 RX5 rfl [(0, .ref (ad w 44))] (by decide) rfl (Nat.le_of_ble_eq_true rfl) (fun z C E => ?_)
  refine g_iconst C (v := (nI 0)) (by decide) dX5_downs0_0 ?_
  refine g_istore_n C (L' := [(1, .int (nI 0)), (0, .ref (ad w 44))]) rfl (by decide) rfl dX5_downs0_1 ?_
  refine g_iconst C (v := (nI 0)) (by decide) dX5_downs0_2 ?_
  refine g_istore_n C (L' := [(2, .int (nI 0)), (1, .int (nI 0)), (0, .ref (ad w 44))]) rfl (by decide) rfl dX5_downs0_3 ?_
  have lp : ∀ (r k : Nat) (f : Nat → Int32), k + r = 20 → ROk f → dwn g r f = dwn g 20 (sg 45) → dwB g r f = dwB g 20 (sg 45) → G z w 3 (us sg 45 f) tu 4 [(2, .int (nI k)), (1, .int (nI 0)), (0, .ref (ad w 44))] [] := by
    intro r
    induction r with
    | zero =>
      intro k f hk hf hd hb
      have hk20 : k = 20 := by omega
      subst hk20
      refine g_iload_n C 0 rfl rfl dX5_downs0_4 ?_
      refine g_bipush C (v := (nI 20)) (by decide) dX5_downs0_5 ?_
      refine g_icmpN_ge C 20 20 (by omega) (by omega) (tgt := 27) (by decide) dX5_downs0_7 (fun h7 => ?_) (fun h7 => absurd h7 (by decide))
      refine g_iload_n C 1 rfl rfl dX5_downs0_27 ?_
      exact g_zret C E dX5_downs0_28 (by decide +kernel) (bI_f (fun q => by rw [← hb] at q; cases q)).symm (Sq.of (by rw [← hd]; rfl)) rfl
    | succ r ih =>
      intro k f hk hf hd hb
      refine g_iload_n C 0 rfl rfl dX5_downs0_4 ?_
      refine g_bipush C (v := (nI 20)) (by decide) dX5_downs0_5 ?_
      refine g_icmpN_ge C k 20 (by omega) (by omega) (tgt := 27) (by decide) dX5_downs0_7 (fun h7 => absurd h7 (by omega)) (fun h7 => ?_)
      refine g_iload_n C 1 rfl rfl dX5_downs0_10 ?_
      refine g_if_ne C (tgt := 27) (by decide) dX5_downs0_11 (fun h11 => absurd h11 (by decide)) (fun h11 => ?_)
      refine g_aload_n C 2 rfl rfl dX5_downs0_14 ?_
      refine g_iconst C (v := (-1)) (by decide) dX5_downs0_15 ?_
      refine g_iconst C (v := (nI 1)) (by decide) dX5_downs0_16 ?_
      refine g_callV1 [] C (c_X5_turnsOnce_dn w tu (us sg 45 f) (nI 1) g hf hgi hg9) mt_X5_turnsOnce e_44 rfl ml_X5_70 im_X5_turnsOnce se_X5_turnsOnce (by decide) rfl (Nat.le_of_ble_eq_true rfl) dX5_downs0_17 ?_
      refine g_eq (sg' := (us (us sg 45 f) 45 (tR false (nI 1) g f))) (L' := [(2, .int (nI k)), (1, .int (nI 0)), (0, .ref (ad w 44))]) (S' := [.int (bI (blP false (wN f) g (sN f) (sN f + 5 + reN f)))]) rfl rfl rfl rfl ?_
      refine g_istore_n C (L' := [(1, .int (bI (blP false (wN f) g (sN f) (sN f + 5 + reN f)))), (2, .int (nI k)), (0, .ref (ad w 44))]) rfl (by decide) rfl dX5_downs0_20 ?_
      refine g_iinc C (n := 1) (v := (nI (k + 1))) (L' := [(2, .int (nI (k + 1))), (1, .int (bI (blP false (wN f) g (sN f) (sN f + 5 + reN f)))), (0, .ref (ad w 44))]) 1 rfl (nI_add k 1) (by decide) rfl dX5_downs0_21 ?_
      refine g_goto C (tgt := 4) (by decide) dX5_downs0_24 ?_
      by_cases hbl : blP false (wN f) g (sN f) (sN f + 5 + reN f)
      ·
        refine g_sub (L' := [(2, .int (nI (k + 1))), (1, .int (bI (blP false (wN f) g (sN f) (sN f + 5 + reN f)))), (0, .ref (ad w 44))]) [0, 1, 2] rfl ?_
        refine g_eq (sg' := (us sg 45 (tR false (nI 1) g f))) (L' := [(2, .int (nI (k + 1))), (1, .int (nI 1)), (0, .ref (ad w 44))]) us_us rfl (by rw [bI_t hbl]; rfl) rfl ?_
        refine g_iload_n C 0 rfl rfl dX5_downs0_4 ?_
        refine g_bipush C (v := (nI 20)) (by decide) dX5_downs0_5 ?_
        refine g_icmpN_ge C (k + 1) 20 (by omega) (by omega) (tgt := 27) (by decide) dX5_downs0_7 (fun h7 => ?_) (fun h7 => ?_)
        ·
          refine g_iload_n C 1 rfl rfl dX5_downs0_27 ?_
          exact g_zret C E dX5_downs0_28 (by decide +kernel) (bI_t (by rw [← hb, dwB_t hbl])).symm (Sq.of (by rw [← hd, dwn_t hbl])) rfl
        ·
          refine g_iload_n C 1 rfl rfl dX5_downs0_10 ?_
          refine g_if_ne C (tgt := 27) (by decide) dX5_downs0_11 (fun h11 => ?_) (fun h11 => absurd h11 (by decide))
          refine g_iload_n C 1 rfl rfl dX5_downs0_27 ?_
          exact g_zret C E dX5_downs0_28 (by decide +kernel) (bI_t (by rw [← hb, dwB_t hbl])).symm (Sq.of (by rw [← hd, dwn_t hbl])) rfl
      ·
        refine g_sub (L' := [(2, .int (nI (k + 1))), (1, .int (bI (blP false (wN f) g (sN f) (sN f + 5 + reN f)))), (0, .ref (ad w 44))]) [0, 1, 2] rfl ?_
        refine g_eq (sg' := (us sg 45 (tR false (nI 1) g f))) (L' := [(2, .int (nI (k + 1))), (1, .int (nI 0)), (0, .ref (ad w 44))]) us_us rfl (by rw [bI_f hbl]; rfl) rfl ?_
        exact ih (k + 1) _ (by omega) (tR_ok hf hg9) (by rw [← hd, dwn_f hbl]) (by rw [← hb, dwB_f hbl])
  refine g_sgE (sg' := (us sg 45 (sg 45))) us_id.symm ?_
  exact lp 20 0 (sg 45) rfl hok rfl rfl
set_option maxRecDepth 100000 in
set_option maxHeartbeats 400000 in
theorem c_X5_doesDivide_z (w : GW) (tu : Int64) (sg : Sg) (hok : ROk (sg 45)) (hz : gsm (gN (sg 45)) 6 = 0) : Kt w yX5_doesDivide cX5_doesDivide 5 (some .int) 2 [.ref (ad w 44)] sg tu (some (.int (-3))) (us sg 50 (fun d => whX ((sg 45) (6 + d)) (dN (sg 45) d + 1))) tu := by
  refine Kt.of2 RX5 rfl [(0, .ref (ad w 44))] (by decide) rfl (Nat.le_of_ble_eq_true rfl) (fun z C E => ?_)
  refine g_aload_n C 0 rfl rfl dX5_doesDivide_0 ?_
  refine g_callV0 [] C (c_X5_laysGives w tu sg  (dN (sg 45)) hok.1) mt_X5_laysGives e_44 rfl ml_X5_67 im_X5_laysGives se_X5_laysGives (by decide) rfl (Nat.le_of_ble_eq_true rfl) dX5_doesDivide_1 ?_
  refine g_eq (sg' := (us sg 50 (fun d => whX ((sg 45) (6 + d)) ((dN (sg 45)) d + 1)))) (L' := [(0, .ref (ad w 44))]) (S' := []) rfl rfl rfl rfl ?_
  refine g_iconst C (v := (nI 0)) (by decide) dX5_doesDivide_4 ?_
  refine g_istore_n C (L' := [(1, .int (nI 0)), (0, .ref (ad w 44))]) rfl (by decide) rfl dX5_doesDivide_5 ?_
  refine g_iconst C (v := (nI 0)) (by decide) dX5_doesDivide_6 ?_
  refine g_istore_n C (L' := [(2, .int (nI 0)), (1, .int (nI 0)), (0, .ref (ad w 44))]) rfl (by decide) rfl dX5_doesDivide_7 ?_
  have lps : ∀ (nf i : Nat), 6 < i + nf → i ≤ 6 → (True) → G z w 5 (us sg 50 (fun d => whX ((sg 45) (6 + d)) ((dN (sg 45)) d + 1))) tu 8 [(2, .int (nI i)), (1, .int (nI (gsm (gN (sg 45)) i))), (0, .ref (ad w 44))] [] := by
    intro nf
    induction nf with
    | zero => intro i  h1 h2 hI; exact absurd h1 (by omega)
    | succ nf ihlps =>
      intro i  h1 h2 hI
      have hgs := gsm_le (fun _ h => (gN_ok hok h).2) i (by omega)
      refine g_iload_n C 0 rfl rfl dX5_doesDivide_8 ?_
      refine g_bipush C (v := (nI 6)) (by decide) dX5_doesDivide_9 ?_
      refine g_icmpN_ge C i 6 (by omega) (by omega) (tgt := 29) (by decide) dX5_doesDivide_11 (fun h11 => ?_) (fun h11 => ?_)
      ·
        have hiN : 6 = i := by omega
        subst hiN
        refine g_iload_n C 1 rfl rfl dX5_doesDivide_29 ?_
        refine g_ifN_ne C (gsm (gN (sg 45)) 6) (by omega) (tgt := 36) (by decide) dX5_doesDivide_30 (fun h30 => absurd hz h30) (fun h30 => ?_)
        refine g_bipush C (v := (-3)) (by decide) dX5_doesDivide_33 ?_
        exact g_iret C E dX5_doesDivide_35 rfl Sq.rf rfl
      ·
        refine g_iload_n C 1 rfl rfl dX5_doesDivide_14 ?_
        refine g_aload_n C 2 rfl rfl dX5_doesDivide_15 ?_
        refine g_getR C (j := 7) cls5 e_44 rfl (by decide) fl_X5_25 dX5_doesDivide_16 ?_
        refine g_iload_n C 0 rfl rfl dX5_doesDivide_19 ?_
        refine g_ialdN C i e_50 (by omega) (by decide) dX5_doesDivide_20 ?_
        refine g_top (y := ((fun d => whX ((sg 45) (6 + d)) ((dN (sg 45)) d + 1)) i)) rfl ?_
        refine g_top (y := (nI (gN (sg 45) i))) (gN_ok hok (by omega)).1 ?_
        refine g_iadd C dX5_doesDivide_21 ?_
        refine g_top (y := (nI ((gsm (gN (sg 45)) i) + (gN (sg 45) i)))) (nI_add (gsm (gN (sg 45)) i) (gN (sg 45) i)) ?_
        refine g_istore_n C (L' := [(1, .int (nI ((gsm (gN (sg 45)) i) + (gN (sg 45) i)))), (2, .int (nI i)), (0, .ref (ad w 44))]) rfl (by decide) rfl dX5_doesDivide_22 ?_
        refine g_iinc C (n := 1) (v := (nI (i + 1))) (L' := [(2, .int (nI (i + 1))), (1, .int (nI ((gsm (gN (sg 45)) i) + (gN (sg 45) i)))), (0, .ref (ad w 44))]) 1 rfl (nI_add i 1) (by decide) rfl dX5_doesDivide_23 ?_
        refine g_goto C (tgt := 8) (by decide) dX5_doesDivide_26 ?_
        refine g_sub (L' := [(2, .int (nI (i + 1))), (1, .int (nI ((gsm (gN (sg 45)) i) + (gN (sg 45) i)))), (0, .ref (ad w 44))]) [0, 1, 2] rfl ?_
        refine g_eq (L' := [(2, .int (nI (i + 1))), (1, .int (nI (gsm (gN (sg 45)) (i + 1)))), (0, .ref (ad w 44))]) rfl rfl rfl rfl ?_
        exact ihlps (i + 1)  (by omega) (by omega) trivial
  exact lps (6 + 1) 0  (by omega) (by omega) trivial
set_option maxRecDepth 100000 in
set_option maxHeartbeats 400000 in
theorem c_X5_doesDivide_ok (w : GW) (tu : Int64) (sg : Sg) (hok : ROk (sg 45)) (hz : ¬ gsm (gN (sg 45)) 6 = 0) (hb : dvB (gN (sg 45)) 7 (ccR (sg 45)) = true) : Kt w yX5_doesDivide cX5_doesDivide 5 (some .int) 3 [.ref (ad w 44)] sg tu (some (.int (nI (dvC (gN (sg 45)) 7 (ccR (sg 45)))))) (us (us sg 50 (fun d => whX ((sg 45) (6 + d)) (dN (sg 45) d + 1))) 45 (dvF (gN (sg 45)) 7 (ccR (sg 45)))) tu := by
  refine Kt.of2 RX5 rfl [(0, .ref (ad w 44))] (by decide) rfl (Nat.le_of_ble_eq_true rfl) (fun z C E => ?_)
  refine g_aload_n C 0 rfl rfl dX5_doesDivide_0 ?_
  refine g_callV0 [] C (c_X5_laysGives w tu sg  (dN (sg 45)) hok.1) mt_X5_laysGives e_44 rfl ml_X5_67 im_X5_laysGives se_X5_laysGives (by decide) rfl (Nat.le_of_ble_eq_true rfl) dX5_doesDivide_1 ?_
  refine g_eq (sg' := (us sg 50 (fun d => whX ((sg 45) (6 + d)) ((dN (sg 45)) d + 1)))) (L' := [(0, .ref (ad w 44))]) (S' := []) rfl rfl rfl rfl ?_
  refine g_iconst C (v := (nI 0)) (by decide) dX5_doesDivide_4 ?_
  refine g_istore_n C (L' := [(1, .int (nI 0)), (0, .ref (ad w 44))]) rfl (by decide) rfl dX5_doesDivide_5 ?_
  refine g_iconst C (v := (nI 0)) (by decide) dX5_doesDivide_6 ?_
  refine g_istore_n C (L' := [(2, .int (nI 0)), (1, .int (nI 0)), (0, .ref (ad w 44))]) rfl (by decide) rfl dX5_doesDivide_7 ?_
  have lps : ∀ (nf i : Nat), 6 < i + nf → i ≤ 6 → (True) → G z w 5 (us sg 50 (fun d => whX ((sg 45) (6 + d)) ((dN (sg 45)) d + 1))) tu 8 [(2, .int (nI i)), (1, .int (nI (gsm (gN (sg 45)) i))), (0, .ref (ad w 44))] [] := by
    intro nf
    induction nf with
    | zero => intro i  h1 h2 hI; exact absurd h1 (by omega)
    | succ nf ihlps =>
      intro i  h1 h2 hI
      have hgs := gsm_le (fun _ h => (gN_ok hok h).2) i (by omega)
      refine g_iload_n C 0 rfl rfl dX5_doesDivide_8 ?_
      refine g_bipush C (v := (nI 6)) (by decide) dX5_doesDivide_9 ?_
      refine g_icmpN_ge C i 6 (by omega) (by omega) (tgt := 29) (by decide) dX5_doesDivide_11 (fun h11 => ?_) (fun h11 => ?_)
      ·
        have hiN : 6 = i := by omega
        subst hiN
        refine g_iload_n C 1 rfl rfl dX5_doesDivide_29 ?_
        refine g_ifN_ne C (gsm (gN (sg 45)) 6) (by omega) (tgt := 36) (by decide) dX5_doesDivide_30 (fun h30 => ?_) (fun h30 => absurd h30 hz)
        refine g_aload_n C 2 rfl rfl dX5_doesDivide_36 ?_
        refine g_getR C (j := 0) cls5 e_44 rfl (by decide) fl_X5_7 dX5_doesDivide_37 ?_
        refine g_bipush C (v := (nI 34)) (by decide) dX5_doesDivide_40 ?_
        refine g_ialdN C 34 e_45 (by decide) (by decide) dX5_doesDivide_42 ?_
        refine g_top (y := (sg 45 34)) rfl ?_
        refine g_istore_n C (L' := [(2, .int (sg 45 34)), (1, .int (nI (gsm (gN (sg 45)) 6))), (0, .ref (ad w 44))]) rfl (by decide) rfl dX5_doesDivide_43 ?_
        refine g_aload_n C 2 rfl rfl dX5_doesDivide_44 ?_
        refine g_callV0 [] C (c_X5_clearsCounters w tu (us sg 50 (fun d => whX ((sg 45) (6 + d)) ((dN (sg 45)) d + 1)))  ) mt_X5_clearsCounters e_44 rfl ml_X5_74 im_X5_clearsCounters se_X5_clearsCounters (by decide) rfl (Nat.le_of_ble_eq_true rfl) dX5_doesDivide_45 ?_
        refine g_eq (sg' := (us (us sg 50 (fun d => whX ((sg 45) (6 + d)) ((dN (sg 45)) d + 1))) 45 (fw 24 (fun _ => nI 0) (sg 45) 7))) (L' := [(2, .int (sg 45 34)), (1, .int (nI (gsm (gN (sg 45)) 6))), (0, .ref (ad w 44))]) (S' := []) rfl rfl rfl rfl ?_
        refine g_sgE (sg' := (us (us sg 50 (fun d => whX ((sg 45) (6 + d)) (dN (sg 45) d + 1))) 45 (ccR (sg 45)))) rfl ?_
        refine g_bipush C (v := (nI 6)) (by decide) dX5_doesDivide_48 ?_
        refine g_istore_n C (L' := [(3, .int (nI 6)), (2, .int (sg 45 34)), (1, .int (nI (gsm (gN (sg 45)) 6))), (0, .ref (ad w 44))]) rfl (by decide) rfl dX5_doesDivide_50 ?_
        have lp : ∀ (r : Nat) (f : Nat → Int32), r ≤ 7 → ROk f → dvF (gN (sg 45)) r f = dvF (gN (sg 45)) 7 (ccR (sg 45)) → dvB (gN (sg 45)) r f = dvB (gN (sg 45)) 7 (ccR (sg 45)) → G z w 5 (us (us sg 50 (fun d => whX ((sg 45) (6 + d)) (dN (sg 45) d + 1))) 45 f) tu 51 [(3, .int (nI r + (-1))), (2, .int (sg 45 34)), (1, .int (nI (gsm (gN (sg 45)) 6))), (0, .ref (ad w 44))] [] := by
          intro r
          induction r with
          | zero =>
            intro f hr hf hd hbb
            refine g_iload_n C 0 rfl rfl dX5_doesDivide_51 ?_
            refine g_if_lt C (tgt := 87) (by decide) dX5_doesDivide_52 (fun h52 => ?_) (fun h52 => absurd (by decide) h52)
            refine g_aload_n C 3 rfl rfl dX5_doesDivide_87 ?_
            refine g_getR C (j := 0) cls5 e_44 rfl (by decide) fl_X5_7 dX5_doesDivide_88 ?_
            refine g_bipush C (v := (nI 34)) (by decide) dX5_doesDivide_91 ?_
            refine g_ialdN C 34 e_45 (by decide) (by decide) dX5_doesDivide_93 ?_
            refine g_top (y := (f 34)) rfl ?_
            refine g_iload_n C 1 rfl rfl dX5_doesDivide_94 ?_
            refine g_isub C dX5_doesDivide_95 ?_
            exact g_iret C E dX5_doesDivide_96 (by rw [show f = dvF (gN (sg 45)) 7 (ccR (sg 45)) from hd, dvF_34 7 _ hb, ccR_out (by omega), Int32.add_comm]; exact Int32.add_sub_cancel _ _) (Sq.of (by rw [← hd]; rfl)) rfl
          | succ r ih =>
            intro f hr hf hd hbb
            refine g_eq (L' := [(3, .int (nI r)), (2, .int (sg 45 34)), (1, .int (nI (gsm (gN (sg 45)) 6))), (0, .ref (ad w 44))]) rfl rfl (by rw [pk_m1]) rfl ?_
            refine g_iload_n C 0 rfl rfl dX5_doesDivide_51 ?_
            refine g_if_lt C (tgt := 87) (by decide) dX5_doesDivide_52 (fun h52 => absurd h52 (nI_pos (by omega))) (fun h52 => ?_)
            refine g_aload_n C 3 rfl rfl dX5_doesDivide_55 ?_
            refine g_getR C (j := 0) cls5 e_44 rfl (by decide) fl_X5_7 dX5_doesDivide_56 ?_
            refine g_bipush C (v := (nI 31)) (by decide) dX5_doesDivide_59 ?_
            refine g_iload_n C 0 rfl rfl dX5_doesDivide_61 ?_
            refine g_iastN C 31 e_45 (by decide) (by decide) dX5_doesDivide_62 ?_
            refine g_sgE (sg' := (us (us sg 50 (fun d => whX ((sg 45) (6 + d)) (dN (sg 45) d + 1))) 45 (upd f 31 (nI r)))) us_us ?_
            refine g_sgE (sg' := (us (us sg 50 (fun d => whX ((sg 45) (6 + d)) (dN (sg 45) d + 1))) 45 (upd f 31 (nI r)))) rfl ?_
            refine g_aload_n C 3 rfl rfl dX5_doesDivide_63 ?_
            refine g_callV1 [] C (c_X5_downs0 w tu (us (us sg 50 (fun d => whX ((sg 45) (6 + d)) (dN (sg 45) d + 1))) 45 (upd f 31 (nI r)))  (gN (sg 45)) (sh_ok hf (by omega)) (fun d h => (gN_ok hok h).1) (fun _ h => (gN_ok hok h).2)) mt_X5_downs0 e_44 rfl ml_X5_86 im_X5_downs0 se_X5_downs0 (by decide) rfl (Nat.le_of_ble_eq_true rfl) dX5_doesDivide_64 ?_
            refine g_eq (sg' := (us (us (us sg 50 (fun d => whX ((sg 45) (6 + d)) (dN (sg 45) d + 1))) 45 (upd f 31 (nI r))) 45 (dwn (gN (sg 45)) 20 (upd f 31 (nI r))))) (L' := [(3, .int (nI r)), (2, .int (sg 45 34)), (1, .int (nI (gsm (gN (sg 45)) 6))), (0, .ref (ad w 44))]) (S' := [.int (bI (dwB (gN (sg 45)) 20 (upd f 31 (nI r)) = true))]) rfl rfl rfl rfl ?_
            refine g_sgE (sg' := (us (us sg 50 (fun d => whX ((sg 45) (6 + d)) (dN (sg 45) d + 1))) 45 (dwn (gN (sg 45)) 20 (upd f 31 (nI r))))) us_us ?_
            refine g_bif_ne C (tgt := 73) (by decide) dX5_doesDivide_67 (fun h67 => ?_) (fun h67 => ?_)
            ·
              refine g_aload_n C 3 rfl rfl dX5_doesDivide_73 ?_
              refine g_iconst C (v := (nI 1)) (by decide) dX5_doesDivide_74 ?_
              refine g_iconst C (v := (-1)) (by decide) dX5_doesDivide_75 ?_
              refine g_callV1 [] C (c_X5_turnsOnce_up w tu (us (us sg 50 (fun d => whX ((sg 45) (6 + d)) (dN (sg 45) d + 1))) 45 (dwn (gN (sg 45)) 20 (upd f 31 (nI r)))) (-1) (gN (sg 45)) (dwn_ok (fun _ h => (gN_ok hok h).2) 20 _ (sh_ok hf (by omega))) (fun d h => (gN_ok hok h).1) (fun _ h => (gN_ok hok h).2)) mt_X5_turnsOnce e_44 rfl ml_X5_70 im_X5_turnsOnce se_X5_turnsOnce (by decide) rfl (Nat.le_of_ble_eq_true rfl) dX5_doesDivide_76 ?_
              refine g_eq (sg' := (us (us (us sg 50 (fun d => whX ((sg 45) (6 + d)) (dN (sg 45) d + 1))) 45 (dwn (gN (sg 45)) 20 (upd f 31 (nI r)))) 45 (tR true (-1) (gN (sg 45)) (dwn (gN (sg 45)) 20 (upd f 31 (nI r)))))) (L' := [(3, .int (nI r)), (2, .int (sg 45 34)), (1, .int (nI (gsm (gN (sg 45)) 6))), (0, .ref (ad w 44))]) (S' := [.int (bI (blP true (wN (dwn (gN (sg 45)) 20 (upd f 31 (nI r)))) (gN (sg 45)) (sN (dwn (gN (sg 45)) 20 (upd f 31 (nI r)))) (sN (dwn (gN (sg 45)) 20 (upd f 31 (nI r))) + 5 + reN (dwn (gN (sg 45)) 20 (upd f 31 (nI r))))))]) rfl rfl rfl rfl ?_
              refine g_istore C (L' := [(4, .int (bI (blP true (wN (dwn (gN (sg 45)) 20 (upd f 31 (nI r)))) (gN (sg 45)) (sN (dwn (gN (sg 45)) 20 (upd f 31 (nI r)))) (sN (dwn (gN (sg 45)) 20 (upd f 31 (nI r))) + 5 + reN (dwn (gN (sg 45)) 20 (upd f 31 (nI r))))))), (3, .int (nI r)), (2, .int (sg 45 34)), (1, .int (nI (gsm (gN (sg 45)) 6))), (0, .ref (ad w 44))]) (by decide) rfl dX5_doesDivide_79 ?_
              refine g_iinc C (n := -1) (v := ((nI r) + (-1))) (L' := [(3, .int ((nI r) + (-1))), (4, .int (bI (blP true (wN (dwn (gN (sg 45)) 20 (upd f 31 (nI r)))) (gN (sg 45)) (sN (dwn (gN (sg 45)) 20 (upd f 31 (nI r)))) (sN (dwn (gN (sg 45)) 20 (upd f 31 (nI r))) + 5 + reN (dwn (gN (sg 45)) 20 (upd f 31 (nI r))))))), (2, .int (sg 45 34)), (1, .int (nI (gsm (gN (sg 45)) 6))), (0, .ref (ad w 44))]) 1 rfl rfl (by decide) rfl dX5_doesDivide_81 ?_
              refine g_goto C (tgt := 51) (by decide) dX5_doesDivide_84 ?_
              refine g_sub (L' := [(3, .int ((nI r) + (-1))), (2, .int (sg 45 34)), (1, .int (nI (gsm (gN (sg 45)) 6))), (0, .ref (ad w 44))]) [0, 2, 3, 4] rfl ?_
              refine g_sgE (sg' := (us (us sg 50 (fun d => whX ((sg 45) (6 + d)) (dN (sg 45) d + 1))) 45 (tR true (-1) (gN (sg 45)) (dwn (gN (sg 45)) 20 (upd f 31 (nI r)))))) us_us ?_
              exact ih _ (by omega) (dv_step_ok hf (fun _ h => (gN_ok hok h).2) (by omega)) (by rw [← hd, dvF_t h67]) (by rw [← hbb, dvB_t h67])
            ·
              rw [dvB_f h67, hb] at hbb
              cases hbb
        refine g_eq (L' := [(3, .int (nI 7 + (-1))), (2, .int (sg 45 34)), (1, .int (nI (gsm (gN (sg 45)) 6))), (0, .ref (ad w 44))]) rfl rfl rfl rfl ?_
        refine g_sub (L' := [(3, .int (nI 7 + (-1))), (2, .int (sg 45 34)), (1, .int (nI (gsm (gN (sg 45)) 6))), (0, .ref (ad w 44))]) [0, 1, 2, 3] rfl ?_
        exact lp 7 _ (Nat.le_refl _) (ccR_ok hok) rfl rfl
      ·
        refine g_iload_n C 1 rfl rfl dX5_doesDivide_14 ?_
        refine g_aload_n C 2 rfl rfl dX5_doesDivide_15 ?_
        refine g_getR C (j := 7) cls5 e_44 rfl (by decide) fl_X5_25 dX5_doesDivide_16 ?_
        refine g_iload_n C 0 rfl rfl dX5_doesDivide_19 ?_
        refine g_ialdN C i e_50 (by omega) (by decide) dX5_doesDivide_20 ?_
        refine g_top (y := ((fun d => whX ((sg 45) (6 + d)) ((dN (sg 45)) d + 1)) i)) rfl ?_
        refine g_top (y := (nI (gN (sg 45) i))) (gN_ok hok (by omega)).1 ?_
        refine g_iadd C dX5_doesDivide_21 ?_
        refine g_top (y := (nI ((gsm (gN (sg 45)) i) + (gN (sg 45) i)))) (nI_add (gsm (gN (sg 45)) i) (gN (sg 45) i)) ?_
        refine g_istore_n C (L' := [(1, .int (nI ((gsm (gN (sg 45)) i) + (gN (sg 45) i)))), (2, .int (nI i)), (0, .ref (ad w 44))]) rfl (by decide) rfl dX5_doesDivide_22 ?_
        refine g_iinc C (n := 1) (v := (nI (i + 1))) (L' := [(2, .int (nI (i + 1))), (1, .int (nI ((gsm (gN (sg 45)) i) + (gN (sg 45) i)))), (0, .ref (ad w 44))]) 1 rfl (nI_add i 1) (by decide) rfl dX5_doesDivide_23 ?_
        refine g_goto C (tgt := 8) (by decide) dX5_doesDivide_26 ?_
        refine g_sub (L' := [(2, .int (nI (i + 1))), (1, .int (nI ((gsm (gN (sg 45)) i) + (gN (sg 45) i)))), (0, .ref (ad w 44))]) [0, 1, 2] rfl ?_
        refine g_eq (L' := [(2, .int (nI (i + 1))), (1, .int (nI (gsm (gN (sg 45)) (i + 1)))), (0, .ref (ad w 44))]) rfl rfl rfl rfl ?_
        exact ihlps (i + 1)  (by omega) (by omega) trivial
  exact lps (6 + 1) 0  (by omega) (by omega) trivial
set_option maxRecDepth 100000 in
set_option maxHeartbeats 400000 in
theorem c_X5_doesDivide_no (w : GW) (tu : Int64) (sg : Sg) (hok : ROk (sg 45)) (hz : ¬ gsm (gN (sg 45)) 6 = 0) (hb : dvB (gN (sg 45)) 7 (ccR (sg 45)) = false) : Kt w yX5_doesDivide cX5_doesDivide 5 (some .int) 3 [.ref (ad w 44)] sg tu (some (.int (-3))) (us (us sg 50 (fun d => whX ((sg 45) (6 + d)) (dN (sg 45) d + 1))) 45 (dvF (gN (sg 45)) 7 (ccR (sg 45)))) tu := by
  refine Kt.of2 RX5 rfl [(0, .ref (ad w 44))] (by decide) rfl (Nat.le_of_ble_eq_true rfl) (fun z C E => ?_)
  refine g_aload_n C 0 rfl rfl dX5_doesDivide_0 ?_
  refine g_callV0 [] C (c_X5_laysGives w tu sg  (dN (sg 45)) hok.1) mt_X5_laysGives e_44 rfl ml_X5_67 im_X5_laysGives se_X5_laysGives (by decide) rfl (Nat.le_of_ble_eq_true rfl) dX5_doesDivide_1 ?_
  refine g_eq (sg' := (us sg 50 (fun d => whX ((sg 45) (6 + d)) ((dN (sg 45)) d + 1)))) (L' := [(0, .ref (ad w 44))]) (S' := []) rfl rfl rfl rfl ?_
  refine g_iconst C (v := (nI 0)) (by decide) dX5_doesDivide_4 ?_
  refine g_istore_n C (L' := [(1, .int (nI 0)), (0, .ref (ad w 44))]) rfl (by decide) rfl dX5_doesDivide_5 ?_
  refine g_iconst C (v := (nI 0)) (by decide) dX5_doesDivide_6 ?_
  refine g_istore_n C (L' := [(2, .int (nI 0)), (1, .int (nI 0)), (0, .ref (ad w 44))]) rfl (by decide) rfl dX5_doesDivide_7 ?_
  have lps : ∀ (nf i : Nat), 6 < i + nf → i ≤ 6 → (True) → G z w 5 (us sg 50 (fun d => whX ((sg 45) (6 + d)) ((dN (sg 45)) d + 1))) tu 8 [(2, .int (nI i)), (1, .int (nI (gsm (gN (sg 45)) i))), (0, .ref (ad w 44))] [] := by
    intro nf
    induction nf with
    | zero => intro i  h1 h2 hI; exact absurd h1 (by omega)
    | succ nf ihlps =>
      intro i  h1 h2 hI
      have hgs := gsm_le (fun _ h => (gN_ok hok h).2) i (by omega)
      refine g_iload_n C 0 rfl rfl dX5_doesDivide_8 ?_
      refine g_bipush C (v := (nI 6)) (by decide) dX5_doesDivide_9 ?_
      refine g_icmpN_ge C i 6 (by omega) (by omega) (tgt := 29) (by decide) dX5_doesDivide_11 (fun h11 => ?_) (fun h11 => ?_)
      ·
        have hiN : 6 = i := by omega
        subst hiN
        refine g_iload_n C 1 rfl rfl dX5_doesDivide_29 ?_
        refine g_ifN_ne C (gsm (gN (sg 45)) 6) (by omega) (tgt := 36) (by decide) dX5_doesDivide_30 (fun h30 => ?_) (fun h30 => absurd h30 hz)
        refine g_aload_n C 2 rfl rfl dX5_doesDivide_36 ?_
        refine g_getR C (j := 0) cls5 e_44 rfl (by decide) fl_X5_7 dX5_doesDivide_37 ?_
        refine g_bipush C (v := (nI 34)) (by decide) dX5_doesDivide_40 ?_
        refine g_ialdN C 34 e_45 (by decide) (by decide) dX5_doesDivide_42 ?_
        refine g_top (y := (sg 45 34)) rfl ?_
        refine g_istore_n C (L' := [(2, .int (sg 45 34)), (1, .int (nI (gsm (gN (sg 45)) 6))), (0, .ref (ad w 44))]) rfl (by decide) rfl dX5_doesDivide_43 ?_
        refine g_aload_n C 2 rfl rfl dX5_doesDivide_44 ?_
        refine g_callV0 [] C (c_X5_clearsCounters w tu (us sg 50 (fun d => whX ((sg 45) (6 + d)) ((dN (sg 45)) d + 1)))  ) mt_X5_clearsCounters e_44 rfl ml_X5_74 im_X5_clearsCounters se_X5_clearsCounters (by decide) rfl (Nat.le_of_ble_eq_true rfl) dX5_doesDivide_45 ?_
        refine g_eq (sg' := (us (us sg 50 (fun d => whX ((sg 45) (6 + d)) ((dN (sg 45)) d + 1))) 45 (fw 24 (fun _ => nI 0) (sg 45) 7))) (L' := [(2, .int (sg 45 34)), (1, .int (nI (gsm (gN (sg 45)) 6))), (0, .ref (ad w 44))]) (S' := []) rfl rfl rfl rfl ?_
        refine g_sgE (sg' := (us (us sg 50 (fun d => whX ((sg 45) (6 + d)) (dN (sg 45) d + 1))) 45 (ccR (sg 45)))) rfl ?_
        refine g_bipush C (v := (nI 6)) (by decide) dX5_doesDivide_48 ?_
        refine g_istore_n C (L' := [(3, .int (nI 6)), (2, .int (sg 45 34)), (1, .int (nI (gsm (gN (sg 45)) 6))), (0, .ref (ad w 44))]) rfl (by decide) rfl dX5_doesDivide_50 ?_
        have lp : ∀ (r : Nat) (f : Nat → Int32), r ≤ 7 → ROk f → dvF (gN (sg 45)) r f = dvF (gN (sg 45)) 7 (ccR (sg 45)) → dvB (gN (sg 45)) r f = dvB (gN (sg 45)) 7 (ccR (sg 45)) → G z w 5 (us (us sg 50 (fun d => whX ((sg 45) (6 + d)) (dN (sg 45) d + 1))) 45 f) tu 51 [(3, .int (nI r + (-1))), (2, .int (sg 45 34)), (1, .int (nI (gsm (gN (sg 45)) 6))), (0, .ref (ad w 44))] [] := by
          intro r
          induction r with
          | zero =>
            intro f hr hf hd hbb
            rw [hb] at hbb
            cases hbb
          | succ r ih =>
            intro f hr hf hd hbb
            refine g_eq (L' := [(3, .int (nI r)), (2, .int (sg 45 34)), (1, .int (nI (gsm (gN (sg 45)) 6))), (0, .ref (ad w 44))]) rfl rfl (by rw [pk_m1]) rfl ?_
            refine g_iload_n C 0 rfl rfl dX5_doesDivide_51 ?_
            refine g_if_lt C (tgt := 87) (by decide) dX5_doesDivide_52 (fun h52 => absurd h52 (nI_pos (by omega))) (fun h52 => ?_)
            refine g_aload_n C 3 rfl rfl dX5_doesDivide_55 ?_
            refine g_getR C (j := 0) cls5 e_44 rfl (by decide) fl_X5_7 dX5_doesDivide_56 ?_
            refine g_bipush C (v := (nI 31)) (by decide) dX5_doesDivide_59 ?_
            refine g_iload_n C 0 rfl rfl dX5_doesDivide_61 ?_
            refine g_iastN C 31 e_45 (by decide) (by decide) dX5_doesDivide_62 ?_
            refine g_sgE (sg' := (us (us sg 50 (fun d => whX ((sg 45) (6 + d)) (dN (sg 45) d + 1))) 45 (upd f 31 (nI r)))) us_us ?_
            refine g_sgE (sg' := (us (us sg 50 (fun d => whX ((sg 45) (6 + d)) (dN (sg 45) d + 1))) 45 (upd f 31 (nI r)))) rfl ?_
            refine g_aload_n C 3 rfl rfl dX5_doesDivide_63 ?_
            refine g_callV1 [] C (c_X5_downs0 w tu (us (us sg 50 (fun d => whX ((sg 45) (6 + d)) (dN (sg 45) d + 1))) 45 (upd f 31 (nI r)))  (gN (sg 45)) (sh_ok hf (by omega)) (fun d h => (gN_ok hok h).1) (fun _ h => (gN_ok hok h).2)) mt_X5_downs0 e_44 rfl ml_X5_86 im_X5_downs0 se_X5_downs0 (by decide) rfl (Nat.le_of_ble_eq_true rfl) dX5_doesDivide_64 ?_
            refine g_eq (sg' := (us (us (us sg 50 (fun d => whX ((sg 45) (6 + d)) (dN (sg 45) d + 1))) 45 (upd f 31 (nI r))) 45 (dwn (gN (sg 45)) 20 (upd f 31 (nI r))))) (L' := [(3, .int (nI r)), (2, .int (sg 45 34)), (1, .int (nI (gsm (gN (sg 45)) 6))), (0, .ref (ad w 44))]) (S' := [.int (bI (dwB (gN (sg 45)) 20 (upd f 31 (nI r)) = true))]) rfl rfl rfl rfl ?_
            refine g_sgE (sg' := (us (us sg 50 (fun d => whX ((sg 45) (6 + d)) (dN (sg 45) d + 1))) 45 (dwn (gN (sg 45)) 20 (upd f 31 (nI r))))) us_us ?_
            refine g_bif_ne C (tgt := 73) (by decide) dX5_doesDivide_67 (fun h67 => ?_) (fun h67 => ?_)
            ·
              refine g_aload_n C 3 rfl rfl dX5_doesDivide_73 ?_
              refine g_iconst C (v := (nI 1)) (by decide) dX5_doesDivide_74 ?_
              refine g_iconst C (v := (-1)) (by decide) dX5_doesDivide_75 ?_
              refine g_callV1 [] C (c_X5_turnsOnce_up w tu (us (us sg 50 (fun d => whX ((sg 45) (6 + d)) (dN (sg 45) d + 1))) 45 (dwn (gN (sg 45)) 20 (upd f 31 (nI r)))) (-1) (gN (sg 45)) (dwn_ok (fun _ h => (gN_ok hok h).2) 20 _ (sh_ok hf (by omega))) (fun d h => (gN_ok hok h).1) (fun _ h => (gN_ok hok h).2)) mt_X5_turnsOnce e_44 rfl ml_X5_70 im_X5_turnsOnce se_X5_turnsOnce (by decide) rfl (Nat.le_of_ble_eq_true rfl) dX5_doesDivide_76 ?_
              refine g_eq (sg' := (us (us (us sg 50 (fun d => whX ((sg 45) (6 + d)) (dN (sg 45) d + 1))) 45 (dwn (gN (sg 45)) 20 (upd f 31 (nI r)))) 45 (tR true (-1) (gN (sg 45)) (dwn (gN (sg 45)) 20 (upd f 31 (nI r)))))) (L' := [(3, .int (nI r)), (2, .int (sg 45 34)), (1, .int (nI (gsm (gN (sg 45)) 6))), (0, .ref (ad w 44))]) (S' := [.int (bI (blP true (wN (dwn (gN (sg 45)) 20 (upd f 31 (nI r)))) (gN (sg 45)) (sN (dwn (gN (sg 45)) 20 (upd f 31 (nI r)))) (sN (dwn (gN (sg 45)) 20 (upd f 31 (nI r))) + 5 + reN (dwn (gN (sg 45)) 20 (upd f 31 (nI r))))))]) rfl rfl rfl rfl ?_
              refine g_istore C (L' := [(4, .int (bI (blP true (wN (dwn (gN (sg 45)) 20 (upd f 31 (nI r)))) (gN (sg 45)) (sN (dwn (gN (sg 45)) 20 (upd f 31 (nI r)))) (sN (dwn (gN (sg 45)) 20 (upd f 31 (nI r))) + 5 + reN (dwn (gN (sg 45)) 20 (upd f 31 (nI r))))))), (3, .int (nI r)), (2, .int (sg 45 34)), (1, .int (nI (gsm (gN (sg 45)) 6))), (0, .ref (ad w 44))]) (by decide) rfl dX5_doesDivide_79 ?_
              refine g_iinc C (n := -1) (v := ((nI r) + (-1))) (L' := [(3, .int ((nI r) + (-1))), (4, .int (bI (blP true (wN (dwn (gN (sg 45)) 20 (upd f 31 (nI r)))) (gN (sg 45)) (sN (dwn (gN (sg 45)) 20 (upd f 31 (nI r)))) (sN (dwn (gN (sg 45)) 20 (upd f 31 (nI r))) + 5 + reN (dwn (gN (sg 45)) 20 (upd f 31 (nI r))))))), (2, .int (sg 45 34)), (1, .int (nI (gsm (gN (sg 45)) 6))), (0, .ref (ad w 44))]) 1 rfl rfl (by decide) rfl dX5_doesDivide_81 ?_
              refine g_goto C (tgt := 51) (by decide) dX5_doesDivide_84 ?_
              refine g_sub (L' := [(3, .int ((nI r) + (-1))), (2, .int (sg 45 34)), (1, .int (nI (gsm (gN (sg 45)) 6))), (0, .ref (ad w 44))]) [0, 2, 3, 4] rfl ?_
              refine g_sgE (sg' := (us (us sg 50 (fun d => whX ((sg 45) (6 + d)) (dN (sg 45) d + 1))) 45 (tR true (-1) (gN (sg 45)) (dwn (gN (sg 45)) 20 (upd f 31 (nI r)))))) us_us ?_
              exact ih _ (by omega) (dv_step_ok hf (fun _ h => (gN_ok hok h).2) (by omega)) (by rw [← hd, dvF_t h67]) (by rw [← hbb, dvB_t h67])
            ·
              refine g_bipush C (v := (-3)) (by decide) dX5_doesDivide_70 ?_
              exact g_iret C E dX5_doesDivide_72 rfl (Sq.of (by rw [← hd, dvF_f h67])) rfl
        refine g_eq (L' := [(3, .int (nI 7 + (-1))), (2, .int (sg 45 34)), (1, .int (nI (gsm (gN (sg 45)) 6))), (0, .ref (ad w 44))]) rfl rfl rfl rfl ?_
        refine g_sub (L' := [(3, .int (nI 7 + (-1))), (2, .int (sg 45 34)), (1, .int (nI (gsm (gN (sg 45)) 6))), (0, .ref (ad w 44))]) [0, 1, 2, 3] rfl ?_
        exact lp 7 _ (Nat.le_refl _) (ccR_ok hok) rfl rfl
      ·
        refine g_iload_n C 1 rfl rfl dX5_doesDivide_14 ?_
        refine g_aload_n C 2 rfl rfl dX5_doesDivide_15 ?_
        refine g_getR C (j := 7) cls5 e_44 rfl (by decide) fl_X5_25 dX5_doesDivide_16 ?_
        refine g_iload_n C 0 rfl rfl dX5_doesDivide_19 ?_
        refine g_ialdN C i e_50 (by omega) (by decide) dX5_doesDivide_20 ?_
        refine g_top (y := ((fun d => whX ((sg 45) (6 + d)) ((dN (sg 45)) d + 1)) i)) rfl ?_
        refine g_top (y := (nI (gN (sg 45) i))) (gN_ok hok (by omega)).1 ?_
        refine g_iadd C dX5_doesDivide_21 ?_
        refine g_top (y := (nI ((gsm (gN (sg 45)) i) + (gN (sg 45) i)))) (nI_add (gsm (gN (sg 45)) i) (gN (sg 45) i)) ?_
        refine g_istore_n C (L' := [(1, .int (nI ((gsm (gN (sg 45)) i) + (gN (sg 45) i)))), (2, .int (nI i)), (0, .ref (ad w 44))]) rfl (by decide) rfl dX5_doesDivide_22 ?_
        refine g_iinc C (n := 1) (v := (nI (i + 1))) (L' := [(2, .int (nI (i + 1))), (1, .int (nI ((gsm (gN (sg 45)) i) + (gN (sg 45) i)))), (0, .ref (ad w 44))]) 1 rfl (nI_add i 1) (by decide) rfl dX5_doesDivide_23 ?_
        refine g_goto C (tgt := 8) (by decide) dX5_doesDivide_26 ?_
        refine g_sub (L' := [(2, .int (nI (i + 1))), (1, .int (nI ((gsm (gN (sg 45)) i) + (gN (sg 45) i)))), (0, .ref (ad w 44))]) [0, 1, 2] rfl ?_
        refine g_eq (L' := [(2, .int (nI (i + 1))), (1, .int (nI (gsm (gN (sg 45)) (i + 1)))), (0, .ref (ad w 44))]) rfl rfl rfl rfl ?_
        exact ihlps (i + 1)  (by omega) (by omega) trivial
  exact lps (6 + 1) 0  (by omega) (by omega) trivial
