set_option maxRecDepth 100000 in
set_option maxHeartbeats 400000 in
theorem c_X3_explain_0 (w : GW) (tu : Int64) (sg : Sg) (v : Int64) (n : Nat) (hn : n ≤ 99) (hok : ROk (rowC sg 1)) : Kt w yX3_explain cX3_explain 13 (some .int) 1 [.ref (ad w 1), .long v, .int (nI n), .int (nI 0)] sg tu (some (.int ((ex6 v n (rowC sg 1) 6).1))) sg tu := by
  refine Kt.of2 RX3 rfl [(0, .ref (ad w 1)), (1, .long v), (3, .int (nI n)), (4, .int (nI 0))] (by decide) rfl (Nat.le_of_ble_eq_true rfl) (fun z C E => ?_)
  have hng := ng_dig hok
  have hgt : ∀ d t, gtN (rowC sg 1) d t < 2 ^ 31 := fun d t => gt_lt hok
  refine g_aload_n C 0 rfl rfl dX3_explain_0 ?_
  refine g_getR C (j := 0) cls3 e_1 rfl (by decide) fl_X3_9 dX3_explain_1 ?_
  refine g_callN1 [] C (c_X4_number_dig w tu sg  ) mt_X4_number nl_X3_53 st_X4_number (by decide) rfl (Nat.le_of_ble_eq_true rfl) dX3_explain_4 ?_
  refine g_eq (L' := [(0, .ref (ad w 1)), (1, .long v), (3, .int (nI n)), (4, .int (nI 0))]) (S' := [.long (vlY (sg 2) 6 0)]) rfl rfl rfl rfl ?_
  refine g_l2i C dX3_explain_7 ?_
  refine g_top (y := (nI (ngX (dN (rowC sg 1)) 6 0))) (p_all hok) ?_
  refine g_istore C (L' := [(5, .int (nI (ngX (dN (rowC sg 1)) 6 0))), (0, .ref (ad w 1)), (1, .long v), (3, .int (nI n)), (4, .int (nI 0))]) (by decide) rfl dX3_explain_8 ?_
  refine g_iconst C (v := (nI 0)) (by decide) dX3_explain_10 ?_
  refine g_istore C (L' := [(6, .int (nI 0)), (5, .int (nI (ngX (dN (rowC sg 1)) 6 0))), (0, .ref (ad w 1)), (1, .long v), (3, .int (nI n)), (4, .int (nI 0))]) (by decide) rfl dX3_explain_11 ?_
  refine g_iconst C (v := (-1)) (by decide) dX3_explain_13 ?_
  refine g_istore C (L' := [(7, .int (-1)), (6, .int (nI 0)), (5, .int (nI (ngX (dN (rowC sg 1)) 6 0))), (0, .ref (ad w 1)), (1, .long v), (3, .int (nI n)), (4, .int (nI 0))]) (by decide) rfl dX3_explain_14 ?_
  refine g_iconst C (v := (-1)) (by decide) dX3_explain_16 ?_
  refine g_istore C (L' := [(8, .int (-1)), (7, .int (-1)), (6, .int (nI 0)), (5, .int (nI (ngX (dN (rowC sg 1)) 6 0))), (0, .ref (ad w 1)), (1, .long v), (3, .int (nI n)), (4, .int (nI 0))]) (by decide) rfl dX3_explain_17 ?_
  refine g_iconst C (v := (nI 1)) (by decide) dX3_explain_19 ?_
  refine g_istore C (L' := [(9, .int (nI 1)), (8, .int (-1)), (7, .int (-1)), (6, .int (nI 0)), (5, .int (nI (ngX (dN (rowC sg 1)) 6 0))), (0, .ref (ad w 1)), (1, .long v), (3, .int (nI n)), (4, .int (nI 0))]) (by decide) rfl dX3_explain_20 ?_
  refine g_iconst C (v := (nI 0)) (by decide) dX3_explain_22 ?_
  refine g_istore C (L' := [(10, .int (nI 0)), (9, .int (nI 1)), (8, .int (-1)), (7, .int (-1)), (6, .int (nI 0)), (5, .int (nI (ngX (dN (rowC sg 1)) 6 0))), (0, .ref (ad w 1)), (1, .long v), (3, .int (nI n)), (4, .int (nI 0))]) (by decide) rfl dX3_explain_23 ?_
  have lpd : ∀ (nf d : Nat) (m : Int32) (l : Int32) (gr : Int32), 6 < d + nf → d ≤ 6 → (ex6 v n (rowC sg 1) d = (m, l, gr)) → G z w 13 sg tu 25 [(10, .int (nI d)), (9, .int (nI (10 ^ d))), (8, .int gr), (7, .int l), (6, .int m), (5, .int (nI (ngX (dN (rowC sg 1)) 6 0))), (0, .ref (ad w 1)), (1, .long v), (3, .int (nI n)), (4, .int (nI 0))] [] := by
    intro nf
    induction nf with
    | zero => intro d m l gr h1 h2 hI; exact absurd h1 (by omega)
    | succ nf ihlpd =>
      intro d m l gr h1 h2 hI
      refine g_iload C 0 rfl dX3_explain_25 ?_
      refine g_bipush C (v := (nI 6)) (by decide) dX3_explain_27 ?_
      refine g_icmpN_ge C d 6 (by omega) (by omega) (tgt := 125) (by decide) dX3_explain_29 (fun h29 => ?_) (fun h29 => ?_)
      ·
        have hiN : 6 = d := by omega
        subst hiN
        refine g_iload C 9 rfl dX3_explain_125 ?_
        refine g_if_ne C (tgt := 133) (by decide) dX3_explain_127 (fun h127 => absurd h127 (by decide)) (fun h127 => ?_)
        refine g_iload C 4 rfl dX3_explain_130 ?_
        exact g_iret C E dX3_explain_132 (by rw [hI]) Sq.rf rfl
      ·
        refine g_iconst C (v := (nI 1)) (by decide) dX3_explain_32 ?_
        refine g_istore C (L' := [(11, .int (nI 1)), (10, .int (nI d)), (9, .int (nI (10 ^ d))), (8, .int gr), (7, .int l), (6, .int m), (5, .int (nI (ngX (dN (rowC sg 1)) 6 0))), (0, .ref (ad w 1)), (1, .long v), (3, .int (nI n)), (4, .int (nI 0))]) (by decide) rfl dX3_explain_33 ?_
        have hd6 : d < 6 := by omega
        have hd9 := (hok.1 d hd6).2
        have lpt : ∀ (nf t : Nat) (m : Int32) (l : Int32) (gr : Int32), 10 < t + nf → t ≤ 10 → (1 ≤ t ∧ ex1 v n (rowC sg 1) d (t - 1) (ex6 v n (rowC sg 1) d) = (m, l, gr)) → G z w 13 sg tu 35 [(11, .int (nI t)), (10, .int (nI d)), (9, .int (nI (10 ^ d))), (8, .int gr), (7, .int l), (6, .int m), (5, .int (nI (ngX (dN (rowC sg 1)) 6 0))), (0, .ref (ad w 1)), (1, .long v), (3, .int (nI n)), (4, .int (nI 0))] [] := by
          intro nf
          induction nf with
          | zero => intro t m l gr h1 h2 hI; exact absurd h1 (by omega)
          | succ nf ihlpt =>
            intro t m l gr h1 h2 hI
            have hM := hI
            refine g_iload C 0 rfl dX3_explain_35 ?_
            refine g_bipush C (v := (nI 9)) (by decide) dX3_explain_37 ?_
            refine g_icmpN_gt C t 9 (by omega) (by omega) (tgt := 112) (by decide) dX3_explain_39 (fun h39 => ?_) (fun h39 => ?_)
            ·
              have hiN : 10 = t := by omega
              subst hiN
              have hI : ex6 v n (rowC sg 1) (d + 1) = (m, l, gr) := hI.2
              refine g_iload C 2 rfl dX3_explain_112 ?_
              refine g_bipush C (v := (nI 10)) (by decide) dX3_explain_114 ?_
              refine g_imul C dX3_explain_116 ?_
              refine g_top (y := (nI ((10 ^ d) * 10))) (pk_mul (10 ^ d) 10) ?_
              refine g_istore C (L' := [(9, .int (nI ((10 ^ d) * 10))), (11, .int (nI 10)), (10, .int (nI d)), (8, .int gr), (7, .int l), (6, .int m), (5, .int (nI (ngX (dN (rowC sg 1)) 6 0))), (0, .ref (ad w 1)), (1, .long v), (3, .int (nI n)), (4, .int (nI 0))]) (by decide) rfl dX3_explain_117 ?_
              refine g_iinc C (n := 1) (v := (nI (d + 1))) (L' := [(10, .int (nI (d + 1))), (9, .int (nI ((10 ^ d) * 10))), (11, .int (nI 10)), (8, .int gr), (7, .int l), (6, .int m), (5, .int (nI (ngX (dN (rowC sg 1)) 6 0))), (0, .ref (ad w 1)), (1, .long v), (3, .int (nI n)), (4, .int (nI 0))]) 2 rfl (nI_add d 1) (by decide) rfl dX3_explain_119 ?_
              refine g_goto C (tgt := 25) (by decide) dX3_explain_122 ?_
              refine g_sub (L' := [(10, .int (nI (d + 1))), (9, .int (nI ((10 ^ d) * 10))), (8, .int gr), (7, .int l), (6, .int m), (5, .int (nI (ngX (dN (rowC sg 1)) 6 0))), (0, .ref (ad w 1)), (1, .long v), (3, .int (nI n)), (4, .int (nI 0))]) [0, 1, 3, 4, 5, 6, 7, 8, 9, 10] rfl ?_
              refine g_eq (L' := [(10, .int (nI (d + 1))), (9, .int (nI (10 ^ (d + 1)))), (8, .int gr), (7, .int l), (6, .int m), (5, .int (nI (ngX (dN (rowC sg 1)) 6 0))), (0, .ref (ad w 1)), (1, .long v), (3, .int (nI n)), (4, .int (nI 0))]) rfl rfl rfl rfl ?_
              exact ihlpd (d + 1) m l gr (by omega) (by omega) hI
            ·
              refine g_iload C 0 rfl dX3_explain_42 ?_
              refine g_aload_n C 7 rfl rfl dX3_explain_44 ?_
              refine g_getR C (j := 0) cls3 e_1 rfl (by decide) fl_X3_9 dX3_explain_45 ?_
              refine g_iload C 1 rfl dX3_explain_48 ?_
              refine g_ialdN C d e_2 hd6 (by decide) dX3_explain_50 ?_
              refine g_top (y := (nI (dN (rowC sg 1) d))) ((rowC_d (sg := sg) (w := 1) hd6).symm.trans (hok.1 d hd6).1) ?_
              refine g_icmpN_gt C t (dN (rowC sg 1) d) (by omega) (by omega) (tgt := 62) (by decide) dX3_explain_51 (fun h51 => ?_) (fun h51 => ?_)
              ·
                refine g_iload C 6 rfl dX3_explain_62 ?_
                refine g_top (y := (nI (gtN (rowC sg 1) d t))) (by unfold gtN; rw [if_neg (by omega)]) ?_
                refine g_istore C (L' := [(12, .int (nI (gtN (rowC sg 1) d t))), (11, .int (nI t)), (10, .int (nI d)), (9, .int (nI (10 ^ d))), (8, .int gr), (7, .int l), (6, .int m), (5, .int (nI (ngX (dN (rowC sg 1)) 6 0))), (0, .ref (ad w 1)), (1, .long v), (3, .int (nI n)), (4, .int (nI 0))]) (by decide) rfl dX3_explain_64 ?_
                refine g_aload_n C 8 rfl rfl dX3_explain_66 ?_
                refine g_iload C 0 rfl dX3_explain_67 ?_
                refine g_iload_n C 10 rfl rfl dX3_explain_69 ?_
                refine g_callV1 [] C (c_X3_tried w tu sg (gtN (rowC sg 1) d t) n (reN (rowC sg 1)) (hgt d t) hn ((rowC_f (sg := sg) (w := 1) (j := 5) (by omega)).symm.trans hok.2.2.2.2.1) hok.2.2.2.2.2) mt_X3_tried e_1 rfl ml_X3_124 im_X3_tried se_X3_tried (by decide) rfl (Nat.le_of_ble_eq_true rfl) dX3_explain_70 ?_
                refine g_eq (L' := [(12, .int (nI (gtN (rowC sg 1) d t))), (11, .int (nI t)), (10, .int (nI d)), (9, .int (nI (10 ^ d))), (8, .int gr), (7, .int l), (6, .int m), (5, .int (nI (ngX (dN (rowC sg 1)) 6 0))), (0, .ref (ad w 1)), (1, .long v), (3, .int (nI n)), (4, .int (nI 0))]) (S' := [.long (trC (reN (rowC sg 1)) (gtN (rowC sg 1) d t) n)]) rfl rfl rfl rfl ?_
                refine g_topl (y := (trv (gw (rowC sg 1) d t) (reN (rowC sg 1)) n)) (p_exp hok hM.1 (by omega) hd6 hn) ?_
                refine g_lload_n C 9 rfl rfl dX3_explain_73 ?_
                refine g_lcmp C dX3_explain_74 ?_
                refine g_lif_ne C (tgt := 106) (by decide) dX3_explain_75 (fun h75 => ?_) (fun h75 => ?_)
                ·
                  refine g_iinc C (n := 1) (v := (nI (t + 1))) (L' := [(11, .int (nI (t + 1))), (12, .int (nI (gtN (rowC sg 1) d t))), (10, .int (nI d)), (9, .int (nI (10 ^ d))), (8, .int gr), (7, .int l), (6, .int m), (5, .int (nI (ngX (dN (rowC sg 1)) 6 0))), (0, .ref (ad w 1)), (1, .long v), (3, .int (nI n)), (4, .int (nI 0))]) 1 rfl (nI_add t 1) (by decide) rfl dX3_explain_106 ?_
                  refine g_goto C (tgt := 35) (by decide) dX3_explain_109 ?_
                  refine g_sub (L' := [(11, .int (nI (t + 1))), (10, .int (nI d)), (9, .int (nI (10 ^ d))), (8, .int gr), (7, .int l), (6, .int m), (5, .int (nI (ngX (dN (rowC sg 1)) 6 0))), (0, .ref (ad w 1)), (1, .long v), (3, .int (nI n)), (4, .int (nI 0))]) [0, 2, 3, 4, 5, 6, 7, 8, 9, 10, 11] rfl ?_
                  exact ihlpt (t + 1) m l gr (by omega) (by omega) (⟨by omega, by rw [show t + 1 - 1 = t from rfl, ex1_s hM.1, hM.2, exS_n h75]⟩)
                ·
                  refine g_iinc C (n := 1) (v := (m + 1)) (L' := [(6, .int (m + 1)), (12, .int (nI (gtN (rowC sg 1) d t))), (11, .int (nI t)), (10, .int (nI d)), (9, .int (nI (10 ^ d))), (8, .int gr), (7, .int l), (5, .int (nI (ngX (dN (rowC sg 1)) 6 0))), (0, .ref (ad w 1)), (1, .long v), (3, .int (nI n)), (4, .int (nI 0))]) 6 rfl rfl (by decide) rfl dX3_explain_78 ?_
                  refine g_bipush C (v := (nI 10)) (by decide) dX3_explain_81 ?_
                  refine g_iload C 3 rfl dX3_explain_83 ?_
                  refine g_imul C dX3_explain_85 ?_
                  refine g_top (y := (nI (10 * d))) (pk_mul 10 d) ?_
                  refine g_iload C 2 rfl dX3_explain_86 ?_
                  refine g_iadd C dX3_explain_88 ?_
                  refine g_top (y := (nI ((10 * d) + t))) (nI_add (10 * d) t) ?_
                  refine g_istore C (L' := [(8, .int (nI ((10 * d) + t))), (6, .int (m + 1)), (12, .int (nI (gtN (rowC sg 1) d t))), (11, .int (nI t)), (10, .int (nI d)), (9, .int (nI (10 ^ d))), (7, .int l), (5, .int (nI (ngX (dN (rowC sg 1)) 6 0))), (0, .ref (ad w 1)), (1, .long v), (3, .int (nI n)), (4, .int (nI 0))]) (by decide) rfl dX3_explain_89 ?_
                  refine g_iload C 6 rfl dX3_explain_91 ?_
                  refine g_iconst C (v := (-1)) (by decide) dX3_explain_93 ?_
                  refine g_icmp_ne C (tgt := 102) (by decide) dX3_explain_94 (fun h94 => ?_) (fun h94 => ?_)
                  ·
                    refine g_iload C 6 rfl dX3_explain_102 ?_
                    refine g_istore C (L' := [(7, .int l), (8, .int (nI ((10 * d) + t))), (6, .int (m + 1)), (12, .int (nI (gtN (rowC sg 1) d t))), (11, .int (nI t)), (10, .int (nI d)), (9, .int (nI (10 ^ d))), (5, .int (nI (ngX (dN (rowC sg 1)) 6 0))), (0, .ref (ad w 1)), (1, .long v), (3, .int (nI n)), (4, .int (nI 0))]) (by decide) rfl dX3_explain_104 ?_
                    refine g_iinc C (n := 1) (v := (nI (t + 1))) (L' := [(11, .int (nI (t + 1))), (7, .int l), (8, .int (nI ((10 * d) + t))), (6, .int (m + 1)), (12, .int (nI (gtN (rowC sg 1) d t))), (10, .int (nI d)), (9, .int (nI (10 ^ d))), (5, .int (nI (ngX (dN (rowC sg 1)) 6 0))), (0, .ref (ad w 1)), (1, .long v), (3, .int (nI n)), (4, .int (nI 0))]) 4 rfl (nI_add t 1) (by decide) rfl dX3_explain_106 ?_
                    refine g_goto C (tgt := 35) (by decide) dX3_explain_109 ?_
                    refine g_sub (L' := [(11, .int (nI (t + 1))), (10, .int (nI d)), (9, .int (nI (10 ^ d))), (8, .int (nI ((10 * d) + t))), (7, .int l), (6, .int (m + 1)), (5, .int (nI (ngX (dN (rowC sg 1)) 6 0))), (0, .ref (ad w 1)), (1, .long v), (3, .int (nI n)), (4, .int (nI 0))]) [0, 5, 6, 2, 1, 3, 7, 8, 9, 10, 11] rfl ?_
                    exact ihlpt (t + 1) (m + 1) l (nI ((10 * d) + t)) (by omega) (by omega) (⟨by omega, by rw [show t + 1 - 1 = t from rfl, ex1_s hM.1, hM.2, exS_y h75, if_neg h94]; rfl⟩)
                  ·
                    refine g_iload C 0 rfl dX3_explain_97 ?_
                    refine g_goto C (tgt := 104) (by decide) dX3_explain_99 ?_
                    refine g_istore C (L' := [(7, .int (nI ((10 * d) + t))), (8, .int (nI ((10 * d) + t))), (6, .int (m + 1)), (12, .int (nI (gtN (rowC sg 1) d t))), (11, .int (nI t)), (10, .int (nI d)), (9, .int (nI (10 ^ d))), (5, .int (nI (ngX (dN (rowC sg 1)) 6 0))), (0, .ref (ad w 1)), (1, .long v), (3, .int (nI n)), (4, .int (nI 0))]) (by decide) rfl dX3_explain_104 ?_
                    refine g_iinc C (n := 1) (v := (nI (t + 1))) (L' := [(11, .int (nI (t + 1))), (7, .int (nI ((10 * d) + t))), (8, .int (nI ((10 * d) + t))), (6, .int (m + 1)), (12, .int (nI (gtN (rowC sg 1) d t))), (10, .int (nI d)), (9, .int (nI (10 ^ d))), (5, .int (nI (ngX (dN (rowC sg 1)) 6 0))), (0, .ref (ad w 1)), (1, .long v), (3, .int (nI n)), (4, .int (nI 0))]) 4 rfl (nI_add t 1) (by decide) rfl dX3_explain_106 ?_
                    refine g_goto C (tgt := 35) (by decide) dX3_explain_109 ?_
                    refine g_sub (L' := [(11, .int (nI (t + 1))), (10, .int (nI d)), (9, .int (nI (10 ^ d))), (8, .int (nI ((10 * d) + t))), (7, .int (nI ((10 * d) + t))), (6, .int (m + 1)), (5, .int (nI (ngX (dN (rowC sg 1)) 6 0))), (0, .ref (ad w 1)), (1, .long v), (3, .int (nI n)), (4, .int (nI 0))]) [0, 5, 6, 2, 1, 3, 7, 8, 9, 10, 11] rfl ?_
                    exact ihlpt (t + 1) (m + 1) (nI ((10 * d) + t)) (nI ((10 * d) + t)) (by omega) (by omega) (⟨by omega, by rw [show t + 1 - 1 = t from rfl, ex1_s hM.1, hM.2, exS_y h75, if_pos h94]; rfl⟩)
              ·
                refine g_iload C 6 rfl dX3_explain_54 ?_
                refine g_iload C 2 rfl dX3_explain_56 ?_
                refine g_isub C dX3_explain_58 ?_
                refine g_goto C (tgt := 64) (by decide) dX3_explain_59 ?_
                refine g_top (y := (nI (gtN (rowC sg 1) d t))) (by unfold gtN; rw [if_pos h51]; exact pk_sub (gt_ge hM.1 hd6 h51)) ?_
                refine g_istore C (L' := [(12, .int (nI (gtN (rowC sg 1) d t))), (11, .int (nI t)), (10, .int (nI d)), (9, .int (nI (10 ^ d))), (8, .int gr), (7, .int l), (6, .int m), (5, .int (nI (ngX (dN (rowC sg 1)) 6 0))), (0, .ref (ad w 1)), (1, .long v), (3, .int (nI n)), (4, .int (nI 0))]) (by decide) rfl dX3_explain_64 ?_
                refine g_aload_n C 8 rfl rfl dX3_explain_66 ?_
                refine g_iload C 0 rfl dX3_explain_67 ?_
                refine g_iload_n C 10 rfl rfl dX3_explain_69 ?_
                refine g_callV1 [] C (c_X3_tried w tu sg (gtN (rowC sg 1) d t) n (reN (rowC sg 1)) (hgt d t) hn ((rowC_f (sg := sg) (w := 1) (j := 5) (by omega)).symm.trans hok.2.2.2.2.1) hok.2.2.2.2.2) mt_X3_tried e_1 rfl ml_X3_124 im_X3_tried se_X3_tried (by decide) rfl (Nat.le_of_ble_eq_true rfl) dX3_explain_70 ?_
                refine g_eq (L' := [(12, .int (nI (gtN (rowC sg 1) d t))), (11, .int (nI t)), (10, .int (nI d)), (9, .int (nI (10 ^ d))), (8, .int gr), (7, .int l), (6, .int m), (5, .int (nI (ngX (dN (rowC sg 1)) 6 0))), (0, .ref (ad w 1)), (1, .long v), (3, .int (nI n)), (4, .int (nI 0))]) (S' := [.long (trC (reN (rowC sg 1)) (gtN (rowC sg 1) d t) n)]) rfl rfl rfl rfl ?_
                refine g_topl (y := (trv (gw (rowC sg 1) d t) (reN (rowC sg 1)) n)) (p_exp hok hM.1 (by omega) hd6 hn) ?_
                refine g_lload_n C 9 rfl rfl dX3_explain_73 ?_
                refine g_lcmp C dX3_explain_74 ?_
                refine g_lif_ne C (tgt := 106) (by decide) dX3_explain_75 (fun h75 => ?_) (fun h75 => ?_)
                ·
                  refine g_iinc C (n := 1) (v := (nI (t + 1))) (L' := [(11, .int (nI (t + 1))), (12, .int (nI (gtN (rowC sg 1) d t))), (10, .int (nI d)), (9, .int (nI (10 ^ d))), (8, .int gr), (7, .int l), (6, .int m), (5, .int (nI (ngX (dN (rowC sg 1)) 6 0))), (0, .ref (ad w 1)), (1, .long v), (3, .int (nI n)), (4, .int (nI 0))]) 1 rfl (nI_add t 1) (by decide) rfl dX3_explain_106 ?_
                  refine g_goto C (tgt := 35) (by decide) dX3_explain_109 ?_
                  refine g_sub (L' := [(11, .int (nI (t + 1))), (10, .int (nI d)), (9, .int (nI (10 ^ d))), (8, .int gr), (7, .int l), (6, .int m), (5, .int (nI (ngX (dN (rowC sg 1)) 6 0))), (0, .ref (ad w 1)), (1, .long v), (3, .int (nI n)), (4, .int (nI 0))]) [0, 2, 3, 4, 5, 6, 7, 8, 9, 10, 11] rfl ?_
                  exact ihlpt (t + 1) m l gr (by omega) (by omega) (⟨by omega, by rw [show t + 1 - 1 = t from rfl, ex1_s hM.1, hM.2, exS_n h75]⟩)
                ·
                  refine g_iinc C (n := 1) (v := (m + 1)) (L' := [(6, .int (m + 1)), (12, .int (nI (gtN (rowC sg 1) d t))), (11, .int (nI t)), (10, .int (nI d)), (9, .int (nI (10 ^ d))), (8, .int gr), (7, .int l), (5, .int (nI (ngX (dN (rowC sg 1)) 6 0))), (0, .ref (ad w 1)), (1, .long v), (3, .int (nI n)), (4, .int (nI 0))]) 6 rfl rfl (by decide) rfl dX3_explain_78 ?_
                  refine g_bipush C (v := (nI 10)) (by decide) dX3_explain_81 ?_
                  refine g_iload C 3 rfl dX3_explain_83 ?_
                  refine g_imul C dX3_explain_85 ?_
                  refine g_top (y := (nI (10 * d))) (pk_mul 10 d) ?_
                  refine g_iload C 2 rfl dX3_explain_86 ?_
                  refine g_iadd C dX3_explain_88 ?_
                  refine g_top (y := (nI ((10 * d) + t))) (nI_add (10 * d) t) ?_
                  refine g_istore C (L' := [(8, .int (nI ((10 * d) + t))), (6, .int (m + 1)), (12, .int (nI (gtN (rowC sg 1) d t))), (11, .int (nI t)), (10, .int (nI d)), (9, .int (nI (10 ^ d))), (7, .int l), (5, .int (nI (ngX (dN (rowC sg 1)) 6 0))), (0, .ref (ad w 1)), (1, .long v), (3, .int (nI n)), (4, .int (nI 0))]) (by decide) rfl dX3_explain_89 ?_
                  refine g_iload C 6 rfl dX3_explain_91 ?_
                  refine g_iconst C (v := (-1)) (by decide) dX3_explain_93 ?_
                  refine g_icmp_ne C (tgt := 102) (by decide) dX3_explain_94 (fun h94 => ?_) (fun h94 => ?_)
                  ·
                    refine g_iload C 6 rfl dX3_explain_102 ?_
                    refine g_istore C (L' := [(7, .int l), (8, .int (nI ((10 * d) + t))), (6, .int (m + 1)), (12, .int (nI (gtN (rowC sg 1) d t))), (11, .int (nI t)), (10, .int (nI d)), (9, .int (nI (10 ^ d))), (5, .int (nI (ngX (dN (rowC sg 1)) 6 0))), (0, .ref (ad w 1)), (1, .long v), (3, .int (nI n)), (4, .int (nI 0))]) (by decide) rfl dX3_explain_104 ?_
                    refine g_iinc C (n := 1) (v := (nI (t + 1))) (L' := [(11, .int (nI (t + 1))), (7, .int l), (8, .int (nI ((10 * d) + t))), (6, .int (m + 1)), (12, .int (nI (gtN (rowC sg 1) d t))), (10, .int (nI d)), (9, .int (nI (10 ^ d))), (5, .int (nI (ngX (dN (rowC sg 1)) 6 0))), (0, .ref (ad w 1)), (1, .long v), (3, .int (nI n)), (4, .int (nI 0))]) 4 rfl (nI_add t 1) (by decide) rfl dX3_explain_106 ?_
                    refine g_goto C (tgt := 35) (by decide) dX3_explain_109 ?_
                    refine g_sub (L' := [(11, .int (nI (t + 1))), (10, .int (nI d)), (9, .int (nI (10 ^ d))), (8, .int (nI ((10 * d) + t))), (7, .int l), (6, .int (m + 1)), (5, .int (nI (ngX (dN (rowC sg 1)) 6 0))), (0, .ref (ad w 1)), (1, .long v), (3, .int (nI n)), (4, .int (nI 0))]) [0, 5, 6, 2, 1, 3, 7, 8, 9, 10, 11] rfl ?_
                    exact ihlpt (t + 1) (m + 1) l (nI ((10 * d) + t)) (by omega) (by omega) (⟨by omega, by rw [show t + 1 - 1 = t from rfl, ex1_s hM.1, hM.2, exS_y h75, if_neg h94]; rfl⟩)
                  ·
                    refine g_iload C 0 rfl dX3_explain_97 ?_
                    refine g_goto C (tgt := 104) (by decide) dX3_explain_99 ?_
                    refine g_istore C (L' := [(7, .int (nI ((10 * d) + t))), (8, .int (nI ((10 * d) + t))), (6, .int (m + 1)), (12, .int (nI (gtN (rowC sg 1) d t))), (11, .int (nI t)), (10, .int (nI d)), (9, .int (nI (10 ^ d))), (5, .int (nI (ngX (dN (rowC sg 1)) 6 0))), (0, .ref (ad w 1)), (1, .long v), (3, .int (nI n)), (4, .int (nI 0))]) (by decide) rfl dX3_explain_104 ?_
                    refine g_iinc C (n := 1) (v := (nI (t + 1))) (L' := [(11, .int (nI (t + 1))), (7, .int (nI ((10 * d) + t))), (8, .int (nI ((10 * d) + t))), (6, .int (m + 1)), (12, .int (nI (gtN (rowC sg 1) d t))), (10, .int (nI d)), (9, .int (nI (10 ^ d))), (5, .int (nI (ngX (dN (rowC sg 1)) 6 0))), (0, .ref (ad w 1)), (1, .long v), (3, .int (nI n)), (4, .int (nI 0))]) 4 rfl (nI_add t 1) (by decide) rfl dX3_explain_106 ?_
                    refine g_goto C (tgt := 35) (by decide) dX3_explain_109 ?_
                    refine g_sub (L' := [(11, .int (nI (t + 1))), (10, .int (nI d)), (9, .int (nI (10 ^ d))), (8, .int (nI ((10 * d) + t))), (7, .int (nI ((10 * d) + t))), (6, .int (m + 1)), (5, .int (nI (ngX (dN (rowC sg 1)) 6 0))), (0, .ref (ad w 1)), (1, .long v), (3, .int (nI n)), (4, .int (nI 0))]) [0, 5, 6, 2, 1, 3, 7, 8, 9, 10, 11] rfl ?_
                    exact ihlpt (t + 1) (m + 1) (nI ((10 * d) + t)) (nI ((10 * d) + t)) (by omega) (by omega) (⟨by omega, by rw [show t + 1 - 1 = t from rfl, ex1_s hM.1, hM.2, exS_y h75, if_pos h94]; rfl⟩)
        refine g_sub (L' := [(11, .int (nI 1)), (10, .int (nI d)), (9, .int (nI (10 ^ d))), (8, .int gr), (7, .int l), (6, .int m), (5, .int (nI (ngX (dN (rowC sg 1)) 6 0))), (0, .ref (ad w 1)), (1, .long v), (3, .int (nI n)), (4, .int (nI 0))]) [0, 1, 2, 3, 4, 5, 6, 7, 8, 9, 10] rfl ?_
        exact lpt (10 + 1) 1 m l gr (by omega) (by omega) (⟨Nat.le_refl _, hI⟩)
  refine g_sub (L' := [(10, .int (nI 0)), (9, .int (nI 1)), (8, .int (-1)), (7, .int (-1)), (6, .int (nI 0)), (5, .int (nI (ngX (dN (rowC sg 1)) 6 0))), (0, .ref (ad w 1)), (1, .long v), (3, .int (nI n)), (4, .int (nI 0))]) [0, 1, 2, 3, 4, 5, 6, 7, 8, 9] rfl ?_
  exact lpd (6 + 1) 0 (nI 0) (-1) (-1) (by omega) (by omega) rfl
set_option maxRecDepth 100000 in
set_option maxHeartbeats 400000 in
theorem c_X3_explain_1 (w : GW) (tu : Int64) (sg : Sg) (v : Int64) (n : Nat) (hn : n ≤ 99) (hok : ROk (rowC sg 1)) : Kt w yX3_explain cX3_explain 13 (some .int) 1 [.ref (ad w 1), .long v, .int (nI n), .int (nI 1)] sg tu (some (.int ((ex6 v n (rowC sg 1) 6).2.1))) sg tu := by
  refine Kt.of2 RX3 rfl [(0, .ref (ad w 1)), (1, .long v), (3, .int (nI n)), (4, .int (nI 1))] (by decide) rfl (Nat.le_of_ble_eq_true rfl) (fun z C E => ?_)
  have hng := ng_dig hok
  have hgt : ∀ d t, gtN (rowC sg 1) d t < 2 ^ 31 := fun d t => gt_lt hok
  refine g_aload_n C 0 rfl rfl dX3_explain_0 ?_
  refine g_getR C (j := 0) cls3 e_1 rfl (by decide) fl_X3_9 dX3_explain_1 ?_
  refine g_callN1 [] C (c_X4_number_dig w tu sg  ) mt_X4_number nl_X3_53 st_X4_number (by decide) rfl (Nat.le_of_ble_eq_true rfl) dX3_explain_4 ?_
  refine g_eq (L' := [(0, .ref (ad w 1)), (1, .long v), (3, .int (nI n)), (4, .int (nI 1))]) (S' := [.long (vlY (sg 2) 6 0)]) rfl rfl rfl rfl ?_
  refine g_l2i C dX3_explain_7 ?_
  refine g_top (y := (nI (ngX (dN (rowC sg 1)) 6 0))) (p_all hok) ?_
  refine g_istore C (L' := [(5, .int (nI (ngX (dN (rowC sg 1)) 6 0))), (0, .ref (ad w 1)), (1, .long v), (3, .int (nI n)), (4, .int (nI 1))]) (by decide) rfl dX3_explain_8 ?_
  refine g_iconst C (v := (nI 0)) (by decide) dX3_explain_10 ?_
  refine g_istore C (L' := [(6, .int (nI 0)), (5, .int (nI (ngX (dN (rowC sg 1)) 6 0))), (0, .ref (ad w 1)), (1, .long v), (3, .int (nI n)), (4, .int (nI 1))]) (by decide) rfl dX3_explain_11 ?_
  refine g_iconst C (v := (-1)) (by decide) dX3_explain_13 ?_
  refine g_istore C (L' := [(7, .int (-1)), (6, .int (nI 0)), (5, .int (nI (ngX (dN (rowC sg 1)) 6 0))), (0, .ref (ad w 1)), (1, .long v), (3, .int (nI n)), (4, .int (nI 1))]) (by decide) rfl dX3_explain_14 ?_
  refine g_iconst C (v := (-1)) (by decide) dX3_explain_16 ?_
  refine g_istore C (L' := [(8, .int (-1)), (7, .int (-1)), (6, .int (nI 0)), (5, .int (nI (ngX (dN (rowC sg 1)) 6 0))), (0, .ref (ad w 1)), (1, .long v), (3, .int (nI n)), (4, .int (nI 1))]) (by decide) rfl dX3_explain_17 ?_
  refine g_iconst C (v := (nI 1)) (by decide) dX3_explain_19 ?_
  refine g_istore C (L' := [(9, .int (nI 1)), (8, .int (-1)), (7, .int (-1)), (6, .int (nI 0)), (5, .int (nI (ngX (dN (rowC sg 1)) 6 0))), (0, .ref (ad w 1)), (1, .long v), (3, .int (nI n)), (4, .int (nI 1))]) (by decide) rfl dX3_explain_20 ?_
  refine g_iconst C (v := (nI 0)) (by decide) dX3_explain_22 ?_
  refine g_istore C (L' := [(10, .int (nI 0)), (9, .int (nI 1)), (8, .int (-1)), (7, .int (-1)), (6, .int (nI 0)), (5, .int (nI (ngX (dN (rowC sg 1)) 6 0))), (0, .ref (ad w 1)), (1, .long v), (3, .int (nI n)), (4, .int (nI 1))]) (by decide) rfl dX3_explain_23 ?_
  have lpd : ∀ (nf d : Nat) (m : Int32) (l : Int32) (gr : Int32), 6 < d + nf → d ≤ 6 → (ex6 v n (rowC sg 1) d = (m, l, gr)) → G z w 13 sg tu 25 [(10, .int (nI d)), (9, .int (nI (10 ^ d))), (8, .int gr), (7, .int l), (6, .int m), (5, .int (nI (ngX (dN (rowC sg 1)) 6 0))), (0, .ref (ad w 1)), (1, .long v), (3, .int (nI n)), (4, .int (nI 1))] [] := by
    intro nf
    induction nf with
    | zero => intro d m l gr h1 h2 hI; exact absurd h1 (by omega)
    | succ nf ihlpd =>
      intro d m l gr h1 h2 hI
      refine g_iload C 0 rfl dX3_explain_25 ?_
      refine g_bipush C (v := (nI 6)) (by decide) dX3_explain_27 ?_
      refine g_icmpN_ge C d 6 (by omega) (by omega) (tgt := 125) (by decide) dX3_explain_29 (fun h29 => ?_) (fun h29 => ?_)
      ·
        have hiN : 6 = d := by omega
        subst hiN
        refine g_iload C 9 rfl dX3_explain_125 ?_
        refine g_if_ne C (tgt := 133) (by decide) dX3_explain_127 (fun h127 => ?_) (fun h127 => absurd h127 (by decide))
        refine g_iload C 9 rfl dX3_explain_133 ?_
        refine g_iconst C (v := (nI 1)) (by decide) dX3_explain_135 ?_
        refine g_icmpN_ne C 1 1 (by omega) (by omega) (tgt := 144) (by decide) dX3_explain_136 (fun h136 => absurd h136 (by decide)) (fun h136 => ?_)
        refine g_iload C 3 rfl dX3_explain_139 ?_
        refine g_goto C (tgt := 146) (by decide) dX3_explain_141 ?_
        exact g_iret C E dX3_explain_146 (by rw [hI]) Sq.rf rfl
      ·
        refine g_iconst C (v := (nI 1)) (by decide) dX3_explain_32 ?_
        refine g_istore C (L' := [(11, .int (nI 1)), (10, .int (nI d)), (9, .int (nI (10 ^ d))), (8, .int gr), (7, .int l), (6, .int m), (5, .int (nI (ngX (dN (rowC sg 1)) 6 0))), (0, .ref (ad w 1)), (1, .long v), (3, .int (nI n)), (4, .int (nI 1))]) (by decide) rfl dX3_explain_33 ?_
        have hd6 : d < 6 := by omega
        have hd9 := (hok.1 d hd6).2
        have lpt : ∀ (nf t : Nat) (m : Int32) (l : Int32) (gr : Int32), 10 < t + nf → t ≤ 10 → (1 ≤ t ∧ ex1 v n (rowC sg 1) d (t - 1) (ex6 v n (rowC sg 1) d) = (m, l, gr)) → G z w 13 sg tu 35 [(11, .int (nI t)), (10, .int (nI d)), (9, .int (nI (10 ^ d))), (8, .int gr), (7, .int l), (6, .int m), (5, .int (nI (ngX (dN (rowC sg 1)) 6 0))), (0, .ref (ad w 1)), (1, .long v), (3, .int (nI n)), (4, .int (nI 1))] [] := by
          intro nf
          induction nf with
          | zero => intro t m l gr h1 h2 hI; exact absurd h1 (by omega)
          | succ nf ihlpt =>
            intro t m l gr h1 h2 hI
            have hM := hI
            refine g_iload C 0 rfl dX3_explain_35 ?_
            refine g_bipush C (v := (nI 9)) (by decide) dX3_explain_37 ?_
            refine g_icmpN_gt C t 9 (by omega) (by omega) (tgt := 112) (by decide) dX3_explain_39 (fun h39 => ?_) (fun h39 => ?_)
            ·
              have hiN : 10 = t := by omega
              subst hiN
              have hI : ex6 v n (rowC sg 1) (d + 1) = (m, l, gr) := hI.2
              refine g_iload C 2 rfl dX3_explain_112 ?_
              refine g_bipush C (v := (nI 10)) (by decide) dX3_explain_114 ?_
              refine g_imul C dX3_explain_116 ?_
              refine g_top (y := (nI ((10 ^ d) * 10))) (pk_mul (10 ^ d) 10) ?_
              refine g_istore C (L' := [(9, .int (nI ((10 ^ d) * 10))), (11, .int (nI 10)), (10, .int (nI d)), (8, .int gr), (7, .int l), (6, .int m), (5, .int (nI (ngX (dN (rowC sg 1)) 6 0))), (0, .ref (ad w 1)), (1, .long v), (3, .int (nI n)), (4, .int (nI 1))]) (by decide) rfl dX3_explain_117 ?_
              refine g_iinc C (n := 1) (v := (nI (d + 1))) (L' := [(10, .int (nI (d + 1))), (9, .int (nI ((10 ^ d) * 10))), (11, .int (nI 10)), (8, .int gr), (7, .int l), (6, .int m), (5, .int (nI (ngX (dN (rowC sg 1)) 6 0))), (0, .ref (ad w 1)), (1, .long v), (3, .int (nI n)), (4, .int (nI 1))]) 2 rfl (nI_add d 1) (by decide) rfl dX3_explain_119 ?_
              refine g_goto C (tgt := 25) (by decide) dX3_explain_122 ?_
              refine g_sub (L' := [(10, .int (nI (d + 1))), (9, .int (nI ((10 ^ d) * 10))), (8, .int gr), (7, .int l), (6, .int m), (5, .int (nI (ngX (dN (rowC sg 1)) 6 0))), (0, .ref (ad w 1)), (1, .long v), (3, .int (nI n)), (4, .int (nI 1))]) [0, 1, 3, 4, 5, 6, 7, 8, 9, 10] rfl ?_
              refine g_eq (L' := [(10, .int (nI (d + 1))), (9, .int (nI (10 ^ (d + 1)))), (8, .int gr), (7, .int l), (6, .int m), (5, .int (nI (ngX (dN (rowC sg 1)) 6 0))), (0, .ref (ad w 1)), (1, .long v), (3, .int (nI n)), (4, .int (nI 1))]) rfl rfl rfl rfl ?_
              exact ihlpd (d + 1) m l gr (by omega) (by omega) hI
            ·
              refine g_iload C 0 rfl dX3_explain_42 ?_
              refine g_aload_n C 7 rfl rfl dX3_explain_44 ?_
              refine g_getR C (j := 0) cls3 e_1 rfl (by decide) fl_X3_9 dX3_explain_45 ?_
              refine g_iload C 1 rfl dX3_explain_48 ?_
              refine g_ialdN C d e_2 hd6 (by decide) dX3_explain_50 ?_
              refine g_top (y := (nI (dN (rowC sg 1) d))) ((rowC_d (sg := sg) (w := 1) hd6).symm.trans (hok.1 d hd6).1) ?_
              refine g_icmpN_gt C t (dN (rowC sg 1) d) (by omega) (by omega) (tgt := 62) (by decide) dX3_explain_51 (fun h51 => ?_) (fun h51 => ?_)
              ·
                refine g_iload C 6 rfl dX3_explain_62 ?_
                refine g_top (y := (nI (gtN (rowC sg 1) d t))) (by unfold gtN; rw [if_neg (by omega)]) ?_
                refine g_istore C (L' := [(12, .int (nI (gtN (rowC sg 1) d t))), (11, .int (nI t)), (10, .int (nI d)), (9, .int (nI (10 ^ d))), (8, .int gr), (7, .int l), (6, .int m), (5, .int (nI (ngX (dN (rowC sg 1)) 6 0))), (0, .ref (ad w 1)), (1, .long v), (3, .int (nI n)), (4, .int (nI 1))]) (by decide) rfl dX3_explain_64 ?_
                refine g_aload_n C 8 rfl rfl dX3_explain_66 ?_
                refine g_iload C 0 rfl dX3_explain_67 ?_
                refine g_iload_n C 10 rfl rfl dX3_explain_69 ?_
                refine g_callV1 [] C (c_X3_tried w tu sg (gtN (rowC sg 1) d t) n (reN (rowC sg 1)) (hgt d t) hn ((rowC_f (sg := sg) (w := 1) (j := 5) (by omega)).symm.trans hok.2.2.2.2.1) hok.2.2.2.2.2) mt_X3_tried e_1 rfl ml_X3_124 im_X3_tried se_X3_tried (by decide) rfl (Nat.le_of_ble_eq_true rfl) dX3_explain_70 ?_
                refine g_eq (L' := [(12, .int (nI (gtN (rowC sg 1) d t))), (11, .int (nI t)), (10, .int (nI d)), (9, .int (nI (10 ^ d))), (8, .int gr), (7, .int l), (6, .int m), (5, .int (nI (ngX (dN (rowC sg 1)) 6 0))), (0, .ref (ad w 1)), (1, .long v), (3, .int (nI n)), (4, .int (nI 1))]) (S' := [.long (trC (reN (rowC sg 1)) (gtN (rowC sg 1) d t) n)]) rfl rfl rfl rfl ?_
                refine g_topl (y := (trv (gw (rowC sg 1) d t) (reN (rowC sg 1)) n)) (p_exp hok hM.1 (by omega) hd6 hn) ?_
                refine g_lload_n C 9 rfl rfl dX3_explain_73 ?_
                refine g_lcmp C dX3_explain_74 ?_
                refine g_lif_ne C (tgt := 106) (by decide) dX3_explain_75 (fun h75 => ?_) (fun h75 => ?_)
                ·
                  refine g_iinc C (n := 1) (v := (nI (t + 1))) (L' := [(11, .int (nI (t + 1))), (12, .int (nI (gtN (rowC sg 1) d t))), (10, .int (nI d)), (9, .int (nI (10 ^ d))), (8, .int gr), (7, .int l), (6, .int m), (5, .int (nI (ngX (dN (rowC sg 1)) 6 0))), (0, .ref (ad w 1)), (1, .long v), (3, .int (nI n)), (4, .int (nI 1))]) 1 rfl (nI_add t 1) (by decide) rfl dX3_explain_106 ?_
                  refine g_goto C (tgt := 35) (by decide) dX3_explain_109 ?_
                  refine g_sub (L' := [(11, .int (nI (t + 1))), (10, .int (nI d)), (9, .int (nI (10 ^ d))), (8, .int gr), (7, .int l), (6, .int m), (5, .int (nI (ngX (dN (rowC sg 1)) 6 0))), (0, .ref (ad w 1)), (1, .long v), (3, .int (nI n)), (4, .int (nI 1))]) [0, 2, 3, 4, 5, 6, 7, 8, 9, 10, 11] rfl ?_
                  exact ihlpt (t + 1) m l gr (by omega) (by omega) (⟨by omega, by rw [show t + 1 - 1 = t from rfl, ex1_s hM.1, hM.2, exS_n h75]⟩)
                ·
                  refine g_iinc C (n := 1) (v := (m + 1)) (L' := [(6, .int (m + 1)), (12, .int (nI (gtN (rowC sg 1) d t))), (11, .int (nI t)), (10, .int (nI d)), (9, .int (nI (10 ^ d))), (8, .int gr), (7, .int l), (5, .int (nI (ngX (dN (rowC sg 1)) 6 0))), (0, .ref (ad w 1)), (1, .long v), (3, .int (nI n)), (4, .int (nI 1))]) 6 rfl rfl (by decide) rfl dX3_explain_78 ?_
                  refine g_bipush C (v := (nI 10)) (by decide) dX3_explain_81 ?_
                  refine g_iload C 3 rfl dX3_explain_83 ?_
                  refine g_imul C dX3_explain_85 ?_
                  refine g_top (y := (nI (10 * d))) (pk_mul 10 d) ?_
                  refine g_iload C 2 rfl dX3_explain_86 ?_
                  refine g_iadd C dX3_explain_88 ?_
                  refine g_top (y := (nI ((10 * d) + t))) (nI_add (10 * d) t) ?_
                  refine g_istore C (L' := [(8, .int (nI ((10 * d) + t))), (6, .int (m + 1)), (12, .int (nI (gtN (rowC sg 1) d t))), (11, .int (nI t)), (10, .int (nI d)), (9, .int (nI (10 ^ d))), (7, .int l), (5, .int (nI (ngX (dN (rowC sg 1)) 6 0))), (0, .ref (ad w 1)), (1, .long v), (3, .int (nI n)), (4, .int (nI 1))]) (by decide) rfl dX3_explain_89 ?_
                  refine g_iload C 6 rfl dX3_explain_91 ?_
                  refine g_iconst C (v := (-1)) (by decide) dX3_explain_93 ?_
                  refine g_icmp_ne C (tgt := 102) (by decide) dX3_explain_94 (fun h94 => ?_) (fun h94 => ?_)
                  ·
                    refine g_iload C 6 rfl dX3_explain_102 ?_
                    refine g_istore C (L' := [(7, .int l), (8, .int (nI ((10 * d) + t))), (6, .int (m + 1)), (12, .int (nI (gtN (rowC sg 1) d t))), (11, .int (nI t)), (10, .int (nI d)), (9, .int (nI (10 ^ d))), (5, .int (nI (ngX (dN (rowC sg 1)) 6 0))), (0, .ref (ad w 1)), (1, .long v), (3, .int (nI n)), (4, .int (nI 1))]) (by decide) rfl dX3_explain_104 ?_
                    refine g_iinc C (n := 1) (v := (nI (t + 1))) (L' := [(11, .int (nI (t + 1))), (7, .int l), (8, .int (nI ((10 * d) + t))), (6, .int (m + 1)), (12, .int (nI (gtN (rowC sg 1) d t))), (10, .int (nI d)), (9, .int (nI (10 ^ d))), (5, .int (nI (ngX (dN (rowC sg 1)) 6 0))), (0, .ref (ad w 1)), (1, .long v), (3, .int (nI n)), (4, .int (nI 1))]) 4 rfl (nI_add t 1) (by decide) rfl dX3_explain_106 ?_
                    refine g_goto C (tgt := 35) (by decide) dX3_explain_109 ?_
                    refine g_sub (L' := [(11, .int (nI (t + 1))), (10, .int (nI d)), (9, .int (nI (10 ^ d))), (8, .int (nI ((10 * d) + t))), (7, .int l), (6, .int (m + 1)), (5, .int (nI (ngX (dN (rowC sg 1)) 6 0))), (0, .ref (ad w 1)), (1, .long v), (3, .int (nI n)), (4, .int (nI 1))]) [0, 5, 6, 2, 1, 3, 7, 8, 9, 10, 11] rfl ?_
                    exact ihlpt (t + 1) (m + 1) l (nI ((10 * d) + t)) (by omega) (by omega) (⟨by omega, by rw [show t + 1 - 1 = t from rfl, ex1_s hM.1, hM.2, exS_y h75, if_neg h94]; rfl⟩)
                  ·
                    refine g_iload C 0 rfl dX3_explain_97 ?_
                    refine g_goto C (tgt := 104) (by decide) dX3_explain_99 ?_
                    refine g_istore C (L' := [(7, .int (nI ((10 * d) + t))), (8, .int (nI ((10 * d) + t))), (6, .int (m + 1)), (12, .int (nI (gtN (rowC sg 1) d t))), (11, .int (nI t)), (10, .int (nI d)), (9, .int (nI (10 ^ d))), (5, .int (nI (ngX (dN (rowC sg 1)) 6 0))), (0, .ref (ad w 1)), (1, .long v), (3, .int (nI n)), (4, .int (nI 1))]) (by decide) rfl dX3_explain_104 ?_
                    refine g_iinc C (n := 1) (v := (nI (t + 1))) (L' := [(11, .int (nI (t + 1))), (7, .int (nI ((10 * d) + t))), (8, .int (nI ((10 * d) + t))), (6, .int (m + 1)), (12, .int (nI (gtN (rowC sg 1) d t))), (10, .int (nI d)), (9, .int (nI (10 ^ d))), (5, .int (nI (ngX (dN (rowC sg 1)) 6 0))), (0, .ref (ad w 1)), (1, .long v), (3, .int (nI n)), (4, .int (nI 1))]) 4 rfl (nI_add t 1) (by decide) rfl dX3_explain_106 ?_
                    refine g_goto C (tgt := 35) (by decide) dX3_explain_109 ?_
                    refine g_sub (L' := [(11, .int (nI (t + 1))), (10, .int (nI d)), (9, .int (nI (10 ^ d))), (8, .int (nI ((10 * d) + t))), (7, .int (nI ((10 * d) + t))), (6, .int (m + 1)), (5, .int (nI (ngX (dN (rowC sg 1)) 6 0))), (0, .ref (ad w 1)), (1, .long v), (3, .int (nI n)), (4, .int (nI 1))]) [0, 5, 6, 2, 1, 3, 7, 8, 9, 10, 11] rfl ?_
                    exact ihlpt (t + 1) (m + 1) (nI ((10 * d) + t)) (nI ((10 * d) + t)) (by omega) (by omega) (⟨by omega, by rw [show t + 1 - 1 = t from rfl, ex1_s hM.1, hM.2, exS_y h75, if_pos h94]; rfl⟩)
              ·
                refine g_iload C 6 rfl dX3_explain_54 ?_
                refine g_iload C 2 rfl dX3_explain_56 ?_
                refine g_isub C dX3_explain_58 ?_
                refine g_goto C (tgt := 64) (by decide) dX3_explain_59 ?_
                refine g_top (y := (nI (gtN (rowC sg 1) d t))) (by unfold gtN; rw [if_pos h51]; exact pk_sub (gt_ge hM.1 hd6 h51)) ?_
                refine g_istore C (L' := [(12, .int (nI (gtN (rowC sg 1) d t))), (11, .int (nI t)), (10, .int (nI d)), (9, .int (nI (10 ^ d))), (8, .int gr), (7, .int l), (6, .int m), (5, .int (nI (ngX (dN (rowC sg 1)) 6 0))), (0, .ref (ad w 1)), (1, .long v), (3, .int (nI n)), (4, .int (nI 1))]) (by decide) rfl dX3_explain_64 ?_
                refine g_aload_n C 8 rfl rfl dX3_explain_66 ?_
                refine g_iload C 0 rfl dX3_explain_67 ?_
                refine g_iload_n C 10 rfl rfl dX3_explain_69 ?_
                refine g_callV1 [] C (c_X3_tried w tu sg (gtN (rowC sg 1) d t) n (reN (rowC sg 1)) (hgt d t) hn ((rowC_f (sg := sg) (w := 1) (j := 5) (by omega)).symm.trans hok.2.2.2.2.1) hok.2.2.2.2.2) mt_X3_tried e_1 rfl ml_X3_124 im_X3_tried se_X3_tried (by decide) rfl (Nat.le_of_ble_eq_true rfl) dX3_explain_70 ?_
                refine g_eq (L' := [(12, .int (nI (gtN (rowC sg 1) d t))), (11, .int (nI t)), (10, .int (nI d)), (9, .int (nI (10 ^ d))), (8, .int gr), (7, .int l), (6, .int m), (5, .int (nI (ngX (dN (rowC sg 1)) 6 0))), (0, .ref (ad w 1)), (1, .long v), (3, .int (nI n)), (4, .int (nI 1))]) (S' := [.long (trC (reN (rowC sg 1)) (gtN (rowC sg 1) d t) n)]) rfl rfl rfl rfl ?_
                refine g_topl (y := (trv (gw (rowC sg 1) d t) (reN (rowC sg 1)) n)) (p_exp hok hM.1 (by omega) hd6 hn) ?_
                refine g_lload_n C 9 rfl rfl dX3_explain_73 ?_
                refine g_lcmp C dX3_explain_74 ?_
                refine g_lif_ne C (tgt := 106) (by decide) dX3_explain_75 (fun h75 => ?_) (fun h75 => ?_)
                ·
                  refine g_iinc C (n := 1) (v := (nI (t + 1))) (L' := [(11, .int (nI (t + 1))), (12, .int (nI (gtN (rowC sg 1) d t))), (10, .int (nI d)), (9, .int (nI (10 ^ d))), (8, .int gr), (7, .int l), (6, .int m), (5, .int (nI (ngX (dN (rowC sg 1)) 6 0))), (0, .ref (ad w 1)), (1, .long v), (3, .int (nI n)), (4, .int (nI 1))]) 1 rfl (nI_add t 1) (by decide) rfl dX3_explain_106 ?_
                  refine g_goto C (tgt := 35) (by decide) dX3_explain_109 ?_
                  refine g_sub (L' := [(11, .int (nI (t + 1))), (10, .int (nI d)), (9, .int (nI (10 ^ d))), (8, .int gr), (7, .int l), (6, .int m), (5, .int (nI (ngX (dN (rowC sg 1)) 6 0))), (0, .ref (ad w 1)), (1, .long v), (3, .int (nI n)), (4, .int (nI 1))]) [0, 2, 3, 4, 5, 6, 7, 8, 9, 10, 11] rfl ?_
                  exact ihlpt (t + 1) m l gr (by omega) (by omega) (⟨by omega, by rw [show t + 1 - 1 = t from rfl, ex1_s hM.1, hM.2, exS_n h75]⟩)
                ·
                  refine g_iinc C (n := 1) (v := (m + 1)) (L' := [(6, .int (m + 1)), (12, .int (nI (gtN (rowC sg 1) d t))), (11, .int (nI t)), (10, .int (nI d)), (9, .int (nI (10 ^ d))), (8, .int gr), (7, .int l), (5, .int (nI (ngX (dN (rowC sg 1)) 6 0))), (0, .ref (ad w 1)), (1, .long v), (3, .int (nI n)), (4, .int (nI 1))]) 6 rfl rfl (by decide) rfl dX3_explain_78 ?_
                  refine g_bipush C (v := (nI 10)) (by decide) dX3_explain_81 ?_
                  refine g_iload C 3 rfl dX3_explain_83 ?_
                  refine g_imul C dX3_explain_85 ?_
                  refine g_top (y := (nI (10 * d))) (pk_mul 10 d) ?_
                  refine g_iload C 2 rfl dX3_explain_86 ?_
                  refine g_iadd C dX3_explain_88 ?_
                  refine g_top (y := (nI ((10 * d) + t))) (nI_add (10 * d) t) ?_
                  refine g_istore C (L' := [(8, .int (nI ((10 * d) + t))), (6, .int (m + 1)), (12, .int (nI (gtN (rowC sg 1) d t))), (11, .int (nI t)), (10, .int (nI d)), (9, .int (nI (10 ^ d))), (7, .int l), (5, .int (nI (ngX (dN (rowC sg 1)) 6 0))), (0, .ref (ad w 1)), (1, .long v), (3, .int (nI n)), (4, .int (nI 1))]) (by decide) rfl dX3_explain_89 ?_
                  refine g_iload C 6 rfl dX3_explain_91 ?_
                  refine g_iconst C (v := (-1)) (by decide) dX3_explain_93 ?_
                  refine g_icmp_ne C (tgt := 102) (by decide) dX3_explain_94 (fun h94 => ?_) (fun h94 => ?_)
                  ·
                    refine g_iload C 6 rfl dX3_explain_102 ?_
                    refine g_istore C (L' := [(7, .int l), (8, .int (nI ((10 * d) + t))), (6, .int (m + 1)), (12, .int (nI (gtN (rowC sg 1) d t))), (11, .int (nI t)), (10, .int (nI d)), (9, .int (nI (10 ^ d))), (5, .int (nI (ngX (dN (rowC sg 1)) 6 0))), (0, .ref (ad w 1)), (1, .long v), (3, .int (nI n)), (4, .int (nI 1))]) (by decide) rfl dX3_explain_104 ?_
                    refine g_iinc C (n := 1) (v := (nI (t + 1))) (L' := [(11, .int (nI (t + 1))), (7, .int l), (8, .int (nI ((10 * d) + t))), (6, .int (m + 1)), (12, .int (nI (gtN (rowC sg 1) d t))), (10, .int (nI d)), (9, .int (nI (10 ^ d))), (5, .int (nI (ngX (dN (rowC sg 1)) 6 0))), (0, .ref (ad w 1)), (1, .long v), (3, .int (nI n)), (4, .int (nI 1))]) 4 rfl (nI_add t 1) (by decide) rfl dX3_explain_106 ?_
                    refine g_goto C (tgt := 35) (by decide) dX3_explain_109 ?_
                    refine g_sub (L' := [(11, .int (nI (t + 1))), (10, .int (nI d)), (9, .int (nI (10 ^ d))), (8, .int (nI ((10 * d) + t))), (7, .int l), (6, .int (m + 1)), (5, .int (nI (ngX (dN (rowC sg 1)) 6 0))), (0, .ref (ad w 1)), (1, .long v), (3, .int (nI n)), (4, .int (nI 1))]) [0, 5, 6, 2, 1, 3, 7, 8, 9, 10, 11] rfl ?_
                    exact ihlpt (t + 1) (m + 1) l (nI ((10 * d) + t)) (by omega) (by omega) (⟨by omega, by rw [show t + 1 - 1 = t from rfl, ex1_s hM.1, hM.2, exS_y h75, if_neg h94]; rfl⟩)
                  ·
                    refine g_iload C 0 rfl dX3_explain_97 ?_
                    refine g_goto C (tgt := 104) (by decide) dX3_explain_99 ?_
                    refine g_istore C (L' := [(7, .int (nI ((10 * d) + t))), (8, .int (nI ((10 * d) + t))), (6, .int (m + 1)), (12, .int (nI (gtN (rowC sg 1) d t))), (11, .int (nI t)), (10, .int (nI d)), (9, .int (nI (10 ^ d))), (5, .int (nI (ngX (dN (rowC sg 1)) 6 0))), (0, .ref (ad w 1)), (1, .long v), (3, .int (nI n)), (4, .int (nI 1))]) (by decide) rfl dX3_explain_104 ?_
                    refine g_iinc C (n := 1) (v := (nI (t + 1))) (L' := [(11, .int (nI (t + 1))), (7, .int (nI ((10 * d) + t))), (8, .int (nI ((10 * d) + t))), (6, .int (m + 1)), (12, .int (nI (gtN (rowC sg 1) d t))), (10, .int (nI d)), (9, .int (nI (10 ^ d))), (5, .int (nI (ngX (dN (rowC sg 1)) 6 0))), (0, .ref (ad w 1)), (1, .long v), (3, .int (nI n)), (4, .int (nI 1))]) 4 rfl (nI_add t 1) (by decide) rfl dX3_explain_106 ?_
                    refine g_goto C (tgt := 35) (by decide) dX3_explain_109 ?_
                    refine g_sub (L' := [(11, .int (nI (t + 1))), (10, .int (nI d)), (9, .int (nI (10 ^ d))), (8, .int (nI ((10 * d) + t))), (7, .int (nI ((10 * d) + t))), (6, .int (m + 1)), (5, .int (nI (ngX (dN (rowC sg 1)) 6 0))), (0, .ref (ad w 1)), (1, .long v), (3, .int (nI n)), (4, .int (nI 1))]) [0, 5, 6, 2, 1, 3, 7, 8, 9, 10, 11] rfl ?_
                    exact ihlpt (t + 1) (m + 1) (nI ((10 * d) + t)) (nI ((10 * d) + t)) (by omega) (by omega) (⟨by omega, by rw [show t + 1 - 1 = t from rfl, ex1_s hM.1, hM.2, exS_y h75, if_pos h94]; rfl⟩)
        refine g_sub (L' := [(11, .int (nI 1)), (10, .int (nI d)), (9, .int (nI (10 ^ d))), (8, .int gr), (7, .int l), (6, .int m), (5, .int (nI (ngX (dN (rowC sg 1)) 6 0))), (0, .ref (ad w 1)), (1, .long v), (3, .int (nI n)), (4, .int (nI 1))]) [0, 1, 2, 3, 4, 5, 6, 7, 8, 9, 10] rfl ?_
        exact lpt (10 + 1) 1 m l gr (by omega) (by omega) (⟨Nat.le_refl _, hI⟩)
  refine g_sub (L' := [(10, .int (nI 0)), (9, .int (nI 1)), (8, .int (-1)), (7, .int (-1)), (6, .int (nI 0)), (5, .int (nI (ngX (dN (rowC sg 1)) 6 0))), (0, .ref (ad w 1)), (1, .long v), (3, .int (nI n)), (4, .int (nI 1))]) [0, 1, 2, 3, 4, 5, 6, 7, 8, 9] rfl ?_
  exact lpd (6 + 1) 0 (nI 0) (-1) (-1) (by omega) (by omega) rfl
set_option maxRecDepth 100000 in
set_option maxHeartbeats 400000 in
theorem c_X3_explain_2 (w : GW) (tu : Int64) (sg : Sg) (v : Int64) (n : Nat) (hn : n ≤ 99) (hok : ROk (rowC sg 1)) : Kt w yX3_explain cX3_explain 13 (some .int) 1 [.ref (ad w 1), .long v, .int (nI n), .int (nI 2)] sg tu (some (.int ((ex6 v n (rowC sg 1) 6).2.2))) sg tu := by
  refine Kt.of2 RX3 rfl [(0, .ref (ad w 1)), (1, .long v), (3, .int (nI n)), (4, .int (nI 2))] (by decide) rfl (Nat.le_of_ble_eq_true rfl) (fun z C E => ?_)
  have hng := ng_dig hok
  have hgt : ∀ d t, gtN (rowC sg 1) d t < 2 ^ 31 := fun d t => gt_lt hok
  refine g_aload_n C 0 rfl rfl dX3_explain_0 ?_
  refine g_getR C (j := 0) cls3 e_1 rfl (by decide) fl_X3_9 dX3_explain_1 ?_
  refine g_callN1 [] C (c_X4_number_dig w tu sg  ) mt_X4_number nl_X3_53 st_X4_number (by decide) rfl (Nat.le_of_ble_eq_true rfl) dX3_explain_4 ?_
  refine g_eq (L' := [(0, .ref (ad w 1)), (1, .long v), (3, .int (nI n)), (4, .int (nI 2))]) (S' := [.long (vlY (sg 2) 6 0)]) rfl rfl rfl rfl ?_
  refine g_l2i C dX3_explain_7 ?_
  refine g_top (y := (nI (ngX (dN (rowC sg 1)) 6 0))) (p_all hok) ?_
  refine g_istore C (L' := [(5, .int (nI (ngX (dN (rowC sg 1)) 6 0))), (0, .ref (ad w 1)), (1, .long v), (3, .int (nI n)), (4, .int (nI 2))]) (by decide) rfl dX3_explain_8 ?_
  refine g_iconst C (v := (nI 0)) (by decide) dX3_explain_10 ?_
  refine g_istore C (L' := [(6, .int (nI 0)), (5, .int (nI (ngX (dN (rowC sg 1)) 6 0))), (0, .ref (ad w 1)), (1, .long v), (3, .int (nI n)), (4, .int (nI 2))]) (by decide) rfl dX3_explain_11 ?_
  refine g_iconst C (v := (-1)) (by decide) dX3_explain_13 ?_
  refine g_istore C (L' := [(7, .int (-1)), (6, .int (nI 0)), (5, .int (nI (ngX (dN (rowC sg 1)) 6 0))), (0, .ref (ad w 1)), (1, .long v), (3, .int (nI n)), (4, .int (nI 2))]) (by decide) rfl dX3_explain_14 ?_
  refine g_iconst C (v := (-1)) (by decide) dX3_explain_16 ?_
  refine g_istore C (L' := [(8, .int (-1)), (7, .int (-1)), (6, .int (nI 0)), (5, .int (nI (ngX (dN (rowC sg 1)) 6 0))), (0, .ref (ad w 1)), (1, .long v), (3, .int (nI n)), (4, .int (nI 2))]) (by decide) rfl dX3_explain_17 ?_
  refine g_iconst C (v := (nI 1)) (by decide) dX3_explain_19 ?_
  refine g_istore C (L' := [(9, .int (nI 1)), (8, .int (-1)), (7, .int (-1)), (6, .int (nI 0)), (5, .int (nI (ngX (dN (rowC sg 1)) 6 0))), (0, .ref (ad w 1)), (1, .long v), (3, .int (nI n)), (4, .int (nI 2))]) (by decide) rfl dX3_explain_20 ?_
  refine g_iconst C (v := (nI 0)) (by decide) dX3_explain_22 ?_
  refine g_istore C (L' := [(10, .int (nI 0)), (9, .int (nI 1)), (8, .int (-1)), (7, .int (-1)), (6, .int (nI 0)), (5, .int (nI (ngX (dN (rowC sg 1)) 6 0))), (0, .ref (ad w 1)), (1, .long v), (3, .int (nI n)), (4, .int (nI 2))]) (by decide) rfl dX3_explain_23 ?_
  have lpd : ∀ (nf d : Nat) (m : Int32) (l : Int32) (gr : Int32), 6 < d + nf → d ≤ 6 → (ex6 v n (rowC sg 1) d = (m, l, gr)) → G z w 13 sg tu 25 [(10, .int (nI d)), (9, .int (nI (10 ^ d))), (8, .int gr), (7, .int l), (6, .int m), (5, .int (nI (ngX (dN (rowC sg 1)) 6 0))), (0, .ref (ad w 1)), (1, .long v), (3, .int (nI n)), (4, .int (nI 2))] [] := by
    intro nf
    induction nf with
    | zero => intro d m l gr h1 h2 hI; exact absurd h1 (by omega)
    | succ nf ihlpd =>
      intro d m l gr h1 h2 hI
      refine g_iload C 0 rfl dX3_explain_25 ?_
      refine g_bipush C (v := (nI 6)) (by decide) dX3_explain_27 ?_
      refine g_icmpN_ge C d 6 (by omega) (by omega) (tgt := 125) (by decide) dX3_explain_29 (fun h29 => ?_) (fun h29 => ?_)
      ·
        have hiN : 6 = d := by omega
        subst hiN
        refine g_iload C 9 rfl dX3_explain_125 ?_
        refine g_if_ne C (tgt := 133) (by decide) dX3_explain_127 (fun h127 => ?_) (fun h127 => absurd h127 (by decide))
        refine g_iload C 9 rfl dX3_explain_133 ?_
        refine g_iconst C (v := (nI 1)) (by decide) dX3_explain_135 ?_
        refine g_icmpN_ne C 2 1 (by omega) (by omega) (tgt := 144) (by decide) dX3_explain_136 (fun h136 => ?_) (fun h136 => absurd h136 (by decide))
        refine g_iload C 2 rfl dX3_explain_144 ?_
        exact g_iret C E dX3_explain_146 (by rw [hI]) Sq.rf rfl
      ·
        refine g_iconst C (v := (nI 1)) (by decide) dX3_explain_32 ?_
        refine g_istore C (L' := [(11, .int (nI 1)), (10, .int (nI d)), (9, .int (nI (10 ^ d))), (8, .int gr), (7, .int l), (6, .int m), (5, .int (nI (ngX (dN (rowC sg 1)) 6 0))), (0, .ref (ad w 1)), (1, .long v), (3, .int (nI n)), (4, .int (nI 2))]) (by decide) rfl dX3_explain_33 ?_
        have hd6 : d < 6 := by omega
        have hd9 := (hok.1 d hd6).2
        have lpt : ∀ (nf t : Nat) (m : Int32) (l : Int32) (gr : Int32), 10 < t + nf → t ≤ 10 → (1 ≤ t ∧ ex1 v n (rowC sg 1) d (t - 1) (ex6 v n (rowC sg 1) d) = (m, l, gr)) → G z w 13 sg tu 35 [(11, .int (nI t)), (10, .int (nI d)), (9, .int (nI (10 ^ d))), (8, .int gr), (7, .int l), (6, .int m), (5, .int (nI (ngX (dN (rowC sg 1)) 6 0))), (0, .ref (ad w 1)), (1, .long v), (3, .int (nI n)), (4, .int (nI 2))] [] := by
          intro nf
          induction nf with
          | zero => intro t m l gr h1 h2 hI; exact absurd h1 (by omega)
          | succ nf ihlpt =>
            intro t m l gr h1 h2 hI
            have hM := hI
            refine g_iload C 0 rfl dX3_explain_35 ?_
            refine g_bipush C (v := (nI 9)) (by decide) dX3_explain_37 ?_
            refine g_icmpN_gt C t 9 (by omega) (by omega) (tgt := 112) (by decide) dX3_explain_39 (fun h39 => ?_) (fun h39 => ?_)
            ·
              have hiN : 10 = t := by omega
              subst hiN
              have hI : ex6 v n (rowC sg 1) (d + 1) = (m, l, gr) := hI.2
              refine g_iload C 2 rfl dX3_explain_112 ?_
              refine g_bipush C (v := (nI 10)) (by decide) dX3_explain_114 ?_
              refine g_imul C dX3_explain_116 ?_
              refine g_top (y := (nI ((10 ^ d) * 10))) (pk_mul (10 ^ d) 10) ?_
              refine g_istore C (L' := [(9, .int (nI ((10 ^ d) * 10))), (11, .int (nI 10)), (10, .int (nI d)), (8, .int gr), (7, .int l), (6, .int m), (5, .int (nI (ngX (dN (rowC sg 1)) 6 0))), (0, .ref (ad w 1)), (1, .long v), (3, .int (nI n)), (4, .int (nI 2))]) (by decide) rfl dX3_explain_117 ?_
              refine g_iinc C (n := 1) (v := (nI (d + 1))) (L' := [(10, .int (nI (d + 1))), (9, .int (nI ((10 ^ d) * 10))), (11, .int (nI 10)), (8, .int gr), (7, .int l), (6, .int m), (5, .int (nI (ngX (dN (rowC sg 1)) 6 0))), (0, .ref (ad w 1)), (1, .long v), (3, .int (nI n)), (4, .int (nI 2))]) 2 rfl (nI_add d 1) (by decide) rfl dX3_explain_119 ?_
              refine g_goto C (tgt := 25) (by decide) dX3_explain_122 ?_
              refine g_sub (L' := [(10, .int (nI (d + 1))), (9, .int (nI ((10 ^ d) * 10))), (8, .int gr), (7, .int l), (6, .int m), (5, .int (nI (ngX (dN (rowC sg 1)) 6 0))), (0, .ref (ad w 1)), (1, .long v), (3, .int (nI n)), (4, .int (nI 2))]) [0, 1, 3, 4, 5, 6, 7, 8, 9, 10] rfl ?_
              refine g_eq (L' := [(10, .int (nI (d + 1))), (9, .int (nI (10 ^ (d + 1)))), (8, .int gr), (7, .int l), (6, .int m), (5, .int (nI (ngX (dN (rowC sg 1)) 6 0))), (0, .ref (ad w 1)), (1, .long v), (3, .int (nI n)), (4, .int (nI 2))]) rfl rfl rfl rfl ?_
              exact ihlpd (d + 1) m l gr (by omega) (by omega) hI
            ·
              refine g_iload C 0 rfl dX3_explain_42 ?_
              refine g_aload_n C 7 rfl rfl dX3_explain_44 ?_
              refine g_getR C (j := 0) cls3 e_1 rfl (by decide) fl_X3_9 dX3_explain_45 ?_
              refine g_iload C 1 rfl dX3_explain_48 ?_
              refine g_ialdN C d e_2 hd6 (by decide) dX3_explain_50 ?_
              refine g_top (y := (nI (dN (rowC sg 1) d))) ((rowC_d (sg := sg) (w := 1) hd6).symm.trans (hok.1 d hd6).1) ?_
              refine g_icmpN_gt C t (dN (rowC sg 1) d) (by omega) (by omega) (tgt := 62) (by decide) dX3_explain_51 (fun h51 => ?_) (fun h51 => ?_)
              ·
                refine g_iload C 6 rfl dX3_explain_62 ?_
                refine g_top (y := (nI (gtN (rowC sg 1) d t))) (by unfold gtN; rw [if_neg (by omega)]) ?_
                refine g_istore C (L' := [(12, .int (nI (gtN (rowC sg 1) d t))), (11, .int (nI t)), (10, .int (nI d)), (9, .int (nI (10 ^ d))), (8, .int gr), (7, .int l), (6, .int m), (5, .int (nI (ngX (dN (rowC sg 1)) 6 0))), (0, .ref (ad w 1)), (1, .long v), (3, .int (nI n)), (4, .int (nI 2))]) (by decide) rfl dX3_explain_64 ?_
                refine g_aload_n C 8 rfl rfl dX3_explain_66 ?_
                refine g_iload C 0 rfl dX3_explain_67 ?_
                refine g_iload_n C 10 rfl rfl dX3_explain_69 ?_
                refine g_callV1 [] C (c_X3_tried w tu sg (gtN (rowC sg 1) d t) n (reN (rowC sg 1)) (hgt d t) hn ((rowC_f (sg := sg) (w := 1) (j := 5) (by omega)).symm.trans hok.2.2.2.2.1) hok.2.2.2.2.2) mt_X3_tried e_1 rfl ml_X3_124 im_X3_tried se_X3_tried (by decide) rfl (Nat.le_of_ble_eq_true rfl) dX3_explain_70 ?_
                refine g_eq (L' := [(12, .int (nI (gtN (rowC sg 1) d t))), (11, .int (nI t)), (10, .int (nI d)), (9, .int (nI (10 ^ d))), (8, .int gr), (7, .int l), (6, .int m), (5, .int (nI (ngX (dN (rowC sg 1)) 6 0))), (0, .ref (ad w 1)), (1, .long v), (3, .int (nI n)), (4, .int (nI 2))]) (S' := [.long (trC (reN (rowC sg 1)) (gtN (rowC sg 1) d t) n)]) rfl rfl rfl rfl ?_
                refine g_topl (y := (trv (gw (rowC sg 1) d t) (reN (rowC sg 1)) n)) (p_exp hok hM.1 (by omega) hd6 hn) ?_
                refine g_lload_n C 9 rfl rfl dX3_explain_73 ?_
                refine g_lcmp C dX3_explain_74 ?_
                refine g_lif_ne C (tgt := 106) (by decide) dX3_explain_75 (fun h75 => ?_) (fun h75 => ?_)
                ·
                  refine g_iinc C (n := 1) (v := (nI (t + 1))) (L' := [(11, .int (nI (t + 1))), (12, .int (nI (gtN (rowC sg 1) d t))), (10, .int (nI d)), (9, .int (nI (10 ^ d))), (8, .int gr), (7, .int l), (6, .int m), (5, .int (nI (ngX (dN (rowC sg 1)) 6 0))), (0, .ref (ad w 1)), (1, .long v), (3, .int (nI n)), (4, .int (nI 2))]) 1 rfl (nI_add t 1) (by decide) rfl dX3_explain_106 ?_
                  refine g_goto C (tgt := 35) (by decide) dX3_explain_109 ?_
                  refine g_sub (L' := [(11, .int (nI (t + 1))), (10, .int (nI d)), (9, .int (nI (10 ^ d))), (8, .int gr), (7, .int l), (6, .int m), (5, .int (nI (ngX (dN (rowC sg 1)) 6 0))), (0, .ref (ad w 1)), (1, .long v), (3, .int (nI n)), (4, .int (nI 2))]) [0, 2, 3, 4, 5, 6, 7, 8, 9, 10, 11] rfl ?_
                  exact ihlpt (t + 1) m l gr (by omega) (by omega) (⟨by omega, by rw [show t + 1 - 1 = t from rfl, ex1_s hM.1, hM.2, exS_n h75]⟩)
                ·
                  refine g_iinc C (n := 1) (v := (m + 1)) (L' := [(6, .int (m + 1)), (12, .int (nI (gtN (rowC sg 1) d t))), (11, .int (nI t)), (10, .int (nI d)), (9, .int (nI (10 ^ d))), (8, .int gr), (7, .int l), (5, .int (nI (ngX (dN (rowC sg 1)) 6 0))), (0, .ref (ad w 1)), (1, .long v), (3, .int (nI n)), (4, .int (nI 2))]) 6 rfl rfl (by decide) rfl dX3_explain_78 ?_
                  refine g_bipush C (v := (nI 10)) (by decide) dX3_explain_81 ?_
                  refine g_iload C 3 rfl dX3_explain_83 ?_
                  refine g_imul C dX3_explain_85 ?_
                  refine g_top (y := (nI (10 * d))) (pk_mul 10 d) ?_
                  refine g_iload C 2 rfl dX3_explain_86 ?_
                  refine g_iadd C dX3_explain_88 ?_
                  refine g_top (y := (nI ((10 * d) + t))) (nI_add (10 * d) t) ?_
                  refine g_istore C (L' := [(8, .int (nI ((10 * d) + t))), (6, .int (m + 1)), (12, .int (nI (gtN (rowC sg 1) d t))), (11, .int (nI t)), (10, .int (nI d)), (9, .int (nI (10 ^ d))), (7, .int l), (5, .int (nI (ngX (dN (rowC sg 1)) 6 0))), (0, .ref (ad w 1)), (1, .long v), (3, .int (nI n)), (4, .int (nI 2))]) (by decide) rfl dX3_explain_89 ?_
                  refine g_iload C 6 rfl dX3_explain_91 ?_
                  refine g_iconst C (v := (-1)) (by decide) dX3_explain_93 ?_
                  refine g_icmp_ne C (tgt := 102) (by decide) dX3_explain_94 (fun h94 => ?_) (fun h94 => ?_)
                  ·
                    refine g_iload C 6 rfl dX3_explain_102 ?_
                    refine g_istore C (L' := [(7, .int l), (8, .int (nI ((10 * d) + t))), (6, .int (m + 1)), (12, .int (nI (gtN (rowC sg 1) d t))), (11, .int (nI t)), (10, .int (nI d)), (9, .int (nI (10 ^ d))), (5, .int (nI (ngX (dN (rowC sg 1)) 6 0))), (0, .ref (ad w 1)), (1, .long v), (3, .int (nI n)), (4, .int (nI 2))]) (by decide) rfl dX3_explain_104 ?_
                    refine g_iinc C (n := 1) (v := (nI (t + 1))) (L' := [(11, .int (nI (t + 1))), (7, .int l), (8, .int (nI ((10 * d) + t))), (6, .int (m + 1)), (12, .int (nI (gtN (rowC sg 1) d t))), (10, .int (nI d)), (9, .int (nI (10 ^ d))), (5, .int (nI (ngX (dN (rowC sg 1)) 6 0))), (0, .ref (ad w 1)), (1, .long v), (3, .int (nI n)), (4, .int (nI 2))]) 4 rfl (nI_add t 1) (by decide) rfl dX3_explain_106 ?_
                    refine g_goto C (tgt := 35) (by decide) dX3_explain_109 ?_
                    refine g_sub (L' := [(11, .int (nI (t + 1))), (10, .int (nI d)), (9, .int (nI (10 ^ d))), (8, .int (nI ((10 * d) + t))), (7, .int l), (6, .int (m + 1)), (5, .int (nI (ngX (dN (rowC sg 1)) 6 0))), (0, .ref (ad w 1)), (1, .long v), (3, .int (nI n)), (4, .int (nI 2))]) [0, 5, 6, 2, 1, 3, 7, 8, 9, 10, 11] rfl ?_
                    exact ihlpt (t + 1) (m + 1) l (nI ((10 * d) + t)) (by omega) (by omega) (⟨by omega, by rw [show t + 1 - 1 = t from rfl, ex1_s hM.1, hM.2, exS_y h75, if_neg h94]; rfl⟩)
                  ·
                    refine g_iload C 0 rfl dX3_explain_97 ?_
                    refine g_goto C (tgt := 104) (by decide) dX3_explain_99 ?_
                    refine g_istore C (L' := [(7, .int (nI ((10 * d) + t))), (8, .int (nI ((10 * d) + t))), (6, .int (m + 1)), (12, .int (nI (gtN (rowC sg 1) d t))), (11, .int (nI t)), (10, .int (nI d)), (9, .int (nI (10 ^ d))), (5, .int (nI (ngX (dN (rowC sg 1)) 6 0))), (0, .ref (ad w 1)), (1, .long v), (3, .int (nI n)), (4, .int (nI 2))]) (by decide) rfl dX3_explain_104 ?_
                    refine g_iinc C (n := 1) (v := (nI (t + 1))) (L' := [(11, .int (nI (t + 1))), (7, .int (nI ((10 * d) + t))), (8, .int (nI ((10 * d) + t))), (6, .int (m + 1)), (12, .int (nI (gtN (rowC sg 1) d t))), (10, .int (nI d)), (9, .int (nI (10 ^ d))), (5, .int (nI (ngX (dN (rowC sg 1)) 6 0))), (0, .ref (ad w 1)), (1, .long v), (3, .int (nI n)), (4, .int (nI 2))]) 4 rfl (nI_add t 1) (by decide) rfl dX3_explain_106 ?_
                    refine g_goto C (tgt := 35) (by decide) dX3_explain_109 ?_
                    refine g_sub (L' := [(11, .int (nI (t + 1))), (10, .int (nI d)), (9, .int (nI (10 ^ d))), (8, .int (nI ((10 * d) + t))), (7, .int (nI ((10 * d) + t))), (6, .int (m + 1)), (5, .int (nI (ngX (dN (rowC sg 1)) 6 0))), (0, .ref (ad w 1)), (1, .long v), (3, .int (nI n)), (4, .int (nI 2))]) [0, 5, 6, 2, 1, 3, 7, 8, 9, 10, 11] rfl ?_
                    exact ihlpt (t + 1) (m + 1) (nI ((10 * d) + t)) (nI ((10 * d) + t)) (by omega) (by omega) (⟨by omega, by rw [show t + 1 - 1 = t from rfl, ex1_s hM.1, hM.2, exS_y h75, if_pos h94]; rfl⟩)
              ·
                refine g_iload C 6 rfl dX3_explain_54 ?_
                refine g_iload C 2 rfl dX3_explain_56 ?_
                refine g_isub C dX3_explain_58 ?_
                refine g_goto C (tgt := 64) (by decide) dX3_explain_59 ?_
                refine g_top (y := (nI (gtN (rowC sg 1) d t))) (by unfold gtN; rw [if_pos h51]; exact pk_sub (gt_ge hM.1 hd6 h51)) ?_
                refine g_istore C (L' := [(12, .int (nI (gtN (rowC sg 1) d t))), (11, .int (nI t)), (10, .int (nI d)), (9, .int (nI (10 ^ d))), (8, .int gr), (7, .int l), (6, .int m), (5, .int (nI (ngX (dN (rowC sg 1)) 6 0))), (0, .ref (ad w 1)), (1, .long v), (3, .int (nI n)), (4, .int (nI 2))]) (by decide) rfl dX3_explain_64 ?_
                refine g_aload_n C 8 rfl rfl dX3_explain_66 ?_
                refine g_iload C 0 rfl dX3_explain_67 ?_
                refine g_iload_n C 10 rfl rfl dX3_explain_69 ?_
                refine g_callV1 [] C (c_X3_tried w tu sg (gtN (rowC sg 1) d t) n (reN (rowC sg 1)) (hgt d t) hn ((rowC_f (sg := sg) (w := 1) (j := 5) (by omega)).symm.trans hok.2.2.2.2.1) hok.2.2.2.2.2) mt_X3_tried e_1 rfl ml_X3_124 im_X3_tried se_X3_tried (by decide) rfl (Nat.le_of_ble_eq_true rfl) dX3_explain_70 ?_
                refine g_eq (L' := [(12, .int (nI (gtN (rowC sg 1) d t))), (11, .int (nI t)), (10, .int (nI d)), (9, .int (nI (10 ^ d))), (8, .int gr), (7, .int l), (6, .int m), (5, .int (nI (ngX (dN (rowC sg 1)) 6 0))), (0, .ref (ad w 1)), (1, .long v), (3, .int (nI n)), (4, .int (nI 2))]) (S' := [.long (trC (reN (rowC sg 1)) (gtN (rowC sg 1) d t) n)]) rfl rfl rfl rfl ?_
                refine g_topl (y := (trv (gw (rowC sg 1) d t) (reN (rowC sg 1)) n)) (p_exp hok hM.1 (by omega) hd6 hn) ?_
                refine g_lload_n C 9 rfl rfl dX3_explain_73 ?_
                refine g_lcmp C dX3_explain_74 ?_
                refine g_lif_ne C (tgt := 106) (by decide) dX3_explain_75 (fun h75 => ?_) (fun h75 => ?_)
                ·
                  refine g_iinc C (n := 1) (v := (nI (t + 1))) (L' := [(11, .int (nI (t + 1))), (12, .int (nI (gtN (rowC sg 1) d t))), (10, .int (nI d)), (9, .int (nI (10 ^ d))), (8, .int gr), (7, .int l), (6, .int m), (5, .int (nI (ngX (dN (rowC sg 1)) 6 0))), (0, .ref (ad w 1)), (1, .long v), (3, .int (nI n)), (4, .int (nI 2))]) 1 rfl (nI_add t 1) (by decide) rfl dX3_explain_106 ?_
                  refine g_goto C (tgt := 35) (by decide) dX3_explain_109 ?_
                  refine g_sub (L' := [(11, .int (nI (t + 1))), (10, .int (nI d)), (9, .int (nI (10 ^ d))), (8, .int gr), (7, .int l), (6, .int m), (5, .int (nI (ngX (dN (rowC sg 1)) 6 0))), (0, .ref (ad w 1)), (1, .long v), (3, .int (nI n)), (4, .int (nI 2))]) [0, 2, 3, 4, 5, 6, 7, 8, 9, 10, 11] rfl ?_
                  exact ihlpt (t + 1) m l gr (by omega) (by omega) (⟨by omega, by rw [show t + 1 - 1 = t from rfl, ex1_s hM.1, hM.2, exS_n h75]⟩)
                ·
                  refine g_iinc C (n := 1) (v := (m + 1)) (L' := [(6, .int (m + 1)), (12, .int (nI (gtN (rowC sg 1) d t))), (11, .int (nI t)), (10, .int (nI d)), (9, .int (nI (10 ^ d))), (8, .int gr), (7, .int l), (5, .int (nI (ngX (dN (rowC sg 1)) 6 0))), (0, .ref (ad w 1)), (1, .long v), (3, .int (nI n)), (4, .int (nI 2))]) 6 rfl rfl (by decide) rfl dX3_explain_78 ?_
                  refine g_bipush C (v := (nI 10)) (by decide) dX3_explain_81 ?_
                  refine g_iload C 3 rfl dX3_explain_83 ?_
                  refine g_imul C dX3_explain_85 ?_
                  refine g_top (y := (nI (10 * d))) (pk_mul 10 d) ?_
                  refine g_iload C 2 rfl dX3_explain_86 ?_
                  refine g_iadd C dX3_explain_88 ?_
                  refine g_top (y := (nI ((10 * d) + t))) (nI_add (10 * d) t) ?_
                  refine g_istore C (L' := [(8, .int (nI ((10 * d) + t))), (6, .int (m + 1)), (12, .int (nI (gtN (rowC sg 1) d t))), (11, .int (nI t)), (10, .int (nI d)), (9, .int (nI (10 ^ d))), (7, .int l), (5, .int (nI (ngX (dN (rowC sg 1)) 6 0))), (0, .ref (ad w 1)), (1, .long v), (3, .int (nI n)), (4, .int (nI 2))]) (by decide) rfl dX3_explain_89 ?_
                  refine g_iload C 6 rfl dX3_explain_91 ?_
                  refine g_iconst C (v := (-1)) (by decide) dX3_explain_93 ?_
                  refine g_icmp_ne C (tgt := 102) (by decide) dX3_explain_94 (fun h94 => ?_) (fun h94 => ?_)
                  ·
                    refine g_iload C 6 rfl dX3_explain_102 ?_
                    refine g_istore C (L' := [(7, .int l), (8, .int (nI ((10 * d) + t))), (6, .int (m + 1)), (12, .int (nI (gtN (rowC sg 1) d t))), (11, .int (nI t)), (10, .int (nI d)), (9, .int (nI (10 ^ d))), (5, .int (nI (ngX (dN (rowC sg 1)) 6 0))), (0, .ref (ad w 1)), (1, .long v), (3, .int (nI n)), (4, .int (nI 2))]) (by decide) rfl dX3_explain_104 ?_
                    refine g_iinc C (n := 1) (v := (nI (t + 1))) (L' := [(11, .int (nI (t + 1))), (7, .int l), (8, .int (nI ((10 * d) + t))), (6, .int (m + 1)), (12, .int (nI (gtN (rowC sg 1) d t))), (10, .int (nI d)), (9, .int (nI (10 ^ d))), (5, .int (nI (ngX (dN (rowC sg 1)) 6 0))), (0, .ref (ad w 1)), (1, .long v), (3, .int (nI n)), (4, .int (nI 2))]) 4 rfl (nI_add t 1) (by decide) rfl dX3_explain_106 ?_
                    refine g_goto C (tgt := 35) (by decide) dX3_explain_109 ?_
                    refine g_sub (L' := [(11, .int (nI (t + 1))), (10, .int (nI d)), (9, .int (nI (10 ^ d))), (8, .int (nI ((10 * d) + t))), (7, .int l), (6, .int (m + 1)), (5, .int (nI (ngX (dN (rowC sg 1)) 6 0))), (0, .ref (ad w 1)), (1, .long v), (3, .int (nI n)), (4, .int (nI 2))]) [0, 5, 6, 2, 1, 3, 7, 8, 9, 10, 11] rfl ?_
                    exact ihlpt (t + 1) (m + 1) l (nI ((10 * d) + t)) (by omega) (by omega) (⟨by omega, by rw [show t + 1 - 1 = t from rfl, ex1_s hM.1, hM.2, exS_y h75, if_neg h94]; rfl⟩)
                  ·
                    refine g_iload C 0 rfl dX3_explain_97 ?_
                    refine g_goto C (tgt := 104) (by decide) dX3_explain_99 ?_
                    refine g_istore C (L' := [(7, .int (nI ((10 * d) + t))), (8, .int (nI ((10 * d) + t))), (6, .int (m + 1)), (12, .int (nI (gtN (rowC sg 1) d t))), (11, .int (nI t)), (10, .int (nI d)), (9, .int (nI (10 ^ d))), (5, .int (nI (ngX (dN (rowC sg 1)) 6 0))), (0, .ref (ad w 1)), (1, .long v), (3, .int (nI n)), (4, .int (nI 2))]) (by decide) rfl dX3_explain_104 ?_
                    refine g_iinc C (n := 1) (v := (nI (t + 1))) (L' := [(11, .int (nI (t + 1))), (7, .int (nI ((10 * d) + t))), (8, .int (nI ((10 * d) + t))), (6, .int (m + 1)), (12, .int (nI (gtN (rowC sg 1) d t))), (10, .int (nI d)), (9, .int (nI (10 ^ d))), (5, .int (nI (ngX (dN (rowC sg 1)) 6 0))), (0, .ref (ad w 1)), (1, .long v), (3, .int (nI n)), (4, .int (nI 2))]) 4 rfl (nI_add t 1) (by decide) rfl dX3_explain_106 ?_
                    refine g_goto C (tgt := 35) (by decide) dX3_explain_109 ?_
                    refine g_sub (L' := [(11, .int (nI (t + 1))), (10, .int (nI d)), (9, .int (nI (10 ^ d))), (8, .int (nI ((10 * d) + t))), (7, .int (nI ((10 * d) + t))), (6, .int (m + 1)), (5, .int (nI (ngX (dN (rowC sg 1)) 6 0))), (0, .ref (ad w 1)), (1, .long v), (3, .int (nI n)), (4, .int (nI 2))]) [0, 5, 6, 2, 1, 3, 7, 8, 9, 10, 11] rfl ?_
                    exact ihlpt (t + 1) (m + 1) (nI ((10 * d) + t)) (nI ((10 * d) + t)) (by omega) (by omega) (⟨by omega, by rw [show t + 1 - 1 = t from rfl, ex1_s hM.1, hM.2, exS_y h75, if_pos h94]; rfl⟩)
        refine g_sub (L' := [(11, .int (nI 1)), (10, .int (nI d)), (9, .int (nI (10 ^ d))), (8, .int gr), (7, .int l), (6, .int m), (5, .int (nI (ngX (dN (rowC sg 1)) 6 0))), (0, .ref (ad w 1)), (1, .long v), (3, .int (nI n)), (4, .int (nI 2))]) [0, 1, 2, 3, 4, 5, 6, 7, 8, 9, 10] rfl ?_
        exact lpt (10 + 1) 1 m l gr (by omega) (by omega) (⟨Nat.le_refl _, hI⟩)
  refine g_sub (L' := [(10, .int (nI 0)), (9, .int (nI 1)), (8, .int (-1)), (7, .int (-1)), (6, .int (nI 0)), (5, .int (nI (ngX (dN (rowC sg 1)) 6 0))), (0, .ref (ad w 1)), (1, .long v), (3, .int (nI n)), (4, .int (nI 2))]) [0, 1, 2, 3, 4, 5, 6, 7, 8, 9] rfl ?_
  exact lpd (6 + 1) 0 (nI 0) (-1) (-1) (by omega) (by omega) rfl
