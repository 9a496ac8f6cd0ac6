set_option maxRecDepth 100000 in
set_option maxHeartbeats 400000 in
theorem c_X5_takesOrder_x_f (w : GW) (tu : Int64) (sg : Sg) (tx : Nat → Nat) (by_ sp : Nat) (o : Nat) (hby : sg 44 6 = nI by_) (hb : by_ ≤ 120) (hsp : sg 44 13 = nI sp) (hsb : sp < by_) (htx : ∀ j, j < by_ → sg 49 j = nI (tx j) ∧ tx j ≤ 127) (ho : sg 44 12 = nI o) (ho60 : o < 60) (hc : mnI (tx sp) = (-1))  : Kt w yX5_takesOrder cX5_takesOrder 3 (some .boolean) 4 [.ref (ad w 44)] sg tu (some (.int (nI 0))) (us sg 44 (upd (sg 44) 14 (sg 44 13))) tu := by
  refine Kt.of2 RX5 rfl [(0, .ref (ad w 44))] (by decide) rfl (Nat.le_of_ble_eq_true rfl) (fun z C E => ?_)
  have htx9 := (htx sp hsb).2
  have hq0 : (sp + 1) ≤ by_ := hsb
  refine g_aload_n C 0 rfl rfl dX5_takesOrder_0 ?_
  refine g_getR C (j := 5) cls5 e_44 rfl (by decide) fl_X5_22 dX5_takesOrder_1 ?_
  refine g_aload_n C 0 rfl rfl dX5_takesOrder_4 ?_
  refine g_getI C (j := 13) cls5 e_44 rfl (by decide) fl_X5_183 dX5_takesOrder_5 ?_
  refine g_top (y := (nI sp)) hsp ?_
  refine g_ialdN C sp e_49 (by omega) (by decide) dX5_takesOrder_8 ?_
  refine g_top (y := (nI (tx sp))) (htx sp hsb).1 ?_
  refine g_callS1 [] C (c_X5_manyOf w tu sg (tx sp) htx9) mt_X5_manyOf ml_X5_198 st_X5_manyOf (by decide) rfl (Nat.le_of_ble_eq_true rfl) dX5_takesOrder_9 ?_
  refine g_eq (L' := [(0, .ref (ad w 44))]) (S' := [.int (mnI (tx sp))]) rfl rfl rfl rfl ?_
  refine g_top (y := (-1)) hc ?_
  refine g_istore_n C (L' := [(1, .int (-1)), (0, .ref (ad w 44))]) rfl (by decide) rfl dX5_takesOrder_12 ?_
  refine g_iload_n C 0 rfl rfl dX5_takesOrder_13 ?_
  refine g_iconst C (v := (-1)) (by decide) dX5_takesOrder_14 ?_
  refine g_icmp_ne C (tgt := 23) (by decide) dX5_takesOrder_15 (fun h15 => absurd rfl h15) (fun h15 => ?_)
  refine g_aload_n C 1 rfl rfl dX5_takesOrder_18 ?_
  refine g_callV1 [] C (c_X5_fails w tu sg  ) mt_X5_fails e_44 rfl ml_X5_195 im_X5_fails se_X5_fails (by decide) rfl (Nat.le_of_ble_eq_true rfl) dX5_takesOrder_19 ?_
  refine g_eq (sg' := (us sg 44 (upd (sg 44) 14 (sg 44 13)))) (L' := [(1, .int (-1)), (0, .ref (ad w 44))]) (S' := [.int (nI 0)]) rfl rfl rfl rfl ?_
  exact g_zret C E dX5_takesOrder_22 (by decide +kernel) rfl Sq.rf rfl
set_option maxRecDepth 100000 in
set_option maxHeartbeats 400000 in
theorem c_X5_takesOrder_0_ok (w : GW) (tu : Int64) (sg : Sg) (tx : Nat → Nat) (by_ sp : Nat) (o : Nat) (hby : sg 44 6 = nI by_) (hb : by_ ≤ 120) (hsp : sg 44 13 = nI sp) (hsb : sp < by_) (htx : ∀ j, j < by_ → sg 49 j = nI (tx j) ∧ tx j ≤ 127) (ho : sg 44 12 = nI o) (ho60 : o < 60) (hc : mnI (tx sp) = nI 0) (he : atP tx by_ 59 59 (sk tx by_ (sp + 1)))  : Kt w yX5_takesOrder cX5_takesOrder 3 (some .boolean) 4 [.ref (ad w 44)] sg tu (some (.int (nI 1))) (us (us (us sg 53 (upd (sg 53) o (nI (tx sp)))) 44 (upd (sg 44) 13 (nI (sp + 1)))) 44 (upd (upd (upd (upd (sg 44) 13 (nI (sp + 1))) 13 (nI (sk tx by_ (sp + 1)))) 13 (nI ((sk tx by_ (sp + 1)) + 1))) 12 (nI (o + 1)))) tu := by
  refine Kt.of2 RX5 rfl [(0, .ref (ad w 44))] (by decide) rfl (Nat.le_of_ble_eq_true rfl) (fun z C E => ?_)
  have htx9 := (htx sp hsb).2
  have hq0 : (sp + 1) ≤ by_ := hsb
  refine g_aload_n C 0 rfl rfl dX5_takesOrder_0 ?_
  refine g_getR C (j := 5) cls5 e_44 rfl (by decide) fl_X5_22 dX5_takesOrder_1 ?_
  refine g_aload_n C 0 rfl rfl dX5_takesOrder_4 ?_
  refine g_getI C (j := 13) cls5 e_44 rfl (by decide) fl_X5_183 dX5_takesOrder_5 ?_
  refine g_top (y := (nI sp)) hsp ?_
  refine g_ialdN C sp e_49 (by omega) (by decide) dX5_takesOrder_8 ?_
  refine g_top (y := (nI (tx sp))) (htx sp hsb).1 ?_
  refine g_callS1 [] C (c_X5_manyOf w tu sg (tx sp) htx9) mt_X5_manyOf ml_X5_198 st_X5_manyOf (by decide) rfl (Nat.le_of_ble_eq_true rfl) dX5_takesOrder_9 ?_
  refine g_eq (L' := [(0, .ref (ad w 44))]) (S' := [.int (mnI (tx sp))]) rfl rfl rfl rfl ?_
  refine g_top (y := (nI 0)) hc ?_
  refine g_istore_n C (L' := [(1, .int (nI 0)), (0, .ref (ad w 44))]) rfl (by decide) rfl dX5_takesOrder_12 ?_
  refine g_iload_n C 0 rfl rfl dX5_takesOrder_13 ?_
  refine g_iconst C (v := (-1)) (by decide) dX5_takesOrder_14 ?_
  refine g_icmp_ne C (tgt := 23) (by decide) dX5_takesOrder_15 (fun h15 => ?_) (fun h15 => absurd h15 (by decide))
  refine g_aload_n C 1 rfl rfl dX5_takesOrder_23 ?_
  refine g_getR C (j := 10) cls5 e_44 rfl (by decide) fl_X5_34 dX5_takesOrder_24 ?_
  refine g_aload_n C 1 rfl rfl dX5_takesOrder_27 ?_
  refine g_getI C (j := 12) cls5 e_44 rfl (by decide) fl_X5_201 dX5_takesOrder_28 ?_
  refine g_top (y := (nI o)) ho ?_
  refine g_aload_n C 1 rfl rfl dX5_takesOrder_31 ?_
  refine g_getR C (j := 5) cls5 e_44 rfl (by decide) fl_X5_22 dX5_takesOrder_32 ?_
  refine g_aload_n C 1 rfl rfl dX5_takesOrder_35 ?_
  refine g_getI C (j := 13) cls5 e_44 rfl (by decide) fl_X5_183 dX5_takesOrder_36 ?_
  refine g_top (y := (nI sp)) hsp ?_
  refine g_ialdN C sp e_49 (by omega) (by decide) dX5_takesOrder_39 ?_
  refine g_top (y := (nI (tx sp))) (htx sp hsb).1 ?_
  refine g_iastN C o e_53 (by omega) (by decide) dX5_takesOrder_40 ?_
  refine g_sgE (sg' := (us sg 53 (upd (sg 53) o (nI (tx sp))))) rfl ?_
  refine g_aload_n C 1 rfl rfl dX5_takesOrder_41 ?_
  refine g_dup C rfl dX5_takesOrder_42 ?_
  refine g_getI C (j := 13) cls5 e_44 rfl (by decide) fl_X5_183 dX5_takesOrder_43 ?_
  refine g_top (y := (nI sp)) hsp ?_
  refine g_iconst C (v := (nI 1)) (by decide) dX5_takesOrder_46 ?_
  refine g_iadd C dX5_takesOrder_47 ?_
  refine g_top (y := (nI (sp + 1))) (nI_add sp 1) ?_
  refine g_putI C (j := 13) cls5 e_44 rfl (by decide) rfl rfl fl_X5_183 dX5_takesOrder_48 ?_
  refine g_sgE (sg' := (us (us sg 53 (upd (sg 53) o (nI (tx sp)))) 44 (upd (sg 44) 13 (nI (sp + 1))))) rfl ?_
  refine g_iconst C (v := (nI 0)) (by decide) dX5_takesOrder_51 ?_
  refine g_istore_n C (L' := [(2, .int (nI 0)), (1, .int (nI 0)), (0, .ref (ad w 44))]) rfl (by decide) rfl dX5_takesOrder_52 ?_
  refine g_iload_n C 0 rfl rfl dX5_takesOrder_53 ?_
  refine g_iload_n C 1 rfl rfl dX5_takesOrder_54 ?_
  refine g_icmpN_ge C 0 0 (by omega) (by omega) (tgt := 81) (by decide) dX5_takesOrder_55 (fun h55 => ?_) (fun h55 => absurd h55 (by decide))
  refine g_aload_n C 2 rfl rfl dX5_takesOrder_81 ?_
  refine g_callV0 [] C (c_X5_blanks w tu (us (us sg 53 (upd (sg 53) o (nI (tx sp)))) 44 (upd (sg 44) 13 (nI (sp + 1))))  tx by_ (sp + 1) hby hb rfl hq0 htx) mt_X5_blanks e_44 rfl ml_X5_192 im_X5_blanks se_X5_blanks (by decide) rfl (Nat.le_of_ble_eq_true rfl) dX5_takesOrder_82 ?_
  refine g_eq (sg' := (us (us (us sg 53 (upd (sg 53) o (nI (tx sp)))) 44 (upd (sg 44) 13 (nI (sp + 1)))) 44 (upd (upd (sg 44) 13 (nI (sp + 1))) 13 (nI (sk tx by_ (sp + 1)))))) (L' := [(2, .int (nI 0)), (1, .int (nI 0)), (0, .ref (ad w 44))]) (S' := []) rfl rfl rfl rfl ?_
  refine g_aload_n C 2 rfl rfl dX5_takesOrder_85 ?_
  refine g_bipush C (v := (nI 59)) (by decide) dX5_takesOrder_86 ?_
  refine g_bipush C (v := (nI 59)) (by decide) dX5_takesOrder_88 ?_
  refine g_callV1 [] C (c_X5_isAt w tu (us (us (us sg 53 (upd (sg 53) o (nI (tx sp)))) 44 (upd (sg 44) 13 (nI (sp + 1)))) 44 (upd (upd (sg 44) 13 (nI (sp + 1))) 13 (nI (sk tx by_ (sp + 1))))) 59 59 tx by_ (sk tx by_ (sp + 1)) (by decide) (by decide) hby hb rfl (sk_le hq0) htx) mt_X5_isAt e_44 rfl ml_X5_186 im_X5_isAt se_X5_isAt (by decide) rfl (Nat.le_of_ble_eq_true rfl) dX5_takesOrder_90 ?_
  refine g_eq (L' := [(2, .int (nI 0)), (1, .int (nI 0)), (0, .ref (ad w 44))]) (S' := [.int (bI (atP tx by_ 59 59 (sk tx by_ (sp + 1))))]) rfl rfl rfl rfl ?_
  refine g_bif_ne C (tgt := 101) (by decide) dX5_takesOrder_93 (fun h93 => ?_) (fun h93 => absurd he h93)
  refine g_aload_n C 2 rfl rfl dX5_takesOrder_101 ?_
  refine g_dup C rfl dX5_takesOrder_102 ?_
  refine g_getI C (j := 13) cls5 e_44 rfl (by decide) fl_X5_183 dX5_takesOrder_103 ?_
  refine g_top (y := (nI (sk tx by_ (sp + 1)))) rfl ?_
  refine g_iconst C (v := (nI 1)) (by decide) dX5_takesOrder_106 ?_
  refine g_iadd C dX5_takesOrder_107 ?_
  refine g_top (y := (nI ((sk tx by_ (sp + 1)) + 1))) (nI_add (sk tx by_ (sp + 1)) 1) ?_
  refine g_putI C (j := 13) cls5 e_44 rfl (by decide) rfl rfl fl_X5_183 dX5_takesOrder_108 ?_
  refine g_sgE (sg' := (us (us (us sg 53 (upd (sg 53) o (nI (tx sp)))) 44 (upd (sg 44) 13 (nI (sp + 1)))) 44 (upd (upd (upd (sg 44) 13 (nI (sp + 1))) 13 (nI (sk tx by_ (sp + 1)))) 13 (nI ((sk tx by_ (sp + 1)) + 1))))) us_us ?_
  refine g_aload_n C 2 rfl rfl dX5_takesOrder_111 ?_
  refine g_dup C rfl dX5_takesOrder_112 ?_
  refine g_getI C (j := 12) cls5 e_44 rfl (by decide) fl_X5_201 dX5_takesOrder_113 ?_
  refine g_top (y := (nI o)) ho ?_
  refine g_iconst C (v := (nI 1)) (by decide) dX5_takesOrder_116 ?_
  refine g_iadd C dX5_takesOrder_117 ?_
  refine g_top (y := (nI (o + 1))) (nI_add o 1) ?_
  refine g_putI C (j := 12) cls5 e_44 rfl (by decide) rfl rfl fl_X5_201 dX5_takesOrder_118 ?_
  refine g_sgE (sg' := (us (us (us sg 53 (upd (sg 53) o (nI (tx sp)))) 44 (upd (sg 44) 13 (nI (sp + 1)))) 44 (upd (upd (upd (upd (sg 44) 13 (nI (sp + 1))) 13 (nI (sk tx by_ (sp + 1)))) 13 (nI ((sk tx by_ (sp + 1)) + 1))) 12 (nI (o + 1))))) us_us ?_
  refine g_iconst C (v := (nI 1)) (by decide) dX5_takesOrder_121 ?_
  exact g_zret C E dX5_takesOrder_122 (by decide +kernel) rfl Sq.rf rfl
set_option maxRecDepth 100000 in
set_option maxHeartbeats 400000 in
theorem c_X5_takesOrder_0_e (w : GW) (tu : Int64) (sg : Sg) (tx : Nat → Nat) (by_ sp : Nat) (o : Nat) (hby : sg 44 6 = nI by_) (hb : by_ ≤ 120) (hsp : sg 44 13 = nI sp) (hsb : sp < by_) (htx : ∀ j, j < by_ → sg 49 j = nI (tx j) ∧ tx j ≤ 127) (ho : sg 44 12 = nI o) (ho60 : o < 60) (hc : mnI (tx sp) = nI 0) (he : ¬ atP tx by_ 59 59 (sk tx by_ (sp + 1)))  : Kt w yX5_takesOrder cX5_takesOrder 3 (some .boolean) 4 [.ref (ad w 44)] sg tu (some (.int (nI 0))) (us (us (us (us sg 53 (upd (sg 53) o (nI (tx sp)))) 44 (upd (sg 44) 13 (nI (sp + 1)))) 44 (upd (upd (sg 44) 13 (nI (sp + 1))) 13 (nI (sk tx by_ (sp + 1))))) 44 (upd (upd (upd (sg 44) 13 (nI (sp + 1))) 13 (nI (sk tx by_ (sp + 1)))) 14 (nI (sk tx by_ (sp + 1))))) tu := by
  refine Kt.of2 RX5 rfl [(0, .ref (ad w 44))] (by decide) rfl (Nat.le_of_ble_eq_true rfl) (fun z C E => ?_)
  have htx9 := (htx sp hsb).2
  have hq0 : (sp + 1) ≤ by_ := hsb
  refine g_aload_n C 0 rfl rfl dX5_takesOrder_0 ?_
  refine g_getR C (j := 5) cls5 e_44 rfl (by decide) fl_X5_22 dX5_takesOrder_1 ?_
  refine g_aload_n C 0 rfl rfl dX5_takesOrder_4 ?_
  refine g_getI C (j := 13) cls5 e_44 rfl (by decide) fl_X5_183 dX5_takesOrder_5 ?_
  refine g_top (y := (nI sp)) hsp ?_
  refine g_ialdN C sp e_49 (by omega) (by decide) dX5_takesOrder_8 ?_
  refine g_top (y := (nI (tx sp))) (htx sp hsb).1 ?_
  refine g_callS1 [] C (c_X5_manyOf w tu sg (tx sp) htx9) mt_X5_manyOf ml_X5_198 st_X5_manyOf (by decide) rfl (Nat.le_of_ble_eq_true rfl) dX5_takesOrder_9 ?_
  refine g_eq (L' := [(0, .ref (ad w 44))]) (S' := [.int (mnI (tx sp))]) rfl rfl rfl rfl ?_
  refine g_top (y := (nI 0)) hc ?_
  refine g_istore_n C (L' := [(1, .int (nI 0)), (0, .ref (ad w 44))]) rfl (by decide) rfl dX5_takesOrder_12 ?_
  refine g_iload_n C 0 rfl rfl dX5_takesOrder_13 ?_
  refine g_iconst C (v := (-1)) (by decide) dX5_takesOrder_14 ?_
  refine g_icmp_ne C (tgt := 23) (by decide) dX5_takesOrder_15 (fun h15 => ?_) (fun h15 => absurd h15 (by decide))
  refine g_aload_n C 1 rfl rfl dX5_takesOrder_23 ?_
  refine g_getR C (j := 10) cls5 e_44 rfl (by decide) fl_X5_34 dX5_takesOrder_24 ?_
  refine g_aload_n C 1 rfl rfl dX5_takesOrder_27 ?_
  refine g_getI C (j := 12) cls5 e_44 rfl (by decide) fl_X5_201 dX5_takesOrder_28 ?_
  refine g_top (y := (nI o)) ho ?_
  refine g_aload_n C 1 rfl rfl dX5_takesOrder_31 ?_
  refine g_getR C (j := 5) cls5 e_44 rfl (by decide) fl_X5_22 dX5_takesOrder_32 ?_
  refine g_aload_n C 1 rfl rfl dX5_takesOrder_35 ?_
  refine g_getI C (j := 13) cls5 e_44 rfl (by decide) fl_X5_183 dX5_takesOrder_36 ?_
  refine g_top (y := (nI sp)) hsp ?_
  refine g_ialdN C sp e_49 (by omega) (by decide) dX5_takesOrder_39 ?_
  refine g_top (y := (nI (tx sp))) (htx sp hsb).1 ?_
  refine g_iastN C o e_53 (by omega) (by decide) dX5_takesOrder_40 ?_
  refine g_sgE (sg' := (us sg 53 (upd (sg 53) o (nI (tx sp))))) rfl ?_
  refine g_aload_n C 1 rfl rfl dX5_takesOrder_41 ?_
  refine g_dup C rfl dX5_takesOrder_42 ?_
  refine g_getI C (j := 13) cls5 e_44 rfl (by decide) fl_X5_183 dX5_takesOrder_43 ?_
  refine g_top (y := (nI sp)) hsp ?_
  refine g_iconst C (v := (nI 1)) (by decide) dX5_takesOrder_46 ?_
  refine g_iadd C dX5_takesOrder_47 ?_
  refine g_top (y := (nI (sp + 1))) (nI_add sp 1) ?_
  refine g_putI C (j := 13) cls5 e_44 rfl (by decide) rfl rfl fl_X5_183 dX5_takesOrder_48 ?_
  refine g_sgE (sg' := (us (us sg 53 (upd (sg 53) o (nI (tx sp)))) 44 (upd (sg 44) 13 (nI (sp + 1))))) rfl ?_
  refine g_iconst C (v := (nI 0)) (by decide) dX5_takesOrder_51 ?_
  refine g_istore_n C (L' := [(2, .int (nI 0)), (1, .int (nI 0)), (0, .ref (ad w 44))]) rfl (by decide) rfl dX5_takesOrder_52 ?_
  refine g_iload_n C 0 rfl rfl dX5_takesOrder_53 ?_
  refine g_iload_n C 1 rfl rfl dX5_takesOrder_54 ?_
  refine g_icmpN_ge C 0 0 (by omega) (by omega) (tgt := 81) (by decide) dX5_takesOrder_55 (fun h55 => ?_) (fun h55 => absurd h55 (by decide))
  refine g_aload_n C 2 rfl rfl dX5_takesOrder_81 ?_
  refine g_callV0 [] C (c_X5_blanks w tu (us (us sg 53 (upd (sg 53) o (nI (tx sp)))) 44 (upd (sg 44) 13 (nI (sp + 1))))  tx by_ (sp + 1) hby hb rfl hq0 htx) mt_X5_blanks e_44 rfl ml_X5_192 im_X5_blanks se_X5_blanks (by decide) rfl (Nat.le_of_ble_eq_true rfl) dX5_takesOrder_82 ?_
  refine g_eq (sg' := (us (us (us sg 53 (upd (sg 53) o (nI (tx sp)))) 44 (upd (sg 44) 13 (nI (sp + 1)))) 44 (upd (upd (sg 44) 13 (nI (sp + 1))) 13 (nI (sk tx by_ (sp + 1)))))) (L' := [(2, .int (nI 0)), (1, .int (nI 0)), (0, .ref (ad w 44))]) (S' := []) rfl rfl rfl rfl ?_
  refine g_aload_n C 2 rfl rfl dX5_takesOrder_85 ?_
  refine g_bipush C (v := (nI 59)) (by decide) dX5_takesOrder_86 ?_
  refine g_bipush C (v := (nI 59)) (by decide) dX5_takesOrder_88 ?_
  refine g_callV1 [] C (c_X5_isAt w tu (us (us (us sg 53 (upd (sg 53) o (nI (tx sp)))) 44 (upd (sg 44) 13 (nI (sp + 1)))) 44 (upd (upd (sg 44) 13 (nI (sp + 1))) 13 (nI (sk tx by_ (sp + 1))))) 59 59 tx by_ (sk tx by_ (sp + 1)) (by decide) (by decide) hby hb rfl (sk_le hq0) htx) mt_X5_isAt e_44 rfl ml_X5_186 im_X5_isAt se_X5_isAt (by decide) rfl (Nat.le_of_ble_eq_true rfl) dX5_takesOrder_90 ?_
  refine g_eq (L' := [(2, .int (nI 0)), (1, .int (nI 0)), (0, .ref (ad w 44))]) (S' := [.int (bI (atP tx by_ 59 59 (sk tx by_ (sp + 1))))]) rfl rfl rfl rfl ?_
  refine g_bif_ne C (tgt := 101) (by decide) dX5_takesOrder_93 (fun h93 => absurd h93 he) (fun h93 => ?_)
  refine g_aload_n C 2 rfl rfl dX5_takesOrder_96 ?_
  refine g_callV1 [] C (c_X5_fails w tu (us (us (us sg 53 (upd (sg 53) o (nI (tx sp)))) 44 (upd (sg 44) 13 (nI (sp + 1)))) 44 (upd (upd (sg 44) 13 (nI (sp + 1))) 13 (nI (sk tx by_ (sp + 1)))))  ) mt_X5_fails e_44 rfl ml_X5_195 im_X5_fails se_X5_fails (by decide) rfl (Nat.le_of_ble_eq_true rfl) dX5_takesOrder_97 ?_
  refine g_eq (sg' := (us (us (us (us sg 53 (upd (sg 53) o (nI (tx sp)))) 44 (upd (sg 44) 13 (nI (sp + 1)))) 44 (upd (upd (sg 44) 13 (nI (sp + 1))) 13 (nI (sk tx by_ (sp + 1))))) 44 (upd (upd (upd (sg 44) 13 (nI (sp + 1))) 13 (nI (sk tx by_ (sp + 1)))) 14 (nI (sk tx by_ (sp + 1)))))) (L' := [(2, .int (nI 0)), (1, .int (nI 0)), (0, .ref (ad w 44))]) (S' := [.int (nI 0)]) rfl rfl rfl rfl ?_
  exact g_zret C E dX5_takesOrder_100 (by decide +kernel) rfl Sq.rf rfl
set_option maxRecDepth 100000 in
set_option maxHeartbeats 400000 in
theorem c_X5_takesOrder_1_ok (w : GW) (tu : Int64) (sg : Sg) (tx : Nat → Nat) (by_ sp : Nat) (o : Nat) (hby : sg 44 6 = nI by_) (hb : by_ ≤ 120) (hsp : sg 44 13 = nI sp) (hsb : sp < by_) (htx : ∀ j, j < by_ → sg 49 j = nI (tx j) ∧ tx j ≤ 127) (ho : sg 44 12 = nI o) (ho60 : o < 60) (hc : mnI (tx sp) = nI 1) (h7_0 : ¬ atP tx by_ 48 57 (rdn tx by_ 6 (sk tx by_ (sp + 1)) 0).1) (h0_0 : sk tx by_ (sp + 1) < (rdn tx by_ 6 (sk tx by_ (sp + 1)) 0).1) (he : atP tx by_ 59 59 (sk tx by_ (rdn tx by_ 6 (sk tx by_ (sp + 1)) 0).1))  : Kt w yX5_takesOrder cX5_takesOrder 3 (some .boolean) 4 [.ref (ad w 44)] sg tu (some (.int (nI 1))) (us (us (us (us (us sg 53 (upd (sg 53) o (nI (tx sp)))) 44 (upd (sg 44) 13 (nI (sp + 1)))) 44 (upd (upd (sg 44) 13 (nI (sp + 1))) 13 (nI ((rdn tx by_ 6 (sk tx by_ (sp + 1)) 0).1)))) 54 (upd (sg 54) ((2 * o) + 0) (nI ((rdn tx by_ 6 (sk tx by_ (sp + 1)) 0).2)))) 44 (upd (upd (upd (upd (upd (sg 44) 13 (nI (sp + 1))) 13 (nI ((rdn tx by_ 6 (sk tx by_ (sp + 1)) 0).1))) 13 (nI (sk tx by_ ((rdn tx by_ 6 (sk tx by_ (sp + 1)) 0).1)))) 13 (nI ((sk tx by_ ((rdn tx by_ 6 (sk tx by_ (sp + 1)) 0).1)) + 1))) 12 (nI (o + 1)))) tu := by
  refine Kt.of2 RX5 rfl [(0, .ref (ad w 44))] (by decide) rfl (Nat.le_of_ble_eq_true rfl) (fun z C E => ?_)
  have htx9 := (htx sp hsb).2
  have hq0 : (sp + 1) ≤ by_ := hsb
  have hq1 : (rdn tx by_ 6 (sk tx by_ (sp + 1)) 0).1 ≤ by_ := rdn_le _ _ _ (sk_le hq0)
  refine g_aload_n C 0 rfl rfl dX5_takesOrder_0 ?_
  refine g_getR C (j := 5) cls5 e_44 rfl (by decide) fl_X5_22 dX5_takesOrder_1 ?_
  refine g_aload_n C 0 rfl rfl dX5_takesOrder_4 ?_
  refine g_getI C (j := 13) cls5 e_44 rfl (by decide) fl_X5_183 dX5_takesOrder_5 ?_
  refine g_top (y := (nI sp)) hsp ?_
  refine g_ialdN C sp e_49 (by omega) (by decide) dX5_takesOrder_8 ?_
  refine g_top (y := (nI (tx sp))) (htx sp hsb).1 ?_
  refine g_callS1 [] C (c_X5_manyOf w tu sg (tx sp) htx9) mt_X5_manyOf ml_X5_198 st_X5_manyOf (by decide) rfl (Nat.le_of_ble_eq_true rfl) dX5_takesOrder_9 ?_
  refine g_eq (L' := [(0, .ref (ad w 44))]) (S' := [.int (mnI (tx sp))]) rfl rfl rfl rfl ?_
  refine g_top (y := (nI 1)) hc ?_
  refine g_istore_n C (L' := [(1, .int (nI 1)), (0, .ref (ad w 44))]) rfl (by decide) rfl dX5_takesOrder_12 ?_
  refine g_iload_n C 0 rfl rfl dX5_takesOrder_13 ?_
  refine g_iconst C (v := (-1)) (by decide) dX5_takesOrder_14 ?_
  refine g_icmp_ne C (tgt := 23) (by decide) dX5_takesOrder_15 (fun h15 => ?_) (fun h15 => absurd h15 (by decide))
  refine g_aload_n C 1 rfl rfl dX5_takesOrder_23 ?_
  refine g_getR C (j := 10) cls5 e_44 rfl (by decide) fl_X5_34 dX5_takesOrder_24 ?_
  refine g_aload_n C 1 rfl rfl dX5_takesOrder_27 ?_
  refine g_getI C (j := 12) cls5 e_44 rfl (by decide) fl_X5_201 dX5_takesOrder_28 ?_
  refine g_top (y := (nI o)) ho ?_
  refine g_aload_n C 1 rfl rfl dX5_takesOrder_31 ?_
  refine g_getR C (j := 5) cls5 e_44 rfl (by decide) fl_X5_22 dX5_takesOrder_32 ?_
  refine g_aload_n C 1 rfl rfl dX5_takesOrder_35 ?_
  refine g_getI C (j := 13) cls5 e_44 rfl (by decide) fl_X5_183 dX5_takesOrder_36 ?_
  refine g_top (y := (nI sp)) hsp ?_
  refine g_ialdN C sp e_49 (by omega) (by decide) dX5_takesOrder_39 ?_
  refine g_top (y := (nI (tx sp))) (htx sp hsb).1 ?_
  refine g_iastN C o e_53 (by omega) (by decide) dX5_takesOrder_40 ?_
  refine g_sgE (sg' := (us sg 53 (upd (sg 53) o (nI (tx sp))))) rfl ?_
  refine g_aload_n C 1 rfl rfl dX5_takesOrder_41 ?_
  refine g_dup C rfl dX5_takesOrder_42 ?_
  refine g_getI C (j := 13) cls5 e_44 rfl (by decide) fl_X5_183 dX5_takesOrder_43 ?_
  refine g_top (y := (nI sp)) hsp ?_
  refine g_iconst C (v := (nI 1)) (by decide) dX5_takesOrder_46 ?_
  refine g_iadd C dX5_takesOrder_47 ?_
  refine g_top (y := (nI (sp + 1))) (nI_add sp 1) ?_
  refine g_putI C (j := 13) cls5 e_44 rfl (by decide) rfl rfl fl_X5_183 dX5_takesOrder_48 ?_
  refine g_sgE (sg' := (us (us sg 53 (upd (sg 53) o (nI (tx sp)))) 44 (upd (sg 44) 13 (nI (sp + 1))))) rfl ?_
  refine g_iconst C (v := (nI 0)) (by decide) dX5_takesOrder_51 ?_
  refine g_istore_n C (L' := [(2, .int (nI 0)), (1, .int (nI 1)), (0, .ref (ad w 44))]) rfl (by decide) rfl dX5_takesOrder_52 ?_
  refine g_iload_n C 0 rfl rfl dX5_takesOrder_53 ?_
  refine g_iload_n C 1 rfl rfl dX5_takesOrder_54 ?_
  refine g_icmpN_ge C 0 1 (by omega) (by omega) (tgt := 81) (by decide) dX5_takesOrder_55 (fun h55 => absurd h55 (by decide)) (fun h55 => ?_)
  refine g_aload_n C 2 rfl rfl dX5_takesOrder_58 ?_
  refine g_iconst C (v := (nI 2)) (by decide) dX5_takesOrder_59 ?_
  refine g_aload_n C 2 rfl rfl dX5_takesOrder_60 ?_
  refine g_getI C (j := 12) cls5 e_44 rfl (by decide) fl_X5_201 dX5_takesOrder_61 ?_
  refine g_top (y := (nI o)) ho ?_
  refine g_imul C dX5_takesOrder_64 ?_
  refine g_top (y := (nI (2 * o))) (pk_mul 2 o) ?_
  refine g_iload_n C 0 rfl rfl dX5_takesOrder_65 ?_
  refine g_iadd C dX5_takesOrder_66 ?_
  refine g_top (y := (nI ((2 * o) + 0))) (nI_add (2 * o) 0) ?_
  refine g_callV1 [] C (c_X5_takesNumber_ok w tu (us (us sg 53 (upd (sg 53) o (nI (tx sp)))) 44 (upd (sg 44) 13 (nI (sp + 1)))) ((2 * o) + 0) tx by_ (sp + 1) (by omega) hby hb rfl (hq0) htx h7_0 h0_0) mt_X5_takesNumber e_44 rfl ml_X5_204 im_X5_takesNumber se_X5_takesNumber (by decide) rfl (Nat.le_of_ble_eq_true rfl) dX5_takesOrder_67 ?_
  refine g_eq (sg' := (us (us (us (us sg 53 (upd (sg 53) o (nI (tx sp)))) 44 (upd (sg 44) 13 (nI (sp + 1)))) 44 (upd (upd (sg 44) 13 (nI (sp + 1))) 13 (nI ((rdn tx by_ 6 (sk tx by_ (sp + 1)) 0).1)))) 54 (upd (sg 54) ((2 * o) + 0) (nI ((rdn tx by_ 6 (sk tx by_ (sp + 1)) 0).2))))) (L' := [(2, .int (nI 0)), (1, .int (nI 1)), (0, .ref (ad w 44))]) (S' := [.int (nI 1)]) rfl rfl rfl rfl ?_
  refine g_if_ne C (tgt := 75) (by decide) dX5_takesOrder_70 (fun h70 => ?_) (fun h70 => absurd h70 (by decide))
  refine g_iinc C (n := 1) (v := (nI 1)) (L' := [(2, .int (nI 1)), (1, .int (nI 1)), (0, .ref (ad w 44))]) 0 rfl (nI_add 0 1) (by decide) rfl dX5_takesOrder_75 ?_
  refine g_goto C (tgt := 53) (by decide) dX5_takesOrder_78 ?_
  refine g_iload_n C 0 rfl rfl dX5_takesOrder_53 ?_
  refine g_iload_n C 1 rfl rfl dX5_takesOrder_54 ?_
  refine g_icmpN_ge C 1 1 (by omega) (by omega) (tgt := 81) (by decide) dX5_takesOrder_55 (fun h55 => ?_) (fun h55 => absurd h55 (by decide))
  refine g_aload_n C 2 rfl rfl dX5_takesOrder_81 ?_
  refine g_callV0 [] C (c_X5_blanks w tu (us (us (us (us sg 53 (upd (sg 53) o (nI (tx sp)))) 44 (upd (sg 44) 13 (nI (sp + 1)))) 44 (upd (upd (sg 44) 13 (nI (sp + 1))) 13 (nI ((rdn tx by_ 6 (sk tx by_ (sp + 1)) 0).1)))) 54 (upd (sg 54) ((2 * o) + 0) (nI ((rdn tx by_ 6 (sk tx by_ (sp + 1)) 0).2))))  tx by_ ((rdn tx by_ 6 (sk tx by_ (sp + 1)) 0).1) hby hb rfl hq1 htx) mt_X5_blanks e_44 rfl ml_X5_192 im_X5_blanks se_X5_blanks (by decide) rfl (Nat.le_of_ble_eq_true rfl) dX5_takesOrder_82 ?_
  refine g_eq (sg' := (us (us (us (us (us sg 53 (upd (sg 53) o (nI (tx sp)))) 44 (upd (sg 44) 13 (nI (sp + 1)))) 44 (upd (upd (sg 44) 13 (nI (sp + 1))) 13 (nI ((rdn tx by_ 6 (sk tx by_ (sp + 1)) 0).1)))) 54 (upd (sg 54) ((2 * o) + 0) (nI ((rdn tx by_ 6 (sk tx by_ (sp + 1)) 0).2)))) 44 (upd (upd (upd (sg 44) 13 (nI (sp + 1))) 13 (nI ((rdn tx by_ 6 (sk tx by_ (sp + 1)) 0).1))) 13 (nI (sk tx by_ ((rdn tx by_ 6 (sk tx by_ (sp + 1)) 0).1)))))) (L' := [(2, .int (nI 1)), (1, .int (nI 1)), (0, .ref (ad w 44))]) (S' := []) rfl rfl rfl rfl ?_
  refine g_aload_n C 2 rfl rfl dX5_takesOrder_85 ?_
  refine g_bipush C (v := (nI 59)) (by decide) dX5_takesOrder_86 ?_
  refine g_bipush C (v := (nI 59)) (by decide) dX5_takesOrder_88 ?_
  refine g_callV1 [] C (c_X5_isAt w tu (us (us (us (us (us sg 53 (upd (sg 53) o (nI (tx sp)))) 44 (upd (sg 44) 13 (nI (sp + 1)))) 44 (upd (upd (sg 44) 13 (nI (sp + 1))) 13 (nI ((rdn tx by_ 6 (sk tx by_ (sp + 1)) 0).1)))) 54 (upd (sg 54) ((2 * o) + 0) (nI ((rdn tx by_ 6 (sk tx by_ (sp + 1)) 0).2)))) 44 (upd (upd (upd (sg 44) 13 (nI (sp + 1))) 13 (nI ((rdn tx by_ 6 (sk tx by_ (sp + 1)) 0).1))) 13 (nI (sk tx by_ ((rdn tx by_ 6 (sk tx by_ (sp + 1)) 0).1))))) 59 59 tx by_ (sk tx by_ (rdn tx by_ 6 (sk tx by_ (sp + 1)) 0).1) (by decide) (by decide) hby hb rfl (sk_le hq1) htx) mt_X5_isAt e_44 rfl ml_X5_186 im_X5_isAt se_X5_isAt (by decide) rfl (Nat.le_of_ble_eq_true rfl) dX5_takesOrder_90 ?_
  refine g_eq (L' := [(2, .int (nI 1)), (1, .int (nI 1)), (0, .ref (ad w 44))]) (S' := [.int (bI (atP tx by_ 59 59 (sk tx by_ (rdn tx by_ 6 (sk tx by_ (sp + 1)) 0).1)))]) rfl rfl rfl rfl ?_
  refine g_bif_ne C (tgt := 101) (by decide) dX5_takesOrder_93 (fun h93 => ?_) (fun h93 => absurd he h93)
  refine g_aload_n C 2 rfl rfl dX5_takesOrder_101 ?_
  refine g_dup C rfl dX5_takesOrder_102 ?_
  refine g_getI C (j := 13) cls5 e_44 rfl (by decide) fl_X5_183 dX5_takesOrder_103 ?_
  refine g_top (y := (nI (sk tx by_ ((rdn tx by_ 6 (sk tx by_ (sp + 1)) 0).1)))) rfl ?_
  refine g_iconst C (v := (nI 1)) (by decide) dX5_takesOrder_106 ?_
  refine g_iadd C dX5_takesOrder_107 ?_
  refine g_top (y := (nI ((sk tx by_ ((rdn tx by_ 6 (sk tx by_ (sp + 1)) 0).1)) + 1))) (nI_add (sk tx by_ ((rdn tx by_ 6 (sk tx by_ (sp + 1)) 0).1)) 1) ?_
  refine g_putI C (j := 13) cls5 e_44 rfl (by decide) rfl rfl fl_X5_183 dX5_takesOrder_108 ?_
  refine g_sgE (sg' := (us (us (us (us (us sg 53 (upd (sg 53) o (nI (tx sp)))) 44 (upd (sg 44) 13 (nI (sp + 1)))) 44 (upd (upd (sg 44) 13 (nI (sp + 1))) 13 (nI ((rdn tx by_ 6 (sk tx by_ (sp + 1)) 0).1)))) 54 (upd (sg 54) ((2 * o) + 0) (nI ((rdn tx by_ 6 (sk tx by_ (sp + 1)) 0).2)))) 44 (upd (upd (upd (upd (sg 44) 13 (nI (sp + 1))) 13 (nI ((rdn tx by_ 6 (sk tx by_ (sp + 1)) 0).1))) 13 (nI (sk tx by_ ((rdn tx by_ 6 (sk tx by_ (sp + 1)) 0).1)))) 13 (nI ((sk tx by_ ((rdn tx by_ 6 (sk tx by_ (sp + 1)) 0).1)) + 1))))) us_us ?_
  refine g_aload_n C 2 rfl rfl dX5_takesOrder_111 ?_
  refine g_dup C rfl dX5_takesOrder_112 ?_
  refine g_getI C (j := 12) cls5 e_44 rfl (by decide) fl_X5_201 dX5_takesOrder_113 ?_
  refine g_top (y := (nI o)) ho ?_
  refine g_iconst C (v := (nI 1)) (by decide) dX5_takesOrder_116 ?_
  refine g_iadd C dX5_takesOrder_117 ?_
  refine g_top (y := (nI (o + 1))) (nI_add o 1) ?_
  refine g_putI C (j := 12) cls5 e_44 rfl (by decide) rfl rfl fl_X5_201 dX5_takesOrder_118 ?_
  refine g_sgE (sg' := (us (us (us (us (us sg 53 (upd (sg 53) o (nI (tx sp)))) 44 (upd (sg 44) 13 (nI (sp + 1)))) 44 (upd (upd (sg 44) 13 (nI (sp + 1))) 13 (nI ((rdn tx by_ 6 (sk tx by_ (sp + 1)) 0).1)))) 54 (upd (sg 54) ((2 * o) + 0) (nI ((rdn tx by_ 6 (sk tx by_ (sp + 1)) 0).2)))) 44 (upd (upd (upd (upd (upd (sg 44) 13 (nI (sp + 1))) 13 (nI ((rdn tx by_ 6 (sk tx by_ (sp + 1)) 0).1))) 13 (nI (sk tx by_ ((rdn tx by_ 6 (sk tx by_ (sp + 1)) 0).1)))) 13 (nI ((sk tx by_ ((rdn tx by_ 6 (sk tx by_ (sp + 1)) 0).1)) + 1))) 12 (nI (o + 1))))) us_us ?_
  refine g_iconst C (v := (nI 1)) (by decide) dX5_takesOrder_121 ?_
  exact g_zret C E dX5_takesOrder_122 (by decide +kernel) rfl Sq.rf rfl
set_option maxRecDepth 100000 in
set_option maxHeartbeats 400000 in
theorem c_X5_takesOrder_1_e (w : GW) (tu : Int64) (sg : Sg) (tx : Nat → Nat) (by_ sp : Nat) (o : Nat) (hby : sg 44 6 = nI by_) (hb : by_ ≤ 120) (hsp : sg 44 13 = nI sp) (hsb : sp < by_) (htx : ∀ j, j < by_ → sg 49 j = nI (tx j) ∧ tx j ≤ 127) (ho : sg 44 12 = nI o) (ho60 : o < 60) (hc : mnI (tx sp) = nI 1) (h7_0 : ¬ atP tx by_ 48 57 (rdn tx by_ 6 (sk tx by_ (sp + 1)) 0).1) (h0_0 : sk tx by_ (sp + 1) < (rdn tx by_ 6 (sk tx by_ (sp + 1)) 0).1) (he : ¬ atP tx by_ 59 59 (sk tx by_ (rdn tx by_ 6 (sk tx by_ (sp + 1)) 0).1))  : Kt w yX5_takesOrder cX5_takesOrder 3 (some .boolean) 4 [.ref (ad w 44)] sg tu (some (.int (nI 0))) (us (us (us (us (us (us sg 53 (upd (sg 53) o (nI (tx sp)))) 44 (upd (sg 44) 13 (nI (sp + 1)))) 44 (upd (upd (sg 44) 13 (nI (sp + 1))) 13 (nI ((rdn tx by_ 6 (sk tx by_ (sp + 1)) 0).1)))) 54 (upd (sg 54) ((2 * o) + 0) (nI ((rdn tx by_ 6 (sk tx by_ (sp + 1)) 0).2)))) 44 (upd (upd (upd (sg 44) 13 (nI (sp + 1))) 13 (nI ((rdn tx by_ 6 (sk tx by_ (sp + 1)) 0).1))) 13 (nI (sk tx by_ ((rdn tx by_ 6 (sk tx by_ (sp + 1)) 0).1))))) 44 (upd (upd (upd (upd (sg 44) 13 (nI (sp + 1))) 13 (nI ((rdn tx by_ 6 (sk tx by_ (sp + 1)) 0).1))) 13 (nI (sk tx by_ ((rdn tx by_ 6 (sk tx by_ (sp + 1)) 0).1)))) 14 (nI (sk tx by_ ((rdn tx by_ 6 (sk tx by_ (sp + 1)) 0).1))))) tu := by
  refine Kt.of2 RX5 rfl [(0, .ref (ad w 44))] (by decide) rfl (Nat.le_of_ble_eq_true rfl) (fun z C E => ?_)
  have htx9 := (htx sp hsb).2
  have hq0 : (sp + 1) ≤ by_ := hsb
  have hq1 : (rdn tx by_ 6 (sk tx by_ (sp + 1)) 0).1 ≤ by_ := rdn_le _ _ _ (sk_le hq0)
  refine g_aload_n C 0 rfl rfl dX5_takesOrder_0 ?_
  refine g_getR C (j := 5) cls5 e_44 rfl (by decide) fl_X5_22 dX5_takesOrder_1 ?_
  refine g_aload_n C 0 rfl rfl dX5_takesOrder_4 ?_
  refine g_getI C (j := 13) cls5 e_44 rfl (by decide) fl_X5_183 dX5_takesOrder_5 ?_
  refine g_top (y := (nI sp)) hsp ?_
  refine g_ialdN C sp e_49 (by omega) (by decide) dX5_takesOrder_8 ?_
  refine g_top (y := (nI (tx sp))) (htx sp hsb).1 ?_
  refine g_callS1 [] C (c_X5_manyOf w tu sg (tx sp) htx9) mt_X5_manyOf ml_X5_198 st_X5_manyOf (by decide) rfl (Nat.le_of_ble_eq_true rfl) dX5_takesOrder_9 ?_
  refine g_eq (L' := [(0, .ref (ad w 44))]) (S' := [.int (mnI (tx sp))]) rfl rfl rfl rfl ?_
  refine g_top (y := (nI 1)) hc ?_
  refine g_istore_n C (L' := [(1, .int (nI 1)), (0, .ref (ad w 44))]) rfl (by decide) rfl dX5_takesOrder_12 ?_
  refine g_iload_n C 0 rfl rfl dX5_takesOrder_13 ?_
  refine g_iconst C (v := (-1)) (by decide) dX5_takesOrder_14 ?_
  refine g_icmp_ne C (tgt := 23) (by decide) dX5_takesOrder_15 (fun h15 => ?_) (fun h15 => absurd h15 (by decide))
  refine g_aload_n C 1 rfl rfl dX5_takesOrder_23 ?_
  refine g_getR C (j := 10) cls5 e_44 rfl (by decide) fl_X5_34 dX5_takesOrder_24 ?_
  refine g_aload_n C 1 rfl rfl dX5_takesOrder_27 ?_
  refine g_getI C (j := 12) cls5 e_44 rfl (by decide) fl_X5_201 dX5_takesOrder_28 ?_
  refine g_top (y := (nI o)) ho ?_
  refine g_aload_n C 1 rfl rfl dX5_takesOrder_31 ?_
  refine g_getR C (j := 5) cls5 e_44 rfl (by decide) fl_X5_22 dX5_takesOrder_32 ?_
  refine g_aload_n C 1 rfl rfl dX5_takesOrder_35 ?_
  refine g_getI C (j := 13) cls5 e_44 rfl (by decide) fl_X5_183 dX5_takesOrder_36 ?_
  refine g_top (y := (nI sp)) hsp ?_
  refine g_ialdN C sp e_49 (by omega) (by decide) dX5_takesOrder_39 ?_
  refine g_top (y := (nI (tx sp))) (htx sp hsb).1 ?_
  refine g_iastN C o e_53 (by omega) (by decide) dX5_takesOrder_40 ?_
  refine g_sgE (sg' := (us sg 53 (upd (sg 53) o (nI (tx sp))))) rfl ?_
  refine g_aload_n C 1 rfl rfl dX5_takesOrder_41 ?_
  refine g_dup C rfl dX5_takesOrder_42 ?_
  refine g_getI C (j := 13) cls5 e_44 rfl (by decide) fl_X5_183 dX5_takesOrder_43 ?_
  refine g_top (y := (nI sp)) hsp ?_
  refine g_iconst C (v := (nI 1)) (by decide) dX5_takesOrder_46 ?_
  refine g_iadd C dX5_takesOrder_47 ?_
  refine g_top (y := (nI (sp + 1))) (nI_add sp 1) ?_
  refine g_putI C (j := 13) cls5 e_44 rfl (by decide) rfl rfl fl_X5_183 dX5_takesOrder_48 ?_
  refine g_sgE (sg' := (us (us sg 53 (upd (sg 53) o (nI (tx sp)))) 44 (upd (sg 44) 13 (nI (sp + 1))))) rfl ?_
  refine g_iconst C (v := (nI 0)) (by decide) dX5_takesOrder_51 ?_
  refine g_istore_n C (L' := [(2, .int (nI 0)), (1, .int (nI 1)), (0, .ref (ad w 44))]) rfl (by decide) rfl dX5_takesOrder_52 ?_
  refine g_iload_n C 0 rfl rfl dX5_takesOrder_53 ?_
  refine g_iload_n C 1 rfl rfl dX5_takesOrder_54 ?_
  refine g_icmpN_ge C 0 1 (by omega) (by omega) (tgt := 81) (by decide) dX5_takesOrder_55 (fun h55 => absurd h55 (by decide)) (fun h55 => ?_)
  refine g_aload_n C 2 rfl rfl dX5_takesOrder_58 ?_
  refine g_iconst C (v := (nI 2)) (by decide) dX5_takesOrder_59 ?_
  refine g_aload_n C 2 rfl rfl dX5_takesOrder_60 ?_
  refine g_getI C (j := 12) cls5 e_44 rfl (by decide) fl_X5_201 dX5_takesOrder_61 ?_
  refine g_top (y := (nI o)) ho ?_
  refine g_imul C dX5_takesOrder_64 ?_
  refine g_top (y := (nI (2 * o))) (pk_mul 2 o) ?_
  refine g_iload_n C 0 rfl rfl dX5_takesOrder_65 ?_
  refine g_iadd C dX5_takesOrder_66 ?_
  refine g_top (y := (nI ((2 * o) + 0))) (nI_add (2 * o) 0) ?_
  refine g_callV1 [] C (c_X5_takesNumber_ok w tu (us (us sg 53 (upd (sg 53) o (nI (tx sp)))) 44 (upd (sg 44) 13 (nI (sp + 1)))) ((2 * o) + 0) tx by_ (sp + 1) (by omega) hby hb rfl (hq0) htx h7_0 h0_0) mt_X5_takesNumber e_44 rfl ml_X5_204 im_X5_takesNumber se_X5_takesNumber (by decide) rfl (Nat.le_of_ble_eq_true rfl) dX5_takesOrder_67 ?_
  refine g_eq (sg' := (us (us (us (us sg 53 (upd (sg 53) o (nI (tx sp)))) 44 (upd (sg 44) 13 (nI (sp + 1)))) 44 (upd (upd (sg 44) 13 (nI (sp + 1))) 13 (nI ((rdn tx by_ 6 (sk tx by_ (sp + 1)) 0).1)))) 54 (upd (sg 54) ((2 * o) + 0) (nI ((rdn tx by_ 6 (sk tx by_ (sp + 1)) 0).2))))) (L' := [(2, .int (nI 0)), (1, .int (nI 1)), (0, .ref (ad w 44))]) (S' := [.int (nI 1)]) rfl rfl rfl rfl ?_
  refine g_if_ne C (tgt := 75) (by decide) dX5_takesOrder_70 (fun h70 => ?_) (fun h70 => absurd h70 (by decide))
  refine g_iinc C (n := 1) (v := (nI 1)) (L' := [(2, .int (nI 1)), (1, .int (nI 1)), (0, .ref (ad w 44))]) 0 rfl (nI_add 0 1) (by decide) rfl dX5_takesOrder_75 ?_
  refine g_goto C (tgt := 53) (by decide) dX5_takesOrder_78 ?_
  refine g_iload_n C 0 rfl rfl dX5_takesOrder_53 ?_
  refine g_iload_n C 1 rfl rfl dX5_takesOrder_54 ?_
  refine g_icmpN_ge C 1 1 (by omega) (by omega) (tgt := 81) (by decide) dX5_takesOrder_55 (fun h55 => ?_) (fun h55 => absurd h55 (by decide))
  refine g_aload_n C 2 rfl rfl dX5_takesOrder_81 ?_
  refine g_callV0 [] C (c_X5_blanks w tu (us (us (us (us sg 53 (upd (sg 53) o (nI (tx sp)))) 44 (upd (sg 44) 13 (nI (sp + 1)))) 44 (upd (upd (sg 44) 13 (nI (sp + 1))) 13 (nI ((rdn tx by_ 6 (sk tx by_ (sp + 1)) 0).1)))) 54 (upd (sg 54) ((2 * o) + 0) (nI ((rdn tx by_ 6 (sk tx by_ (sp + 1)) 0).2))))  tx by_ ((rdn tx by_ 6 (sk tx by_ (sp + 1)) 0).1) hby hb rfl hq1 htx) mt_X5_blanks e_44 rfl ml_X5_192 im_X5_blanks se_X5_blanks (by decide) rfl (Nat.le_of_ble_eq_true rfl) dX5_takesOrder_82 ?_
  refine g_eq (sg' := (us (us (us (us (us sg 53 (upd (sg 53) o (nI (tx sp)))) 44 (upd (sg 44) 13 (nI (sp + 1)))) 44 (upd (upd (sg 44) 13 (nI (sp + 1))) 13 (nI ((rdn tx by_ 6 (sk tx by_ (sp + 1)) 0).1)))) 54 (upd (sg 54) ((2 * o) + 0) (nI ((rdn tx by_ 6 (sk tx by_ (sp + 1)) 0).2)))) 44 (upd (upd (upd (sg 44) 13 (nI (sp + 1))) 13 (nI ((rdn tx by_ 6 (sk tx by_ (sp + 1)) 0).1))) 13 (nI (sk tx by_ ((rdn tx by_ 6 (sk tx by_ (sp + 1)) 0).1)))))) (L' := [(2, .int (nI 1)), (1, .int (nI 1)), (0, .ref (ad w 44))]) (S' := []) rfl rfl rfl rfl ?_
  refine g_aload_n C 2 rfl rfl dX5_takesOrder_85 ?_
  refine g_bipush C (v := (nI 59)) (by decide) dX5_takesOrder_86 ?_
  refine g_bipush C (v := (nI 59)) (by decide) dX5_takesOrder_88 ?_
  refine g_callV1 [] C (c_X5_isAt w tu (us (us (us (us (us sg 53 (upd (sg 53) o (nI (tx sp)))) 44 (upd (sg 44) 13 (nI (sp + 1)))) 44 (upd (upd (sg 44) 13 (nI (sp + 1))) 13 (nI ((rdn tx by_ 6 (sk tx by_ (sp + 1)) 0).1)))) 54 (upd (sg 54) ((2 * o) + 0) (nI ((rdn tx by_ 6 (sk tx by_ (sp + 1)) 0).2)))) 44 (upd (upd (upd (sg 44) 13 (nI (sp + 1))) 13 (nI ((rdn tx by_ 6 (sk tx by_ (sp + 1)) 0).1))) 13 (nI (sk tx by_ ((rdn tx by_ 6 (sk tx by_ (sp + 1)) 0).1))))) 59 59 tx by_ (sk tx by_ (rdn tx by_ 6 (sk tx by_ (sp + 1)) 0).1) (by decide) (by decide) hby hb rfl (sk_le hq1) htx) mt_X5_isAt e_44 rfl ml_X5_186 im_X5_isAt se_X5_isAt (by decide) rfl (Nat.le_of_ble_eq_true rfl) dX5_takesOrder_90 ?_
  refine g_eq (L' := [(2, .int (nI 1)), (1, .int (nI 1)), (0, .ref (ad w 44))]) (S' := [.int (bI (atP tx by_ 59 59 (sk tx by_ (rdn tx by_ 6 (sk tx by_ (sp + 1)) 0).1)))]) rfl rfl rfl rfl ?_
  refine g_bif_ne C (tgt := 101) (by decide) dX5_takesOrder_93 (fun h93 => absurd h93 he) (fun h93 => ?_)
  refine g_aload_n C 2 rfl rfl dX5_takesOrder_96 ?_
  refine g_callV1 [] C (c_X5_fails w tu (us (us (us (us (us sg 53 (upd (sg 53) o (nI (tx sp)))) 44 (upd (sg 44) 13 (nI (sp + 1)))) 44 (upd (upd (sg 44) 13 (nI (sp + 1))) 13 (nI ((rdn tx by_ 6 (sk tx by_ (sp + 1)) 0).1)))) 54 (upd (sg 54) ((2 * o) + 0) (nI ((rdn tx by_ 6 (sk tx by_ (sp + 1)) 0).2)))) 44 (upd (upd (upd (sg 44) 13 (nI (sp + 1))) 13 (nI ((rdn tx by_ 6 (sk tx by_ (sp + 1)) 0).1))) 13 (nI (sk tx by_ ((rdn tx by_ 6 (sk tx by_ (sp + 1)) 0).1)))))  ) mt_X5_fails e_44 rfl ml_X5_195 im_X5_fails se_X5_fails (by decide) rfl (Nat.le_of_ble_eq_true rfl) dX5_takesOrder_97 ?_
  refine g_eq (sg' := (us (us (us (us (us (us sg 53 (upd (sg 53) o (nI (tx sp)))) 44 (upd (sg 44) 13 (nI (sp + 1)))) 44 (upd (upd (sg 44) 13 (nI (sp + 1))) 13 (nI ((rdn tx by_ 6 (sk tx by_ (sp + 1)) 0).1)))) 54 (upd (sg 54) ((2 * o) + 0) (nI ((rdn tx by_ 6 (sk tx by_ (sp + 1)) 0).2)))) 44 (upd (upd (upd (sg 44) 13 (nI (sp + 1))) 13 (nI ((rdn tx by_ 6 (sk tx by_ (sp + 1)) 0).1))) 13 (nI (sk tx by_ ((rdn tx by_ 6 (sk tx by_ (sp + 1)) 0).1))))) 44 (upd (upd (upd (upd (sg 44) 13 (nI (sp + 1))) 13 (nI ((rdn tx by_ 6 (sk tx by_ (sp + 1)) 0).1))) 13 (nI (sk tx by_ ((rdn tx by_ 6 (sk tx by_ (sp + 1)) 0).1)))) 14 (nI (sk tx by_ ((rdn tx by_ 6 (sk tx by_ (sp + 1)) 0).1)))))) (L' := [(2, .int (nI 1)), (1, .int (nI 1)), (0, .ref (ad w 44))]) (S' := [.int (nI 0)]) rfl rfl rfl rfl ?_
  exact g_zret C E dX5_takesOrder_100 (by decide +kernel) rfl Sq.rf rfl
set_option maxRecDepth 100000 in
set_option maxHeartbeats 400000 in
theorem c_X5_takesOrder_1_1f7 (w : GW) (tu : Int64) (sg : Sg) (tx : Nat → Nat) (by_ sp : Nat) (o : Nat) (hby : sg 44 6 = nI by_) (hb : by_ ≤ 120) (hsp : sg 44 13 = nI sp) (hsb : sp < by_) (htx : ∀ j, j < by_ → sg 49 j = nI (tx j) ∧ tx j ≤ 127) (ho : sg 44 12 = nI o) (ho60 : o < 60) (hc : mnI (tx sp) = nI 1) (h7_0 : atP tx by_ 48 57 (rdn tx by_ 6 (sk tx by_ (sp + 1)) 0).1)  : Kt w yX5_takesOrder cX5_takesOrder 3 (some .boolean) 4 [.ref (ad w 44)] sg tu (some (.int (nI 0))) (us (us (us sg 53 (upd (sg 53) o (nI (tx sp)))) 44 (upd (sg 44) 13 (nI (sp + 1)))) 44 (upd (upd (upd (sg 44) 13 (nI (sp + 1))) 13 (nI ((rdn tx by_ 6 (sk tx by_ (sp + 1)) 0).1))) 14 (nI ((rdn tx by_ 6 (sk tx by_ (sp + 1)) 0).1)))) tu := by
  refine Kt.of2 RX5 rfl [(0, .ref (ad w 44))] (by decide) rfl (Nat.le_of_ble_eq_true rfl) (fun z C E => ?_)
  have htx9 := (htx sp hsb).2
  have hq0 : (sp + 1) ≤ by_ := hsb
  refine g_aload_n C 0 rfl rfl dX5_takesOrder_0 ?_
  refine g_getR C (j := 5) cls5 e_44 rfl (by decide) fl_X5_22 dX5_takesOrder_1 ?_
  refine g_aload_n C 0 rfl rfl dX5_takesOrder_4 ?_
  refine g_getI C (j := 13) cls5 e_44 rfl (by decide) fl_X5_183 dX5_takesOrder_5 ?_
  refine g_top (y := (nI sp)) hsp ?_
  refine g_ialdN C sp e_49 (by omega) (by decide) dX5_takesOrder_8 ?_
  refine g_top (y := (nI (tx sp))) (htx sp hsb).1 ?_
  refine g_callS1 [] C (c_X5_manyOf w tu sg (tx sp) htx9) mt_X5_manyOf ml_X5_198 st_X5_manyOf (by decide) rfl (Nat.le_of_ble_eq_true rfl) dX5_takesOrder_9 ?_
  refine g_eq (L' := [(0, .ref (ad w 44))]) (S' := [.int (mnI (tx sp))]) rfl rfl rfl rfl ?_
  refine g_top (y := (nI 1)) hc ?_
  refine g_istore_n C (L' := [(1, .int (nI 1)), (0, .ref (ad w 44))]) rfl (by decide) rfl dX5_takesOrder_12 ?_
  refine g_iload_n C 0 rfl rfl dX5_takesOrder_13 ?_
  refine g_iconst C (v := (-1)) (by decide) dX5_takesOrder_14 ?_
  refine g_icmp_ne C (tgt := 23) (by decide) dX5_takesOrder_15 (fun h15 => ?_) (fun h15 => absurd h15 (by decide))
  refine g_aload_n C 1 rfl rfl dX5_takesOrder_23 ?_
  refine g_getR C (j := 10) cls5 e_44 rfl (by decide) fl_X5_34 dX5_takesOrder_24 ?_
  refine g_aload_n C 1 rfl rfl dX5_takesOrder_27 ?_
  refine g_getI C (j := 12) cls5 e_44 rfl (by decide) fl_X5_201 dX5_takesOrder_28 ?_
  refine g_top (y := (nI o)) ho ?_
  refine g_aload_n C 1 rfl rfl dX5_takesOrder_31 ?_
  refine g_getR C (j := 5) cls5 e_44 rfl (by decide) fl_X5_22 dX5_takesOrder_32 ?_
  refine g_aload_n C 1 rfl rfl dX5_takesOrder_35 ?_
  refine g_getI C (j := 13) cls5 e_44 rfl (by decide) fl_X5_183 dX5_takesOrder_36 ?_
  refine g_top (y := (nI sp)) hsp ?_
  refine g_ialdN C sp e_49 (by omega) (by decide) dX5_takesOrder_39 ?_
  refine g_top (y := (nI (tx sp))) (htx sp hsb).1 ?_
  refine g_iastN C o e_53 (by omega) (by decide) dX5_takesOrder_40 ?_
  refine g_sgE (sg' := (us sg 53 (upd (sg 53) o (nI (tx sp))))) rfl ?_
  refine g_aload_n C 1 rfl rfl dX5_takesOrder_41 ?_
  refine g_dup C rfl dX5_takesOrder_42 ?_
  refine g_getI C (j := 13) cls5 e_44 rfl (by decide) fl_X5_183 dX5_takesOrder_43 ?_
  refine g_top (y := (nI sp)) hsp ?_
  refine g_iconst C (v := (nI 1)) (by decide) dX5_takesOrder_46 ?_
  refine g_iadd C dX5_takesOrder_47 ?_
  refine g_top (y := (nI (sp + 1))) (nI_add sp 1) ?_
  refine g_putI C (j := 13) cls5 e_44 rfl (by decide) rfl rfl fl_X5_183 dX5_takesOrder_48 ?_
  refine g_sgE (sg' := (us (us sg 53 (upd (sg 53) o (nI (tx sp)))) 44 (upd (sg 44) 13 (nI (sp + 1))))) rfl ?_
  refine g_iconst C (v := (nI 0)) (by decide) dX5_takesOrder_51 ?_
  refine g_istore_n C (L' := [(2, .int (nI 0)), (1, .int (nI 1)), (0, .ref (ad w 44))]) rfl (by decide) rfl dX5_takesOrder_52 ?_
  refine g_iload_n C 0 rfl rfl dX5_takesOrder_53 ?_
  refine g_iload_n C 1 rfl rfl dX5_takesOrder_54 ?_
  refine g_icmpN_ge C 0 1 (by omega) (by omega) (tgt := 81) (by decide) dX5_takesOrder_55 (fun h55 => absurd h55 (by decide)) (fun h55 => ?_)
  refine g_aload_n C 2 rfl rfl dX5_takesOrder_58 ?_
  refine g_iconst C (v := (nI 2)) (by decide) dX5_takesOrder_59 ?_
  refine g_aload_n C 2 rfl rfl dX5_takesOrder_60 ?_
  refine g_getI C (j := 12) cls5 e_44 rfl (by decide) fl_X5_201 dX5_takesOrder_61 ?_
  refine g_top (y := (nI o)) ho ?_
  refine g_imul C dX5_takesOrder_64 ?_
  refine g_top (y := (nI (2 * o))) (pk_mul 2 o) ?_
  refine g_iload_n C 0 rfl rfl dX5_takesOrder_65 ?_
  refine g_iadd C dX5_takesOrder_66 ?_
  refine g_top (y := (nI ((2 * o) + 0))) (nI_add (2 * o) 0) ?_
  refine g_callV1 [] C (c_X5_takesNumber_f7 w tu (us (us sg 53 (upd (sg 53) o (nI (tx sp)))) 44 (upd (sg 44) 13 (nI (sp + 1)))) ((2 * o) + 0) tx by_ (sp + 1) (by omega) hby hb rfl (hq0) htx h7_0) mt_X5_takesNumber e_44 rfl ml_X5_204 im_X5_takesNumber se_X5_takesNumber (by decide) rfl (Nat.le_of_ble_eq_true rfl) dX5_takesOrder_67 ?_
  refine g_eq (sg' := (us (us (us sg 53 (upd (sg 53) o (nI (tx sp)))) 44 (upd (sg 44) 13 (nI (sp + 1)))) 44 (upd (upd (upd (sg 44) 13 (nI (sp + 1))) 13 (nI ((rdn tx by_ 6 (sk tx by_ (sp + 1)) 0).1))) 14 (nI ((rdn tx by_ 6 (sk tx by_ (sp + 1)) 0).1))))) (L' := [(2, .int (nI 0)), (1, .int (nI 1)), (0, .ref (ad w 44))]) (S' := [.int (nI 0)]) rfl rfl rfl rfl ?_
  refine g_if_ne C (tgt := 75) (by decide) dX5_takesOrder_70 (fun h70 => absurd h70 (by decide)) (fun h70 => ?_)
  refine g_iconst C (v := (nI 0)) (by decide) dX5_takesOrder_73 ?_
  exact g_zret C E dX5_takesOrder_74 (by decide +kernel) rfl Sq.rf rfl
set_option maxRecDepth 100000 in
set_option maxHeartbeats 400000 in
theorem c_X5_takesOrder_1_1f0 (w : GW) (tu : Int64) (sg : Sg) (tx : Nat → Nat) (by_ sp : Nat) (o : Nat) (hby : sg 44 6 = nI by_) (hb : by_ ≤ 120) (hsp : sg 44 13 = nI sp) (hsb : sp < by_) (htx : ∀ j, j < by_ → sg 49 j = nI (tx j) ∧ tx j ≤ 127) (ho : sg 44 12 = nI o) (ho60 : o < 60) (hc : mnI (tx sp) = nI 1) (h7_0 : ¬ atP tx by_ 48 57 (rdn tx by_ 6 (sk tx by_ (sp + 1)) 0).1) (h0_0 : ¬ sk tx by_ (sp + 1) < (rdn tx by_ 6 (sk tx by_ (sp + 1)) 0).1)  : Kt w yX5_takesOrder cX5_takesOrder 3 (some .boolean) 4 [.ref (ad w 44)] sg tu (some (.int (nI 0))) (us (us (us (us sg 53 (upd (sg 53) o (nI (tx sp)))) 44 (upd (sg 44) 13 (nI (sp + 1)))) 44 (upd (upd (upd (sg 44) 13 (nI (sp + 1))) 13 (nI ((rdn tx by_ 6 (sk tx by_ (sp + 1)) 0).1))) 14 (nI ((rdn tx by_ 6 (sk tx by_ (sp + 1)) 0).1)))) 54 (upd (sg 54) ((2 * o) + 0) (nI ((rdn tx by_ 6 (sk tx by_ (sp + 1)) 0).2)))) tu := by
  refine Kt.of2 RX5 rfl [(0, .ref (ad w 44))] (by decide) rfl (Nat.le_of_ble_eq_true rfl) (fun z C E => ?_)
  have htx9 := (htx sp hsb).2
  have hq0 : (sp + 1) ≤ by_ := hsb
  refine g_aload_n C 0 rfl rfl dX5_takesOrder_0 ?_
  refine g_getR C (j := 5) cls5 e_44 rfl (by decide) fl_X5_22 dX5_takesOrder_1 ?_
  refine g_aload_n C 0 rfl rfl dX5_takesOrder_4 ?_
  refine g_getI C (j := 13) cls5 e_44 rfl (by decide) fl_X5_183 dX5_takesOrder_5 ?_
  refine g_top (y := (nI sp)) hsp ?_
  refine g_ialdN C sp e_49 (by omega) (by decide) dX5_takesOrder_8 ?_
  refine g_top (y := (nI (tx sp))) (htx sp hsb).1 ?_
  refine g_callS1 [] C (c_X5_manyOf w tu sg (tx sp) htx9) mt_X5_manyOf ml_X5_198 st_X5_manyOf (by decide) rfl (Nat.le_of_ble_eq_true rfl) dX5_takesOrder_9 ?_
  refine g_eq (L' := [(0, .ref (ad w 44))]) (S' := [.int (mnI (tx sp))]) rfl rfl rfl rfl ?_
  refine g_top (y := (nI 1)) hc ?_
  refine g_istore_n C (L' := [(1, .int (nI 1)), (0, .ref (ad w 44))]) rfl (by decide) rfl dX5_takesOrder_12 ?_
  refine g_iload_n C 0 rfl rfl dX5_takesOrder_13 ?_
  refine g_iconst C (v := (-1)) (by decide) dX5_takesOrder_14 ?_
  refine g_icmp_ne C (tgt := 23) (by decide) dX5_takesOrder_15 (fun h15 => ?_) (fun h15 => absurd h15 (by decide))
  refine g_aload_n C 1 rfl rfl dX5_takesOrder_23 ?_
  refine g_getR C (j := 10) cls5 e_44 rfl (by decide) fl_X5_34 dX5_takesOrder_24 ?_
  refine g_aload_n C 1 rfl rfl dX5_takesOrder_27 ?_
  refine g_getI C (j := 12) cls5 e_44 rfl (by decide) fl_X5_201 dX5_takesOrder_28 ?_
  refine g_top (y := (nI o)) ho ?_
  refine g_aload_n C 1 rfl rfl dX5_takesOrder_31 ?_
  refine g_getR C (j := 5) cls5 e_44 rfl (by decide) fl_X5_22 dX5_takesOrder_32 ?_
  refine g_aload_n C 1 rfl rfl dX5_takesOrder_35 ?_
  refine g_getI C (j := 13) cls5 e_44 rfl (by decide) fl_X5_183 dX5_takesOrder_36 ?_
  refine g_top (y := (nI sp)) hsp ?_
  refine g_ialdN C sp e_49 (by omega) (by decide) dX5_takesOrder_39 ?_
  refine g_top (y := (nI (tx sp))) (htx sp hsb).1 ?_
  refine g_iastN C o e_53 (by omega) (by decide) dX5_takesOrder_40 ?_
  refine g_sgE (sg' := (us sg 53 (upd (sg 53) o (nI (tx sp))))) rfl ?_
  refine g_aload_n C 1 rfl rfl dX5_takesOrder_41 ?_
  refine g_dup C rfl dX5_takesOrder_42 ?_
  refine g_getI C (j := 13) cls5 e_44 rfl (by decide) fl_X5_183 dX5_takesOrder_43 ?_
  refine g_top (y := (nI sp)) hsp ?_
  refine g_iconst C (v := (nI 1)) (by decide) dX5_takesOrder_46 ?_
  refine g_iadd C dX5_takesOrder_47 ?_
  refine g_top (y := (nI (sp + 1))) (nI_add sp 1) ?_
  refine g_putI C (j := 13) cls5 e_44 rfl (by decide) rfl rfl fl_X5_183 dX5_takesOrder_48 ?_
  refine g_sgE (sg' := (us (us sg 53 (upd (sg 53) o (nI (tx sp)))) 44 (upd (sg 44) 13 (nI (sp + 1))))) rfl ?_
  refine g_iconst C (v := (nI 0)) (by decide) dX5_takesOrder_51 ?_
  refine g_istore_n C (L' := [(2, .int (nI 0)), (1, .int (nI 1)), (0, .ref (ad w 44))]) rfl (by decide) rfl dX5_takesOrder_52 ?_
  refine g_iload_n C 0 rfl rfl dX5_takesOrder_53 ?_
  refine g_iload_n C 1 rfl rfl dX5_takesOrder_54 ?_
  refine g_icmpN_ge C 0 1 (by omega) (by omega) (tgt := 81) (by decide) dX5_takesOrder_55 (fun h55 => absurd h55 (by decide)) (fun h55 => ?_)
  refine g_aload_n C 2 rfl rfl dX5_takesOrder_58 ?_
  refine g_iconst C (v := (nI 2)) (by decide) dX5_takesOrder_59 ?_
  refine g_aload_n C 2 rfl rfl dX5_takesOrder_60 ?_
  refine g_getI C (j := 12) cls5 e_44 rfl (by decide) fl_X5_201 dX5_takesOrder_61 ?_
  refine g_top (y := (nI o)) ho ?_
  refine g_imul C dX5_takesOrder_64 ?_
  refine g_top (y := (nI (2 * o))) (pk_mul 2 o) ?_
  refine g_iload_n C 0 rfl rfl dX5_takesOrder_65 ?_
  refine g_iadd C dX5_takesOrder_66 ?_
  refine g_top (y := (nI ((2 * o) + 0))) (nI_add (2 * o) 0) ?_
  refine g_callV1 [] C (c_X5_takesNumber_f0 w tu (us (us sg 53 (upd (sg 53) o (nI (tx sp)))) 44 (upd (sg 44) 13 (nI (sp + 1)))) ((2 * o) + 0) tx by_ (sp + 1) (by omega) hby hb rfl (hq0) htx h7_0 h0_0) mt_X5_takesNumber e_44 rfl ml_X5_204 im_X5_takesNumber se_X5_takesNumber (by decide) rfl (Nat.le_of_ble_eq_true rfl) dX5_takesOrder_67 ?_
  refine g_eq (sg' := (us (us (us (us sg 53 (upd (sg 53) o (nI (tx sp)))) 44 (upd (sg 44) 13 (nI (sp + 1)))) 44 (upd (upd (upd (sg 44) 13 (nI (sp + 1))) 13 (nI ((rdn tx by_ 6 (sk tx by_ (sp + 1)) 0).1))) 14 (nI ((rdn tx by_ 6 (sk tx by_ (sp + 1)) 0).1)))) 54 (upd (sg 54) ((2 * o) + 0) (nI ((rdn tx by_ 6 (sk tx by_ (sp + 1)) 0).2))))) (L' := [(2, .int (nI 0)), (1, .int (nI 1)), (0, .ref (ad w 44))]) (S' := [.int (nI 0)]) rfl rfl rfl rfl ?_
  refine g_if_ne C (tgt := 75) (by decide) dX5_takesOrder_70 (fun h70 => absurd h70 (by decide)) (fun h70 => ?_)
  refine g_iconst C (v := (nI 0)) (by decide) dX5_takesOrder_73 ?_
  exact g_zret C E dX5_takesOrder_74 (by decide +kernel) rfl Sq.rf rfl
set_option maxRecDepth 100000 in
set_option maxHeartbeats 400000 in
theorem c_X5_takesOrder_2_ok (w : GW) (tu : Int64) (sg : Sg) (tx : Nat → Nat) (by_ sp : Nat) (o : Nat) (hby : sg 44 6 = nI by_) (hb : by_ ≤ 120) (hsp : sg 44 13 = nI sp) (hsb : sp < by_) (htx : ∀ j, j < by_ → sg 49 j = nI (tx j) ∧ tx j ≤ 127) (ho : sg 44 12 = nI o) (ho60 : o < 60) (hc : mnI (tx sp) = nI 2) (h7_0 : ¬ atP tx by_ 48 57 (rdn tx by_ 6 (sk tx by_ (sp + 1)) 0).1) (h0_0 : sk tx by_ (sp + 1) < (rdn tx by_ 6 (sk tx by_ (sp + 1)) 0).1) (h7_1 : ¬ atP tx by_ 48 57 (rdn tx by_ 6 (sk tx by_ (rdn tx by_ 6 (sk tx by_ (sp + 1)) 0).1) 0).1) (h0_1 : sk tx by_ (rdn tx by_ 6 (sk tx by_ (sp + 1)) 0).1 < (rdn tx by_ 6 (sk tx by_ (rdn tx by_ 6 (sk tx by_ (sp + 1)) 0).1) 0).1) (he : atP tx by_ 59 59 (sk tx by_ (rdn tx by_ 6 (sk tx by_ (rdn tx by_ 6 (sk tx by_ (sp + 1)) 0).1) 0).1))  : Kt w yX5_takesOrder cX5_takesOrder 3 (some .boolean) 4 [.ref (ad w 44)] sg tu (some (.int (nI 1))) (us (us (us (us (us (us (us sg 53 (upd (sg 53) o (nI (tx sp)))) 44 (upd (sg 44) 13 (nI (sp + 1)))) 44 (upd (upd (sg 44) 13 (nI (sp + 1))) 13 (nI ((rdn tx by_ 6 (sk tx by_ (sp + 1)) 0).1)))) 54 (upd (sg 54) ((2 * o) + 0) (nI ((rdn tx by_ 6 (sk tx by_ (sp + 1)) 0).2)))) 44 (upd (upd (upd (sg 44) 13 (nI (sp + 1))) 13 (nI ((rdn tx by_ 6 (sk tx by_ (sp + 1)) 0).1))) 13 (nI ((rdn tx by_ 6 (sk tx by_ ((rdn tx by_ 6 (sk tx by_ (sp + 1)) 0).1)) 0).1)))) 54 (upd (upd (sg 54) ((2 * o) + 0) (nI ((rdn tx by_ 6 (sk tx by_ (sp + 1)) 0).2))) ((2 * o) + 1) (nI ((rdn tx by_ 6 (sk tx by_ ((rdn tx by_ 6 (sk tx by_ (sp + 1)) 0).1)) 0).2)))) 44 (upd (upd (upd (upd (upd (upd (sg 44) 13 (nI (sp + 1))) 13 (nI ((rdn tx by_ 6 (sk tx by_ (sp + 1)) 0).1))) 13 (nI ((rdn tx by_ 6 (sk tx by_ ((rdn tx by_ 6 (sk tx by_ (sp + 1)) 0).1)) 0).1))) 13 (nI (sk tx by_ ((rdn tx by_ 6 (sk tx by_ (rdn tx by_ 6 (sk tx by_ (sp + 1)) 0).1) 0).1)))) 13 (nI ((sk tx by_ ((rdn tx by_ 6 (sk tx by_ (rdn tx by_ 6 (sk tx by_ (sp + 1)) 0).1) 0).1)) + 1))) 12 (nI (o + 1)))) tu := by
  refine Kt.of2 RX5 rfl [(0, .ref (ad w 44))] (by decide) rfl (Nat.le_of_ble_eq_true rfl) (fun z C E => ?_)
  have htx9 := (htx sp hsb).2
  have hq0 : (sp + 1) ≤ by_ := hsb
  have hq1 : (rdn tx by_ 6 (sk tx by_ (sp + 1)) 0).1 ≤ by_ := rdn_le _ _ _ (sk_le hq0)
  have hq2 : (rdn tx by_ 6 (sk tx by_ (rdn tx by_ 6 (sk tx by_ (sp + 1)) 0).1) 0).1 ≤ by_ := rdn_le _ _ _ (sk_le hq1)
  refine g_aload_n C 0 rfl rfl dX5_takesOrder_0 ?_
  refine g_getR C (j := 5) cls5 e_44 rfl (by decide) fl_X5_22 dX5_takesOrder_1 ?_
  refine g_aload_n C 0 rfl rfl dX5_takesOrder_4 ?_
  refine g_getI C (j := 13) cls5 e_44 rfl (by decide) fl_X5_183 dX5_takesOrder_5 ?_
  refine g_top (y := (nI sp)) hsp ?_
  refine g_ialdN C sp e_49 (by omega) (by decide) dX5_takesOrder_8 ?_
  refine g_top (y := (nI (tx sp))) (htx sp hsb).1 ?_
  refine g_callS1 [] C (c_X5_manyOf w tu sg (tx sp) htx9) mt_X5_manyOf ml_X5_198 st_X5_manyOf (by decide) rfl (Nat.le_of_ble_eq_true rfl) dX5_takesOrder_9 ?_
  refine g_eq (L' := [(0, .ref (ad w 44))]) (S' := [.int (mnI (tx sp))]) rfl rfl rfl rfl ?_
  refine g_top (y := (nI 2)) hc ?_
  refine g_istore_n C (L' := [(1, .int (nI 2)), (0, .ref (ad w 44))]) rfl (by decide) rfl dX5_takesOrder_12 ?_
  refine g_iload_n C 0 rfl rfl dX5_takesOrder_13 ?_
  refine g_iconst C (v := (-1)) (by decide) dX5_takesOrder_14 ?_
  refine g_icmp_ne C (tgt := 23) (by decide) dX5_takesOrder_15 (fun h15 => ?_) (fun h15 => absurd h15 (by decide))
  refine g_aload_n C 1 rfl rfl dX5_takesOrder_23 ?_
  refine g_getR C (j := 10) cls5 e_44 rfl (by decide) fl_X5_34 dX5_takesOrder_24 ?_
  refine g_aload_n C 1 rfl rfl dX5_takesOrder_27 ?_
  refine g_getI C (j := 12) cls5 e_44 rfl (by decide) fl_X5_201 dX5_takesOrder_28 ?_
  refine g_top (y := (nI o)) ho ?_
  refine g_aload_n C 1 rfl rfl dX5_takesOrder_31 ?_
  refine g_getR C (j := 5) cls5 e_44 rfl (by decide) fl_X5_22 dX5_takesOrder_32 ?_
  refine g_aload_n C 1 rfl rfl dX5_takesOrder_35 ?_
  refine g_getI C (j := 13) cls5 e_44 rfl (by decide) fl_X5_183 dX5_takesOrder_36 ?_
  refine g_top (y := (nI sp)) hsp ?_
  refine g_ialdN C sp e_49 (by omega) (by decide) dX5_takesOrder_39 ?_
  refine g_top (y := (nI (tx sp))) (htx sp hsb).1 ?_
  refine g_iastN C o e_53 (by omega) (by decide) dX5_takesOrder_40 ?_
  refine g_sgE (sg' := (us sg 53 (upd (sg 53) o (nI (tx sp))))) rfl ?_
  refine g_aload_n C 1 rfl rfl dX5_takesOrder_41 ?_
  refine g_dup C rfl dX5_takesOrder_42 ?_
  refine g_getI C (j := 13) cls5 e_44 rfl (by decide) fl_X5_183 dX5_takesOrder_43 ?_
  refine g_top (y := (nI sp)) hsp ?_
  refine g_iconst C (v := (nI 1)) (by decide) dX5_takesOrder_46 ?_
  refine g_iadd C dX5_takesOrder_47 ?_
  refine g_top (y := (nI (sp + 1))) (nI_add sp 1) ?_
  refine g_putI C (j := 13) cls5 e_44 rfl (by decide) rfl rfl fl_X5_183 dX5_takesOrder_48 ?_
  refine g_sgE (sg' := (us (us sg 53 (upd (sg 53) o (nI (tx sp)))) 44 (upd (sg 44) 13 (nI (sp + 1))))) rfl ?_
  refine g_iconst C (v := (nI 0)) (by decide) dX5_takesOrder_51 ?_
  refine g_istore_n C (L' := [(2, .int (nI 0)), (1, .int (nI 2)), (0, .ref (ad w 44))]) rfl (by decide) rfl dX5_takesOrder_52 ?_
  refine g_iload_n C 0 rfl rfl dX5_takesOrder_53 ?_
  refine g_iload_n C 1 rfl rfl dX5_takesOrder_54 ?_
  refine g_icmpN_ge C 0 2 (by omega) (by omega) (tgt := 81) (by decide) dX5_takesOrder_55 (fun h55 => absurd h55 (by decide)) (fun h55 => ?_)
  refine g_aload_n C 2 rfl rfl dX5_takesOrder_58 ?_
  refine g_iconst C (v := (nI 2)) (by decide) dX5_takesOrder_59 ?_
  refine g_aload_n C 2 rfl rfl dX5_takesOrder_60 ?_
  refine g_getI C (j := 12) cls5 e_44 rfl (by decide) fl_X5_201 dX5_takesOrder_61 ?_
  refine g_top (y := (nI o)) ho ?_
  refine g_imul C dX5_takesOrder_64 ?_
  refine g_top (y := (nI (2 * o))) (pk_mul 2 o) ?_
  refine g_iload_n C 0 rfl rfl dX5_takesOrder_65 ?_
  refine g_iadd C dX5_takesOrder_66 ?_
  refine g_top (y := (nI ((2 * o) + 0))) (nI_add (2 * o) 0) ?_
  refine g_callV1 [] C (c_X5_takesNumber_ok w tu (us (us sg 53 (upd (sg 53) o (nI (tx sp)))) 44 (upd (sg 44) 13 (nI (sp + 1)))) ((2 * o) + 0) tx by_ (sp + 1) (by omega) hby hb rfl (hq0) htx h7_0 h0_0) mt_X5_takesNumber e_44 rfl ml_X5_204 im_X5_takesNumber se_X5_takesNumber (by decide) rfl (Nat.le_of_ble_eq_true rfl) dX5_takesOrder_67 ?_
  refine g_eq (sg' := (us (us (us (us sg 53 (upd (sg 53) o (nI (tx sp)))) 44 (upd (sg 44) 13 (nI (sp + 1)))) 44 (upd (upd (sg 44) 13 (nI (sp + 1))) 13 (nI ((rdn tx by_ 6 (sk tx by_ (sp + 1)) 0).1)))) 54 (upd (sg 54) ((2 * o) + 0) (nI ((rdn tx by_ 6 (sk tx by_ (sp + 1)) 0).2))))) (L' := [(2, .int (nI 0)), (1, .int (nI 2)), (0, .ref (ad w 44))]) (S' := [.int (nI 1)]) rfl rfl rfl rfl ?_
  refine g_if_ne C (tgt := 75) (by decide) dX5_takesOrder_70 (fun h70 => ?_) (fun h70 => absurd h70 (by decide))
  refine g_iinc C (n := 1) (v := (nI 1)) (L' := [(2, .int (nI 1)), (1, .int (nI 2)), (0, .ref (ad w 44))]) 0 rfl (nI_add 0 1) (by decide) rfl dX5_takesOrder_75 ?_
  refine g_goto C (tgt := 53) (by decide) dX5_takesOrder_78 ?_
  refine g_iload_n C 0 rfl rfl dX5_takesOrder_53 ?_
  refine g_iload_n C 1 rfl rfl dX5_takesOrder_54 ?_
  refine g_icmpN_ge C 1 2 (by omega) (by omega) (tgt := 81) (by decide) dX5_takesOrder_55 (fun h55 => absurd h55 (by decide)) (fun h55 => ?_)
  refine g_aload_n C 2 rfl rfl dX5_takesOrder_58 ?_
  refine g_iconst C (v := (nI 2)) (by decide) dX5_takesOrder_59 ?_
  refine g_aload_n C 2 rfl rfl dX5_takesOrder_60 ?_
  refine g_getI C (j := 12) cls5 e_44 rfl (by decide) fl_X5_201 dX5_takesOrder_61 ?_
  refine g_top (y := (nI o)) ho ?_
  refine g_imul C dX5_takesOrder_64 ?_
  refine g_top (y := (nI (2 * o))) (pk_mul 2 o) ?_
  refine g_iload_n C 0 rfl rfl dX5_takesOrder_65 ?_
  refine g_iadd C dX5_takesOrder_66 ?_
  refine g_top (y := (nI ((2 * o) + 1))) (nI_add (2 * o) 1) ?_
  refine g_callV1 [] C (c_X5_takesNumber_ok w tu (us (us (us (us sg 53 (upd (sg 53) o (nI (tx sp)))) 44 (upd (sg 44) 13 (nI (sp + 1)))) 44 (upd (upd (sg 44) 13 (nI (sp + 1))) 13 (nI ((rdn tx by_ 6 (sk tx by_ (sp + 1)) 0).1)))) 54 (upd (sg 54) ((2 * o) + 0) (nI ((rdn tx by_ 6 (sk tx by_ (sp + 1)) 0).2)))) ((2 * o) + 1) tx by_ ((rdn tx by_ 6 (sk tx by_ (sp + 1)) 0).1) (by omega) hby hb rfl (hq1) htx h7_1 h0_1) mt_X5_takesNumber e_44 rfl ml_X5_204 im_X5_takesNumber se_X5_takesNumber (by decide) rfl (Nat.le_of_ble_eq_true rfl) dX5_takesOrder_67 ?_
  refine g_eq (sg' := (us (us (us (us (us (us sg 53 (upd (sg 53) o (nI (tx sp)))) 44 (upd (sg 44) 13 (nI (sp + 1)))) 44 (upd (upd (sg 44) 13 (nI (sp + 1))) 13 (nI ((rdn tx by_ 6 (sk tx by_ (sp + 1)) 0).1)))) 54 (upd (sg 54) ((2 * o) + 0) (nI ((rdn tx by_ 6 (sk tx by_ (sp + 1)) 0).2)))) 44 (upd (upd (upd (sg 44) 13 (nI (sp + 1))) 13 (nI ((rdn tx by_ 6 (sk tx by_ (sp + 1)) 0).1))) 13 (nI ((rdn tx by_ 6 (sk tx by_ ((rdn tx by_ 6 (sk tx by_ (sp + 1)) 0).1)) 0).1)))) 54 (upd (upd (sg 54) ((2 * o) + 0) (nI ((rdn tx by_ 6 (sk tx by_ (sp + 1)) 0).2))) ((2 * o) + 1) (nI ((rdn tx by_ 6 (sk tx by_ ((rdn tx by_ 6 (sk tx by_ (sp + 1)) 0).1)) 0).2))))) (L' := [(2, .int (nI 1)), (1, .int (nI 2)), (0, .ref (ad w 44))]) (S' := [.int (nI 1)]) rfl rfl rfl rfl ?_
  refine g_if_ne C (tgt := 75) (by decide) dX5_takesOrder_70 (fun h70 => ?_) (fun h70 => absurd h70 (by decide))
  refine g_iinc C (n := 1) (v := (nI 2)) (L' := [(2, .int (nI 2)), (1, .int (nI 2)), (0, .ref (ad w 44))]) 0 rfl (nI_add 1 1) (by decide) rfl dX5_takesOrder_75 ?_
  refine g_goto C (tgt := 53) (by decide) dX5_takesOrder_78 ?_
  refine g_iload_n C 0 rfl rfl dX5_takesOrder_53 ?_
  refine g_iload_n C 1 rfl rfl dX5_takesOrder_54 ?_
  refine g_icmpN_ge C 2 2 (by omega) (by omega) (tgt := 81) (by decide) dX5_takesOrder_55 (fun h55 => ?_) (fun h55 => absurd h55 (by decide))
  refine g_aload_n C 2 rfl rfl dX5_takesOrder_81 ?_
  refine g_callV0 [] C (c_X5_blanks w tu (us (us (us (us (us (us sg 53 (upd (sg 53) o (nI (tx sp)))) 44 (upd (sg 44) 13 (nI (sp + 1)))) 44 (upd (upd (sg 44) 13 (nI (sp + 1))) 13 (nI ((rdn tx by_ 6 (sk tx by_ (sp + 1)) 0).1)))) 54 (upd (sg 54) ((2 * o) + 0) (nI ((rdn tx by_ 6 (sk tx by_ (sp + 1)) 0).2)))) 44 (upd (upd (upd (sg 44) 13 (nI (sp + 1))) 13 (nI ((rdn tx by_ 6 (sk tx by_ (sp + 1)) 0).1))) 13 (nI ((rdn tx by_ 6 (sk tx by_ ((rdn tx by_ 6 (sk tx by_ (sp + 1)) 0).1)) 0).1)))) 54 (upd (upd (sg 54) ((2 * o) + 0) (nI ((rdn tx by_ 6 (sk tx by_ (sp + 1)) 0).2))) ((2 * o) + 1) (nI ((rdn tx by_ 6 (sk tx by_ ((rdn tx by_ 6 (sk tx by_ (sp + 1)) 0).1)) 0).2))))  tx by_ ((rdn tx by_ 6 (sk tx by_ (rdn tx by_ 6 (sk tx by_ (sp + 1)) 0).1) 0).1) hby hb rfl hq2 htx) mt_X5_blanks e_44 rfl ml_X5_192 im_X5_blanks se_X5_blanks (by decide) rfl (Nat.le_of_ble_eq_true rfl) dX5_takesOrder_82 ?_
  refine g_eq (sg' := (us (us (us (us (us (us (us sg 53 (upd (sg 53) o (nI (tx sp)))) 44 (upd (sg 44) 13 (nI (sp + 1)))) 44 (upd (upd (sg 44) 13 (nI (sp + 1))) 13 (nI ((rdn tx by_ 6 (sk tx by_ (sp + 1)) 0).1)))) 54 (upd (sg 54) ((2 * o) + 0) (nI ((rdn tx by_ 6 (sk tx by_ (sp + 1)) 0).2)))) 44 (upd (upd (upd (sg 44) 13 (nI (sp + 1))) 13 (nI ((rdn tx by_ 6 (sk tx by_ (sp + 1)) 0).1))) 13 (nI ((rdn tx by_ 6 (sk tx by_ ((rdn tx by_ 6 (sk tx by_ (sp + 1)) 0).1)) 0).1)))) 54 (upd (upd (sg 54) ((2 * o) + 0) (nI ((rdn tx by_ 6 (sk tx by_ (sp + 1)) 0).2))) ((2 * o) + 1) (nI ((rdn tx by_ 6 (sk tx by_ ((rdn tx by_ 6 (sk tx by_ (sp + 1)) 0).1)) 0).2)))) 44 (upd (upd (upd (upd (sg 44) 13 (nI (sp + 1))) 13 (nI ((rdn tx by_ 6 (sk tx by_ (sp + 1)) 0).1))) 13 (nI ((rdn tx by_ 6 (sk tx by_ ((rdn tx by_ 6 (sk tx by_ (sp + 1)) 0).1)) 0).1))) 13 (nI (sk tx by_ ((rdn tx by_ 6 (sk tx by_ (rdn tx by_ 6 (sk tx by_ (sp + 1)) 0).1) 0).1)))))) (L' := [(2, .int (nI 2)), (1, .int (nI 2)), (0, .ref (ad w 44))]) (S' := []) rfl rfl rfl rfl ?_
  refine g_aload_n C 2 rfl rfl dX5_takesOrder_85 ?_
  refine g_bipush C (v := (nI 59)) (by decide) dX5_takesOrder_86 ?_
  refine g_bipush C (v := (nI 59)) (by decide) dX5_takesOrder_88 ?_
  refine g_callV1 [] C (c_X5_isAt w tu (us (us (us (us (us (us (us sg 53 (upd (sg 53) o (nI (tx sp)))) 44 (upd (sg 44) 13 (nI (sp + 1)))) 44 (upd (upd (sg 44) 13 (nI (sp + 1))) 13 (nI ((rdn tx by_ 6 (sk tx by_ (sp + 1)) 0).1)))) 54 (upd (sg 54) ((2 * o) + 0) (nI ((rdn tx by_ 6 (sk tx by_ (sp + 1)) 0).2)))) 44 (upd (upd (upd (sg 44) 13 (nI (sp + 1))) 13 (nI ((rdn tx by_ 6 (sk tx by_ (sp + 1)) 0).1))) 13 (nI ((rdn tx by_ 6 (sk tx by_ ((rdn tx by_ 6 (sk tx by_ (sp + 1)) 0).1)) 0).1)))) 54 (upd (upd (sg 54) ((2 * o) + 0) (nI ((rdn tx by_ 6 (sk tx by_ (sp + 1)) 0).2))) ((2 * o) + 1) (nI ((rdn tx by_ 6 (sk tx by_ ((rdn tx by_ 6 (sk tx by_ (sp + 1)) 0).1)) 0).2)))) 44 (upd (upd (upd (upd (sg 44) 13 (nI (sp + 1))) 13 (nI ((rdn tx by_ 6 (sk tx by_ (sp + 1)) 0).1))) 13 (nI ((rdn tx by_ 6 (sk tx by_ ((rdn tx by_ 6 (sk tx by_ (sp + 1)) 0).1)) 0).1))) 13 (nI (sk tx by_ ((rdn tx by_ 6 (sk tx by_ (rdn tx by_ 6 (sk tx by_ (sp + 1)) 0).1) 0).1))))) 59 59 tx by_ (sk tx by_ (rdn tx by_ 6 (sk tx by_ (rdn tx by_ 6 (sk tx by_ (sp + 1)) 0).1) 0).1) (by decide) (by decide) hby hb rfl (sk_le hq2) htx) mt_X5_isAt e_44 rfl ml_X5_186 im_X5_isAt se_X5_isAt (by decide) rfl (Nat.le_of_ble_eq_true rfl) dX5_takesOrder_90 ?_
  refine g_eq (L' := [(2, .int (nI 2)), (1, .int (nI 2)), (0, .ref (ad w 44))]) (S' := [.int (bI (atP tx by_ 59 59 (sk tx by_ (rdn tx by_ 6 (sk tx by_ (rdn tx by_ 6 (sk tx by_ (sp + 1)) 0).1) 0).1)))]) rfl rfl rfl rfl ?_
  refine g_bif_ne C (tgt := 101) (by decide) dX5_takesOrder_93 (fun h93 => ?_) (fun h93 => absurd he h93)
  refine g_aload_n C 2 rfl rfl dX5_takesOrder_101 ?_
  refine g_dup C rfl dX5_takesOrder_102 ?_
  refine g_getI C (j := 13) cls5 e_44 rfl (by decide) fl_X5_183 dX5_takesOrder_103 ?_
  refine g_top (y := (nI (sk tx by_ ((rdn tx by_ 6 (sk tx by_ (rdn tx by_ 6 (sk tx by_ (sp + 1)) 0).1) 0).1)))) rfl ?_
  refine g_iconst C (v := (nI 1)) (by decide) dX5_takesOrder_106 ?_
  refine g_iadd C dX5_takesOrder_107 ?_
  refine g_top (y := (nI ((sk tx by_ ((rdn tx by_ 6 (sk tx by_ (rdn tx by_ 6 (sk tx by_ (sp + 1)) 0).1) 0).1)) + 1))) (nI_add (sk tx by_ ((rdn tx by_ 6 (sk tx by_ (rdn tx by_ 6 (sk tx by_ (sp + 1)) 0).1) 0).1)) 1) ?_
  refine g_putI C (j := 13) cls5 e_44 rfl (by decide) rfl rfl fl_X5_183 dX5_takesOrder_108 ?_
  refine g_sgE (sg' := (us (us (us (us (us (us (us sg 53 (upd (sg 53) o (nI (tx sp)))) 44 (upd (sg 44) 13 (nI (sp + 1)))) 44 (upd (upd (sg 44) 13 (nI (sp + 1))) 13 (nI ((rdn tx by_ 6 (sk tx by_ (sp + 1)) 0).1)))) 54 (upd (sg 54) ((2 * o) + 0) (nI ((rdn tx by_ 6 (sk tx by_ (sp + 1)) 0).2)))) 44 (upd (upd (upd (sg 44) 13 (nI (sp + 1))) 13 (nI ((rdn tx by_ 6 (sk tx by_ (sp + 1)) 0).1))) 13 (nI ((rdn tx by_ 6 (sk tx by_ ((rdn tx by_ 6 (sk tx by_ (sp + 1)) 0).1)) 0).1)))) 54 (upd (upd (sg 54) ((2 * o) + 0) (nI ((rdn tx by_ 6 (sk tx by_ (sp + 1)) 0).2))) ((2 * o) + 1) (nI ((rdn tx by_ 6 (sk tx by_ ((rdn tx by_ 6 (sk tx by_ (sp + 1)) 0).1)) 0).2)))) 44 (upd (upd (upd (upd (upd (sg 44) 13 (nI (sp + 1))) 13 (nI ((rdn tx by_ 6 (sk tx by_ (sp + 1)) 0).1))) 13 (nI ((rdn tx by_ 6 (sk tx by_ ((rdn tx by_ 6 (sk tx by_ (sp + 1)) 0).1)) 0).1))) 13 (nI (sk tx by_ ((rdn tx by_ 6 (sk tx by_ (rdn tx by_ 6 (sk tx by_ (sp + 1)) 0).1) 0).1)))) 13 (nI ((sk tx by_ ((rdn tx by_ 6 (sk tx by_ (rdn tx by_ 6 (sk tx by_ (sp + 1)) 0).1) 0).1)) + 1))))) us_us ?_
  refine g_aload_n C 2 rfl rfl dX5_takesOrder_111 ?_
  refine g_dup C rfl dX5_takesOrder_112 ?_
  refine g_getI C (j := 12) cls5 e_44 rfl (by decide) fl_X5_201 dX5_takesOrder_113 ?_
  refine g_top (y := (nI o)) ho ?_
  refine g_iconst C (v := (nI 1)) (by decide) dX5_takesOrder_116 ?_
  refine g_iadd C dX5_takesOrder_117 ?_
  refine g_top (y := (nI (o + 1))) (nI_add o 1) ?_
  refine g_putI C (j := 12) cls5 e_44 rfl (by decide) rfl rfl fl_X5_201 dX5_takesOrder_118 ?_
  refine g_sgE (sg' := (us (us (us (us (us (us (us sg 53 (upd (sg 53) o (nI (tx sp)))) 44 (upd (sg 44) 13 (nI (sp + 1)))) 44 (upd (upd (sg 44) 13 (nI (sp + 1))) 13 (nI ((rdn tx by_ 6 (sk tx by_ (sp + 1)) 0).1)))) 54 (upd (sg 54) ((2 * o) + 0) (nI ((rdn tx by_ 6 (sk tx by_ (sp + 1)) 0).2)))) 44 (upd (upd (upd (sg 44) 13 (nI (sp + 1))) 13 (nI ((rdn tx by_ 6 (sk tx by_ (sp + 1)) 0).1))) 13 (nI ((rdn tx by_ 6 (sk tx by_ ((rdn tx by_ 6 (sk tx by_ (sp + 1)) 0).1)) 0).1)))) 54 (upd (upd (sg 54) ((2 * o) + 0) (nI ((rdn tx by_ 6 (sk tx by_ (sp + 1)) 0).2))) ((2 * o) + 1) (nI ((rdn tx by_ 6 (sk tx by_ ((rdn tx by_ 6 (sk tx by_ (sp + 1)) 0).1)) 0).2)))) 44 (upd (upd (upd (upd (upd (upd (sg 44) 13 (nI (sp + 1))) 13 (nI ((rdn tx by_ 6 (sk tx by_ (sp + 1)) 0).1))) 13 (nI ((rdn tx by_ 6 (sk tx by_ ((rdn tx by_ 6 (sk tx by_ (sp + 1)) 0).1)) 0).1))) 13 (nI (sk tx by_ ((rdn tx by_ 6 (sk tx by_ (rdn tx by_ 6 (sk tx by_ (sp + 1)) 0).1) 0).1)))) 13 (nI ((sk tx by_ ((rdn tx by_ 6 (sk tx by_ (rdn tx by_ 6 (sk tx by_ (sp + 1)) 0).1) 0).1)) + 1))) 12 (nI (o + 1))))) us_us ?_
  refine g_iconst C (v := (nI 1)) (by decide) dX5_takesOrder_121 ?_
  exact g_zret C E dX5_takesOrder_122 (by decide +kernel) rfl Sq.rf rfl
set_option maxRecDepth 100000 in
set_option maxHeartbeats 400000 in
theorem c_X5_takesOrder_2_e (w : GW) (tu : Int64) (sg : Sg) (tx : Nat → Nat) (by_ sp : Nat) (o : Nat) (hby : sg 44 6 = nI by_) (hb : by_ ≤ 120) (hsp : sg 44 13 = nI sp) (hsb : sp < by_) (htx : ∀ j, j < by_ → sg 49 j = nI (tx j) ∧ tx j ≤ 127) (ho : sg 44 12 = nI o) (ho60 : o < 60) (hc : mnI (tx sp) = nI 2) (h7_0 : ¬ atP tx by_ 48 57 (rdn tx by_ 6 (sk tx by_ (sp + 1)) 0).1) (h0_0 : sk tx by_ (sp + 1) < (rdn tx by_ 6 (sk tx by_ (sp + 1)) 0).1) (h7_1 : ¬ atP tx by_ 48 57 (rdn tx by_ 6 (sk tx by_ (rdn tx by_ 6 (sk tx by_ (sp + 1)) 0).1) 0).1) (h0_1 : sk tx by_ (rdn tx by_ 6 (sk tx by_ (sp + 1)) 0).1 < (rdn tx by_ 6 (sk tx by_ (rdn tx by_ 6 (sk tx by_ (sp + 1)) 0).1) 0).1) (he : ¬ atP tx by_ 59 59 (sk tx by_ (rdn tx by_ 6 (sk tx by_ (rdn tx by_ 6 (sk tx by_ (sp + 1)) 0).1) 0).1))  : Kt w yX5_takesOrder cX5_takesOrder 3 (some .boolean) 4 [.ref (ad w 44)] sg tu (some (.int (nI 0))) (us (us (us (us (us (us (us (us sg 53 (upd (sg 53) o (nI (tx sp)))) 44 (upd (sg 44) 13 (nI (sp + 1)))) 44 (upd (upd (sg 44) 13 (nI (sp + 1))) 13 (nI ((rdn tx by_ 6 (sk tx by_ (sp + 1)) 0).1)))) 54 (upd (sg 54) ((2 * o) + 0) (nI ((rdn tx by_ 6 (sk tx by_ (sp + 1)) 0).2)))) 44 (upd (upd (upd (sg 44) 13 (nI (sp + 1))) 13 (nI ((rdn tx by_ 6 (sk tx by_ (sp + 1)) 0).1))) 13 (nI ((rdn tx by_ 6 (sk tx by_ ((rdn tx by_ 6 (sk tx by_ (sp + 1)) 0).1)) 0).1)))) 54 (upd (upd (sg 54) ((2 * o) + 0) (nI ((rdn tx by_ 6 (sk tx by_ (sp + 1)) 0).2))) ((2 * o) + 1) (nI ((rdn tx by_ 6 (sk tx by_ ((rdn tx by_ 6 (sk tx by_ (sp + 1)) 0).1)) 0).2)))) 44 (upd (upd (upd (upd (sg 44) 13 (nI (sp + 1))) 13 (nI ((rdn tx by_ 6 (sk tx by_ (sp + 1)) 0).1))) 13 (nI ((rdn tx by_ 6 (sk tx by_ ((rdn tx by_ 6 (sk tx by_ (sp + 1)) 0).1)) 0).1))) 13 (nI (sk tx by_ ((rdn tx by_ 6 (sk tx by_ (rdn tx by_ 6 (sk tx by_ (sp + 1)) 0).1) 0).1))))) 44 (upd (upd (upd (upd (upd (sg 44) 13 (nI (sp + 1))) 13 (nI ((rdn tx by_ 6 (sk tx by_ (sp + 1)) 0).1))) 13 (nI ((rdn tx by_ 6 (sk tx by_ ((rdn tx by_ 6 (sk tx by_ (sp + 1)) 0).1)) 0).1))) 13 (nI (sk tx by_ ((rdn tx by_ 6 (sk tx by_ (rdn tx by_ 6 (sk tx by_ (sp + 1)) 0).1) 0).1)))) 14 (nI (sk tx by_ ((rdn tx by_ 6 (sk tx by_ (rdn tx by_ 6 (sk tx by_ (sp + 1)) 0).1) 0).1))))) tu := by
  refine Kt.of2 RX5 rfl [(0, .ref (ad w 44))] (by decide) rfl (Nat.le_of_ble_eq_true rfl) (fun z C E => ?_)
  have htx9 := (htx sp hsb).2
  have hq0 : (sp + 1) ≤ by_ := hsb
  have hq1 : (rdn tx by_ 6 (sk tx by_ (sp + 1)) 0).1 ≤ by_ := rdn_le _ _ _ (sk_le hq0)
  have hq2 : (rdn tx by_ 6 (sk tx by_ (rdn tx by_ 6 (sk tx by_ (sp + 1)) 0).1) 0).1 ≤ by_ := rdn_le _ _ _ (sk_le hq1)
  refine g_aload_n C 0 rfl rfl dX5_takesOrder_0 ?_
  refine g_getR C (j := 5) cls5 e_44 rfl (by decide) fl_X5_22 dX5_takesOrder_1 ?_
  refine g_aload_n C 0 rfl rfl dX5_takesOrder_4 ?_
  refine g_getI C (j := 13) cls5 e_44 rfl (by decide) fl_X5_183 dX5_takesOrder_5 ?_
  refine g_top (y := (nI sp)) hsp ?_
  refine g_ialdN C sp e_49 (by omega) (by decide) dX5_takesOrder_8 ?_
  refine g_top (y := (nI (tx sp))) (htx sp hsb).1 ?_
  refine g_callS1 [] C (c_X5_manyOf w tu sg (tx sp) htx9) mt_X5_manyOf ml_X5_198 st_X5_manyOf (by decide) rfl (Nat.le_of_ble_eq_true rfl) dX5_takesOrder_9 ?_
  refine g_eq (L' := [(0, .ref (ad w 44))]) (S' := [.int (mnI (tx sp))]) rfl rfl rfl rfl ?_
  refine g_top (y := (nI 2)) hc ?_
  refine g_istore_n C (L' := [(1, .int (nI 2)), (0, .ref (ad w 44))]) rfl (by decide) rfl dX5_takesOrder_12 ?_
  refine g_iload_n C 0 rfl rfl dX5_takesOrder_13 ?_
  refine g_iconst C (v := (-1)) (by decide) dX5_takesOrder_14 ?_
  refine g_icmp_ne C (tgt := 23) (by decide) dX5_takesOrder_15 (fun h15 => ?_) (fun h15 => absurd h15 (by decide))
  refine g_aload_n C 1 rfl rfl dX5_takesOrder_23 ?_
  refine g_getR C (j := 10) cls5 e_44 rfl (by decide) fl_X5_34 dX5_takesOrder_24 ?_
  refine g_aload_n C 1 rfl rfl dX5_takesOrder_27 ?_
  refine g_getI C (j := 12) cls5 e_44 rfl (by decide) fl_X5_201 dX5_takesOrder_28 ?_
  refine g_top (y := (nI o)) ho ?_
  refine g_aload_n C 1 rfl rfl dX5_takesOrder_31 ?_
  refine g_getR C (j := 5) cls5 e_44 rfl (by decide) fl_X5_22 dX5_takesOrder_32 ?_
  refine g_aload_n C 1 rfl rfl dX5_takesOrder_35 ?_
  refine g_getI C (j := 13) cls5 e_44 rfl (by decide) fl_X5_183 dX5_takesOrder_36 ?_
  refine g_top (y := (nI sp)) hsp ?_
  refine g_ialdN C sp e_49 (by omega) (by decide) dX5_takesOrder_39 ?_
  refine g_top (y := (nI (tx sp))) (htx sp hsb).1 ?_
  refine g_iastN C o e_53 (by omega) (by decide) dX5_takesOrder_40 ?_
  refine g_sgE (sg' := (us sg 53 (upd (sg 53) o (nI (tx sp))))) rfl ?_
  refine g_aload_n C 1 rfl rfl dX5_takesOrder_41 ?_
  refine g_dup C rfl dX5_takesOrder_42 ?_
  refine g_getI C (j := 13) cls5 e_44 rfl (by decide) fl_X5_183 dX5_takesOrder_43 ?_
  refine g_top (y := (nI sp)) hsp ?_
  refine g_iconst C (v := (nI 1)) (by decide) dX5_takesOrder_46 ?_
  refine g_iadd C dX5_takesOrder_47 ?_
  refine g_top (y := (nI (sp + 1))) (nI_add sp 1) ?_
  refine g_putI C (j := 13) cls5 e_44 rfl (by decide) rfl rfl fl_X5_183 dX5_takesOrder_48 ?_
  refine g_sgE (sg' := (us (us sg 53 (upd (sg 53) o (nI (tx sp)))) 44 (upd (sg 44) 13 (nI (sp + 1))))) rfl ?_
  refine g_iconst C (v := (nI 0)) (by decide) dX5_takesOrder_51 ?_
  refine g_istore_n C (L' := [(2, .int (nI 0)), (1, .int (nI 2)), (0, .ref (ad w 44))]) rfl (by decide) rfl dX5_takesOrder_52 ?_
  refine g_iload_n C 0 rfl rfl dX5_takesOrder_53 ?_
  refine g_iload_n C 1 rfl rfl dX5_takesOrder_54 ?_
  refine g_icmpN_ge C 0 2 (by omega) (by omega) (tgt := 81) (by decide) dX5_takesOrder_55 (fun h55 => absurd h55 (by decide)) (fun h55 => ?_)
  refine g_aload_n C 2 rfl rfl dX5_takesOrder_58 ?_
  refine g_iconst C (v := (nI 2)) (by decide) dX5_takesOrder_59 ?_
  refine g_aload_n C 2 rfl rfl dX5_takesOrder_60 ?_
  refine g_getI C (j := 12) cls5 e_44 rfl (by decide) fl_X5_201 dX5_takesOrder_61 ?_
  refine g_top (y := (nI o)) ho ?_
  refine g_imul C dX5_takesOrder_64 ?_
  refine g_top (y := (nI (2 * o))) (pk_mul 2 o) ?_
  refine g_iload_n C 0 rfl rfl dX5_takesOrder_65 ?_
  refine g_iadd C dX5_takesOrder_66 ?_
  refine g_top (y := (nI ((2 * o) + 0))) (nI_add (2 * o) 0) ?_
  refine g_callV1 [] C (c_X5_takesNumber_ok w tu (us (us sg 53 (upd (sg 53) o (nI (tx sp)))) 44 (upd (sg 44) 13 (nI (sp + 1)))) ((2 * o) + 0) tx by_ (sp + 1) (by omega) hby hb rfl (hq0) htx h7_0 h0_0) mt_X5_takesNumber e_44 rfl ml_X5_204 im_X5_takesNumber se_X5_takesNumber (by decide) rfl (Nat.le_of_ble_eq_true rfl) dX5_takesOrder_67 ?_
  refine g_eq (sg' := (us (us (us (us sg 53 (upd (sg 53) o (nI (tx sp)))) 44 (upd (sg 44) 13 (nI (sp + 1)))) 44 (upd (upd (sg 44) 13 (nI (sp + 1))) 13 (nI ((rdn tx by_ 6 (sk tx by_ (sp + 1)) 0).1)))) 54 (upd (sg 54) ((2 * o) + 0) (nI ((rdn tx by_ 6 (sk tx by_ (sp + 1)) 0).2))))) (L' := [(2, .int (nI 0)), (1, .int (nI 2)), (0, .ref (ad w 44))]) (S' := [.int (nI 1)]) rfl rfl rfl rfl ?_
  refine g_if_ne C (tgt := 75) (by decide) dX5_takesOrder_70 (fun h70 => ?_) (fun h70 => absurd h70 (by decide))
  refine g_iinc C (n := 1) (v := (nI 1)) (L' := [(2, .int (nI 1)), (1, .int (nI 2)), (0, .ref (ad w 44))]) 0 rfl (nI_add 0 1) (by decide) rfl dX5_takesOrder_75 ?_
  refine g_goto C (tgt := 53) (by decide) dX5_takesOrder_78 ?_
  refine g_iload_n C 0 rfl rfl dX5_takesOrder_53 ?_
  refine g_iload_n C 1 rfl rfl dX5_takesOrder_54 ?_
  refine g_icmpN_ge C 1 2 (by omega) (by omega) (tgt := 81) (by decide) dX5_takesOrder_55 (fun h55 => absurd h55 (by decide)) (fun h55 => ?_)
  refine g_aload_n C 2 rfl rfl dX5_takesOrder_58 ?_
  refine g_iconst C (v := (nI 2)) (by decide) dX5_takesOrder_59 ?_
  refine g_aload_n C 2 rfl rfl dX5_takesOrder_60 ?_
  refine g_getI C (j := 12) cls5 e_44 rfl (by decide) fl_X5_201 dX5_takesOrder_61 ?_
  refine g_top (y := (nI o)) ho ?_
  refine g_imul C dX5_takesOrder_64 ?_
  refine g_top (y := (nI (2 * o))) (pk_mul 2 o) ?_
  refine g_iload_n C 0 rfl rfl dX5_takesOrder_65 ?_
  refine g_iadd C dX5_takesOrder_66 ?_
  refine g_top (y := (nI ((2 * o) + 1))) (nI_add (2 * o) 1) ?_
  refine g_callV1 [] C (c_X5_takesNumber_ok w tu (us (us (us (us sg 53 (upd (sg 53) o (nI (tx sp)))) 44 (upd (sg 44) 13 (nI (sp + 1)))) 44 (upd (upd (sg 44) 13 (nI (sp + 1))) 13 (nI ((rdn tx by_ 6 (sk tx by_ (sp + 1)) 0).1)))) 54 (upd (sg 54) ((2 * o) + 0) (nI ((rdn tx by_ 6 (sk tx by_ (sp + 1)) 0).2)))) ((2 * o) + 1) tx by_ ((rdn tx by_ 6 (sk tx by_ (sp + 1)) 0).1) (by omega) hby hb rfl (hq1) htx h7_1 h0_1) mt_X5_takesNumber e_44 rfl ml_X5_204 im_X5_takesNumber se_X5_takesNumber (by decide) rfl (Nat.le_of_ble_eq_true rfl) dX5_takesOrder_67 ?_
  refine g_eq (sg' := (us (us (us (us (us (us sg 53 (upd (sg 53) o (nI (tx sp)))) 44 (upd (sg 44) 13 (nI (sp + 1)))) 44 (upd (upd (sg 44) 13 (nI (sp + 1))) 13 (nI ((rdn tx by_ 6 (sk tx by_ (sp + 1)) 0).1)))) 54 (upd (sg 54) ((2 * o) + 0) (nI ((rdn tx by_ 6 (sk tx by_ (sp + 1)) 0).2)))) 44 (upd (upd (upd (sg 44) 13 (nI (sp + 1))) 13 (nI ((rdn tx by_ 6 (sk tx by_ (sp + 1)) 0).1))) 13 (nI ((rdn tx by_ 6 (sk tx by_ ((rdn tx by_ 6 (sk tx by_ (sp + 1)) 0).1)) 0).1)))) 54 (upd (upd (sg 54) ((2 * o) + 0) (nI ((rdn tx by_ 6 (sk tx by_ (sp + 1)) 0).2))) ((2 * o) + 1) (nI ((rdn tx by_ 6 (sk tx by_ ((rdn tx by_ 6 (sk tx by_ (sp + 1)) 0).1)) 0).2))))) (L' := [(2, .int (nI 1)), (1, .int (nI 2)), (0, .ref (ad w 44))]) (S' := [.int (nI 1)]) rfl rfl rfl rfl ?_
  refine g_if_ne C (tgt := 75) (by decide) dX5_takesOrder_70 (fun h70 => ?_) (fun h70 => absurd h70 (by decide))
  refine g_iinc C (n := 1) (v := (nI 2)) (L' := [(2, .int (nI 2)), (1, .int (nI 2)), (0, .ref (ad w 44))]) 0 rfl (nI_add 1 1) (by decide) rfl dX5_takesOrder_75 ?_
  refine g_goto C (tgt := 53) (by decide) dX5_takesOrder_78 ?_
  refine g_iload_n C 0 rfl rfl dX5_takesOrder_53 ?_
  refine g_iload_n C 1 rfl rfl dX5_takesOrder_54 ?_
  refine g_icmpN_ge C 2 2 (by omega) (by omega) (tgt := 81) (by decide) dX5_takesOrder_55 (fun h55 => ?_) (fun h55 => absurd h55 (by decide))
  refine g_aload_n C 2 rfl rfl dX5_takesOrder_81 ?_
  refine g_callV0 [] C (c_X5_blanks w tu (us (us (us (us (us (us sg 53 (upd (sg 53) o (nI (tx sp)))) 44 (upd (sg 44) 13 (nI (sp + 1)))) 44 (upd (upd (sg 44) 13 (nI (sp + 1))) 13 (nI ((rdn tx by_ 6 (sk tx by_ (sp + 1)) 0).1)))) 54 (upd (sg 54) ((2 * o) + 0) (nI ((rdn tx by_ 6 (sk tx by_ (sp + 1)) 0).2)))) 44 (upd (upd (upd (sg 44) 13 (nI (sp + 1))) 13 (nI ((rdn tx by_ 6 (sk tx by_ (sp + 1)) 0).1))) 13 (nI ((rdn tx by_ 6 (sk tx by_ ((rdn tx by_ 6 (sk tx by_ (sp + 1)) 0).1)) 0).1)))) 54 (upd (upd (sg 54) ((2 * o) + 0) (nI ((rdn tx by_ 6 (sk tx by_ (sp + 1)) 0).2))) ((2 * o) + 1) (nI ((rdn tx by_ 6 (sk tx by_ ((rdn tx by_ 6 (sk tx by_ (sp + 1)) 0).1)) 0).2))))  tx by_ ((rdn tx by_ 6 (sk tx by_ (rdn tx by_ 6 (sk tx by_ (sp + 1)) 0).1) 0).1) hby hb rfl hq2 htx) mt_X5_blanks e_44 rfl ml_X5_192 im_X5_blanks se_X5_blanks (by decide) rfl (Nat.le_of_ble_eq_true rfl) dX5_takesOrder_82 ?_
  refine g_eq (sg' := (us (us (us (us (us (us (us sg 53 (upd (sg 53) o (nI (tx sp)))) 44 (upd (sg 44) 13 (nI (sp + 1)))) 44 (upd (upd (sg 44) 13 (nI (sp + 1))) 13 (nI ((rdn tx by_ 6 (sk tx by_ (sp + 1)) 0).1)))) 54 (upd (sg 54) ((2 * o) + 0) (nI ((rdn tx by_ 6 (sk tx by_ (sp + 1)) 0).2)))) 44 (upd (upd (upd (sg 44) 13 (nI (sp + 1))) 13 (nI ((rdn tx by_ 6 (sk tx by_ (sp + 1)) 0).1))) 13 (nI ((rdn tx by_ 6 (sk tx by_ ((rdn tx by_ 6 (sk tx by_ (sp + 1)) 0).1)) 0).1)))) 54 (upd (upd (sg 54) ((2 * o) + 0) (nI ((rdn tx by_ 6 (sk tx by_ (sp + 1)) 0).2))) ((2 * o) + 1) (nI ((rdn tx by_ 6 (sk tx by_ ((rdn tx by_ 6 (sk tx by_ (sp + 1)) 0).1)) 0).2)))) 44 (upd (upd (upd (upd (sg 44) 13 (nI (sp + 1))) 13 (nI ((rdn tx by_ 6 (sk tx by_ (sp + 1)) 0).1))) 13 (nI ((rdn tx by_ 6 (sk tx by_ ((rdn tx by_ 6 (sk tx by_ (sp + 1)) 0).1)) 0).1))) 13 (nI (sk tx by_ ((rdn tx by_ 6 (sk tx by_ (rdn tx by_ 6 (sk tx by_ (sp + 1)) 0).1) 0).1)))))) (L' := [(2, .int (nI 2)), (1, .int (nI 2)), (0, .ref (ad w 44))]) (S' := []) rfl rfl rfl rfl ?_
  refine g_aload_n C 2 rfl rfl dX5_takesOrder_85 ?_
  refine g_bipush C (v := (nI 59)) (by decide) dX5_takesOrder_86 ?_
  refine g_bipush C (v := (nI 59)) (by decide) dX5_takesOrder_88 ?_
  refine g_callV1 [] C (c_X5_isAt w tu (us (us (us (us (us (us (us sg 53 (upd (sg 53) o (nI (tx sp)))) 44 (upd (sg 44) 13 (nI (sp + 1)))) 44 (upd (upd (sg 44) 13 (nI (sp + 1))) 13 (nI ((rdn tx by_ 6 (sk tx by_ (sp + 1)) 0).1)))) 54 (upd (sg 54) ((2 * o) + 0) (nI ((rdn tx by_ 6 (sk tx by_ (sp + 1)) 0).2)))) 44 (upd (upd (upd (sg 44) 13 (nI (sp + 1))) 13 (nI ((rdn tx by_ 6 (sk tx by_ (sp + 1)) 0).1))) 13 (nI ((rdn tx by_ 6 (sk tx by_ ((rdn tx by_ 6 (sk tx by_ (sp + 1)) 0).1)) 0).1)))) 54 (upd (upd (sg 54) ((2 * o) + 0) (nI ((rdn tx by_ 6 (sk tx by_ (sp + 1)) 0).2))) ((2 * o) + 1) (nI ((rdn tx by_ 6 (sk tx by_ ((rdn tx by_ 6 (sk tx by_ (sp + 1)) 0).1)) 0).2)))) 44 (upd (upd (upd (upd (sg 44) 13 (nI (sp + 1))) 13 (nI ((rdn tx by_ 6 (sk tx by_ (sp + 1)) 0).1))) 13 (nI ((rdn tx by_ 6 (sk tx by_ ((rdn tx by_ 6 (sk tx by_ (sp + 1)) 0).1)) 0).1))) 13 (nI (sk tx by_ ((rdn tx by_ 6 (sk tx by_ (rdn tx by_ 6 (sk tx by_ (sp + 1)) 0).1) 0).1))))) 59 59 tx by_ (sk tx by_ (rdn tx by_ 6 (sk tx by_ (rdn tx by_ 6 (sk tx by_ (sp + 1)) 0).1) 0).1) (by decide) (by decide) hby hb rfl (sk_le hq2) htx) mt_X5_isAt e_44 rfl ml_X5_186 im_X5_isAt se_X5_isAt (by decide) rfl (Nat.le_of_ble_eq_true rfl) dX5_takesOrder_90 ?_
  refine g_eq (L' := [(2, .int (nI 2)), (1, .int (nI 2)), (0, .ref (ad w 44))]) (S' := [.int (bI (atP tx by_ 59 59 (sk tx by_ (rdn tx by_ 6 (sk tx by_ (rdn tx by_ 6 (sk tx by_ (sp + 1)) 0).1) 0).1)))]) rfl rfl rfl rfl ?_
  refine g_bif_ne C (tgt := 101) (by decide) dX5_takesOrder_93 (fun h93 => absurd h93 he) (fun h93 => ?_)
  refine g_aload_n C 2 rfl rfl dX5_takesOrder_96 ?_
  refine g_callV1 [] C (c_X5_fails w tu (us (us (us (us (us (us (us sg 53 (upd (sg 53) o (nI (tx sp)))) 44 (upd (sg 44) 13 (nI (sp + 1)))) 44 (upd (upd (sg 44) 13 (nI (sp + 1))) 13 (nI ((rdn tx by_ 6 (sk tx by_ (sp + 1)) 0).1)))) 54 (upd (sg 54) ((2 * o) + 0) (nI ((rdn tx by_ 6 (sk tx by_ (sp + 1)) 0).2)))) 44 (upd (upd (upd (sg 44) 13 (nI (sp + 1))) 13 (nI ((rdn tx by_ 6 (sk tx by_ (sp + 1)) 0).1))) 13 (nI ((rdn tx by_ 6 (sk tx by_ ((rdn tx by_ 6 (sk tx by_ (sp + 1)) 0).1)) 0).1)))) 54 (upd (upd (sg 54) ((2 * o) + 0) (nI ((rdn tx by_ 6 (sk tx by_ (sp + 1)) 0).2))) ((2 * o) + 1) (nI ((rdn tx by_ 6 (sk tx by_ ((rdn tx by_ 6 (sk tx by_ (sp + 1)) 0).1)) 0).2)))) 44 (upd (upd (upd (upd (sg 44) 13 (nI (sp + 1))) 13 (nI ((rdn tx by_ 6 (sk tx by_ (sp + 1)) 0).1))) 13 (nI ((rdn tx by_ 6 (sk tx by_ ((rdn tx by_ 6 (sk tx by_ (sp + 1)) 0).1)) 0).1))) 13 (nI (sk tx by_ ((rdn tx by_ 6 (sk tx by_ (rdn tx by_ 6 (sk tx by_ (sp + 1)) 0).1) 0).1)))))  ) mt_X5_fails e_44 rfl ml_X5_195 im_X5_fails se_X5_fails (by decide) rfl (Nat.le_of_ble_eq_true rfl) dX5_takesOrder_97 ?_
  refine g_eq (sg' := (us (us (us (us (us (us (us (us sg 53 (upd (sg 53) o (nI (tx sp)))) 44 (upd (sg 44) 13 (nI (sp + 1)))) 44 (upd (upd (sg 44) 13 (nI (sp + 1))) 13 (nI ((rdn tx by_ 6 (sk tx by_ (sp + 1)) 0).1)))) 54 (upd (sg 54) ((2 * o) + 0) (nI ((rdn tx by_ 6 (sk tx by_ (sp + 1)) 0).2)))) 44 (upd (upd (upd (sg 44) 13 (nI (sp + 1))) 13 (nI ((rdn tx by_ 6 (sk tx by_ (sp + 1)) 0).1))) 13 (nI ((rdn tx by_ 6 (sk tx by_ ((rdn tx by_ 6 (sk tx by_ (sp + 1)) 0).1)) 0).1)))) 54 (upd (upd (sg 54) ((2 * o) + 0) (nI ((rdn tx by_ 6 (sk tx by_ (sp + 1)) 0).2))) ((2 * o) + 1) (nI ((rdn tx by_ 6 (sk tx by_ ((rdn tx by_ 6 (sk tx by_ (sp + 1)) 0).1)) 0).2)))) 44 (upd (upd (upd (upd (sg 44) 13 (nI (sp + 1))) 13 (nI ((rdn tx by_ 6 (sk tx by_ (sp + 1)) 0).1))) 13 (nI ((rdn tx by_ 6 (sk tx by_ ((rdn tx by_ 6 (sk tx by_ (sp + 1)) 0).1)) 0).1))) 13 (nI (sk tx by_ ((rdn tx by_ 6 (sk tx by_ (rdn tx by_ 6 (sk tx by_ (sp + 1)) 0).1) 0).1))))) 44 (upd (upd (upd (upd (upd (sg 44) 13 (nI (sp + 1))) 13 (nI ((rdn tx by_ 6 (sk tx by_ (sp + 1)) 0).1))) 13 (nI ((rdn tx by_ 6 (sk tx by_ ((rdn tx by_ 6 (sk tx by_ (sp + 1)) 0).1)) 0).1))) 13 (nI (sk tx by_ ((rdn tx by_ 6 (sk tx by_ (rdn tx by_ 6 (sk tx by_ (sp + 1)) 0).1) 0).1)))) 14 (nI (sk tx by_ ((rdn tx by_ 6 (sk tx by_ (rdn tx by_ 6 (sk tx by_ (sp + 1)) 0).1) 0).1)))))) (L' := [(2, .int (nI 2)), (1, .int (nI 2)), (0, .ref (ad w 44))]) (S' := [.int (nI 0)]) rfl rfl rfl rfl ?_
  exact g_zret C E dX5_takesOrder_100 (by decide +kernel) rfl Sq.rf rfl
set_option maxRecDepth 100000 in
set_option maxHeartbeats 400000 in
theorem c_X5_takesOrder_2_1f7 (w : GW) (tu : Int64) (sg : Sg) (tx : Nat → Nat) (by_ sp : Nat) (o : Nat) (hby : sg 44 6 = nI by_) (hb : by_ ≤ 120) (hsp : sg 44 13 = nI sp) (hsb : sp < by_) (htx : ∀ j, j < by_ → sg 49 j = nI (tx j) ∧ tx j ≤ 127) (ho : sg 44 12 = nI o) (ho60 : o < 60) (hc : mnI (tx sp) = nI 2) (h7_0 : atP tx by_ 48 57 (rdn tx by_ 6 (sk tx by_ (sp + 1)) 0).1)  : Kt w yX5_takesOrder cX5_takesOrder 3 (some .boolean) 4 [.ref (ad w 44)] sg tu (some (.int (nI 0))) (us (us (us sg 53 (upd (sg 53) o (nI (tx sp)))) 44 (upd (sg 44) 13 (nI (sp + 1)))) 44 (upd (upd (upd (sg 44) 13 (nI (sp + 1))) 13 (nI ((rdn tx by_ 6 (sk tx by_ (sp + 1)) 0).1))) 14 (nI ((rdn tx by_ 6 (sk tx by_ (sp + 1)) 0).1)))) tu := by
  refine Kt.of2 RX5 rfl [(0, .ref (ad w 44))] (by decide) rfl (Nat.le_of_ble_eq_true rfl) (fun z C E => ?_)
  have htx9 := (htx sp hsb).2
  have hq0 : (sp + 1) ≤ by_ := hsb
  refine g_aload_n C 0 rfl rfl dX5_takesOrder_0 ?_
  refine g_getR C (j := 5) cls5 e_44 rfl (by decide) fl_X5_22 dX5_takesOrder_1 ?_
  refine g_aload_n C 0 rfl rfl dX5_takesOrder_4 ?_
  refine g_getI C (j := 13) cls5 e_44 rfl (by decide) fl_X5_183 dX5_takesOrder_5 ?_
  refine g_top (y := (nI sp)) hsp ?_
  refine g_ialdN C sp e_49 (by omega) (by decide) dX5_takesOrder_8 ?_
  refine g_top (y := (nI (tx sp))) (htx sp hsb).1 ?_
  refine g_callS1 [] C (c_X5_manyOf w tu sg (tx sp) htx9) mt_X5_manyOf ml_X5_198 st_X5_manyOf (by decide) rfl (Nat.le_of_ble_eq_true rfl) dX5_takesOrder_9 ?_
  refine g_eq (L' := [(0, .ref (ad w 44))]) (S' := [.int (mnI (tx sp))]) rfl rfl rfl rfl ?_
  refine g_top (y := (nI 2)) hc ?_
  refine g_istore_n C (L' := [(1, .int (nI 2)), (0, .ref (ad w 44))]) rfl (by decide) rfl dX5_takesOrder_12 ?_
  refine g_iload_n C 0 rfl rfl dX5_takesOrder_13 ?_
  refine g_iconst C (v := (-1)) (by decide) dX5_takesOrder_14 ?_
  refine g_icmp_ne C (tgt := 23) (by decide) dX5_takesOrder_15 (fun h15 => ?_) (fun h15 => absurd h15 (by decide))
  refine g_aload_n C 1 rfl rfl dX5_takesOrder_23 ?_
  refine g_getR C (j := 10) cls5 e_44 rfl (by decide) fl_X5_34 dX5_takesOrder_24 ?_
  refine g_aload_n C 1 rfl rfl dX5_takesOrder_27 ?_
  refine g_getI C (j := 12) cls5 e_44 rfl (by decide) fl_X5_201 dX5_takesOrder_28 ?_
  refine g_top (y := (nI o)) ho ?_
  refine g_aload_n C 1 rfl rfl dX5_takesOrder_31 ?_
  refine g_getR C (j := 5) cls5 e_44 rfl (by decide) fl_X5_22 dX5_takesOrder_32 ?_
  refine g_aload_n C 1 rfl rfl dX5_takesOrder_35 ?_
  refine g_getI C (j := 13) cls5 e_44 rfl (by decide) fl_X5_183 dX5_takesOrder_36 ?_
  refine g_top (y := (nI sp)) hsp ?_
  refine g_ialdN C sp e_49 (by omega) (by decide) dX5_takesOrder_39 ?_
  refine g_top (y := (nI (tx sp))) (htx sp hsb).1 ?_
  refine g_iastN C o e_53 (by omega) (by decide) dX5_takesOrder_40 ?_
  refine g_sgE (sg' := (us sg 53 (upd (sg 53) o (nI (tx sp))))) rfl ?_
  refine g_aload_n C 1 rfl rfl dX5_takesOrder_41 ?_
  refine g_dup C rfl dX5_takesOrder_42 ?_
  refine g_getI C (j := 13) cls5 e_44 rfl (by decide) fl_X5_183 dX5_takesOrder_43 ?_
  refine g_top (y := (nI sp)) hsp ?_
  refine g_iconst C (v := (nI 1)) (by decide) dX5_takesOrder_46 ?_
  refine g_iadd C dX5_takesOrder_47 ?_
  refine g_top (y := (nI (sp + 1))) (nI_add sp 1) ?_
  refine g_putI C (j := 13) cls5 e_44 rfl (by decide) rfl rfl fl_X5_183 dX5_takesOrder_48 ?_
  refine g_sgE (sg' := (us (us sg 53 (upd (sg 53) o (nI (tx sp)))) 44 (upd (sg 44) 13 (nI (sp + 1))))) rfl ?_
  refine g_iconst C (v := (nI 0)) (by decide) dX5_takesOrder_51 ?_
  refine g_istore_n C (L' := [(2, .int (nI 0)), (1, .int (nI 2)), (0, .ref (ad w 44))]) rfl (by decide) rfl dX5_takesOrder_52 ?_
  refine g_iload_n C 0 rfl rfl dX5_takesOrder_53 ?_
  refine g_iload_n C 1 rfl rfl dX5_takesOrder_54 ?_
  refine g_icmpN_ge C 0 2 (by omega) (by omega) (tgt := 81) (by decide) dX5_takesOrder_55 (fun h55 => absurd h55 (by decide)) (fun h55 => ?_)
  refine g_aload_n C 2 rfl rfl dX5_takesOrder_58 ?_
  refine g_iconst C (v := (nI 2)) (by decide) dX5_takesOrder_59 ?_
  refine g_aload_n C 2 rfl rfl dX5_takesOrder_60 ?_
  refine g_getI C (j := 12) cls5 e_44 rfl (by decide) fl_X5_201 dX5_takesOrder_61 ?_
  refine g_top (y := (nI o)) ho ?_
  refine g_imul C dX5_takesOrder_64 ?_
  refine g_top (y := (nI (2 * o))) (pk_mul 2 o) ?_
  refine g_iload_n C 0 rfl rfl dX5_takesOrder_65 ?_
  refine g_iadd C dX5_takesOrder_66 ?_
  refine g_top (y := (nI ((2 * o) + 0))) (nI_add (2 * o) 0) ?_
  refine g_callV1 [] C (c_X5_takesNumber_f7 w tu (us (us sg 53 (upd (sg 53) o (nI (tx sp)))) 44 (upd (sg 44) 13 (nI (sp + 1)))) ((2 * o) + 0) tx by_ (sp + 1) (by omega) hby hb rfl (hq0) htx h7_0) mt_X5_takesNumber e_44 rfl ml_X5_204 im_X5_takesNumber se_X5_takesNumber (by decide) rfl (Nat.le_of_ble_eq_true rfl) dX5_takesOrder_67 ?_
  refine g_eq (sg' := (us (us (us sg 53 (upd (sg 53) o (nI (tx sp)))) 44 (upd (sg 44) 13 (nI (sp + 1)))) 44 (upd (upd (upd (sg 44) 13 (nI (sp + 1))) 13 (nI ((rdn tx by_ 6 (sk tx by_ (sp + 1)) 0).1))) 14 (nI ((rdn tx by_ 6 (sk tx by_ (sp + 1)) 0).1))))) (L' := [(2, .int (nI 0)), (1, .int (nI 2)), (0, .ref (ad w 44))]) (S' := [.int (nI 0)]) rfl rfl rfl rfl ?_
  refine g_if_ne C (tgt := 75) (by decide) dX5_takesOrder_70 (fun h70 => absurd h70 (by decide)) (fun h70 => ?_)
  refine g_iconst C (v := (nI 0)) (by decide) dX5_takesOrder_73 ?_
  exact g_zret C E dX5_takesOrder_74 (by decide +kernel) rfl Sq.rf rfl
set_option maxRecDepth 100000 in
set_option maxHeartbeats 400000 in
theorem c_X5_takesOrder_2_1f0 (w : GW) (tu : Int64) (sg : Sg) (tx : Nat → Nat) (by_ sp : Nat) (o : Nat) (hby : sg 44 6 = nI by_) (hb : by_ ≤ 120) (hsp : sg 44 13 = nI sp) (hsb : sp < by_) (htx : ∀ j, j < by_ → sg 49 j = nI (tx j) ∧ tx j ≤ 127) (ho : sg 44 12 = nI o) (ho60 : o < 60) (hc : mnI (tx sp) = nI 2) (h7_0 : ¬ atP tx by_ 48 57 (rdn tx by_ 6 (sk tx by_ (sp + 1)) 0).1) (h0_0 : ¬ sk tx by_ (sp + 1) < (rdn tx by_ 6 (sk tx by_ (sp + 1)) 0).1)  : Kt w yX5_takesOrder cX5_takesOrder 3 (some .boolean) 4 [.ref (ad w 44)] sg tu (some (.int (nI 0))) (us (us (us (us sg 53 (upd (sg 53) o (nI (tx sp)))) 44 (upd (sg 44) 13 (nI (sp + 1)))) 44 (upd (upd (upd (sg 44) 13 (nI (sp + 1))) 13 (nI ((rdn tx by_ 6 (sk tx by_ (sp + 1)) 0).1))) 14 (nI ((rdn tx by_ 6 (sk tx by_ (sp + 1)) 0).1)))) 54 (upd (sg 54) ((2 * o) + 0) (nI ((rdn tx by_ 6 (sk tx by_ (sp + 1)) 0).2)))) tu := by
  refine Kt.of2 RX5 rfl [(0, .ref (ad w 44))] (by decide) rfl (Nat.le_of_ble_eq_true rfl) (fun z C E => ?_)
  have htx9 := (htx sp hsb).2
  have hq0 : (sp + 1) ≤ by_ := hsb
  refine g_aload_n C 0 rfl rfl dX5_takesOrder_0 ?_
  refine g_getR C (j := 5) cls5 e_44 rfl (by decide) fl_X5_22 dX5_takesOrder_1 ?_
  refine g_aload_n C 0 rfl rfl dX5_takesOrder_4 ?_
  refine g_getI C (j := 13) cls5 e_44 rfl (by decide) fl_X5_183 dX5_takesOrder_5 ?_
  refine g_top (y := (nI sp)) hsp ?_
  refine g_ialdN C sp e_49 (by omega) (by decide) dX5_takesOrder_8 ?_
  refine g_top (y := (nI (tx sp))) (htx sp hsb).1 ?_
  refine g_callS1 [] C (c_X5_manyOf w tu sg (tx sp) htx9) mt_X5_manyOf ml_X5_198 st_X5_manyOf (by decide) rfl (Nat.le_of_ble_eq_true rfl) dX5_takesOrder_9 ?_
  refine g_eq (L' := [(0, .ref (ad w 44))]) (S' := [.int (mnI (tx sp))]) rfl rfl rfl rfl ?_
  refine g_top (y := (nI 2)) hc ?_
  refine g_istore_n C (L' := [(1, .int (nI 2)), (0, .ref (ad w 44))]) rfl (by decide) rfl dX5_takesOrder_12 ?_
  refine g_iload_n C 0 rfl rfl dX5_takesOrder_13 ?_
  refine g_iconst C (v := (-1)) (by decide) dX5_takesOrder_14 ?_
  refine g_icmp_ne C (tgt := 23) (by decide) dX5_takesOrder_15 (fun h15 => ?_) (fun h15 => absurd h15 (by decide))
  refine g_aload_n C 1 rfl rfl dX5_takesOrder_23 ?_
  refine g_getR C (j := 10) cls5 e_44 rfl (by decide) fl_X5_34 dX5_takesOrder_24 ?_
  refine g_aload_n C 1 rfl rfl dX5_takesOrder_27 ?_
  refine g_getI C (j := 12) cls5 e_44 rfl (by decide) fl_X5_201 dX5_takesOrder_28 ?_
  refine g_top (y := (nI o)) ho ?_
  refine g_aload_n C 1 rfl rfl dX5_takesOrder_31 ?_
  refine g_getR C (j := 5) cls5 e_44 rfl (by decide) fl_X5_22 dX5_takesOrder_32 ?_
  refine g_aload_n C 1 rfl rfl dX5_takesOrder_35 ?_
  refine g_getI C (j := 13) cls5 e_44 rfl (by decide) fl_X5_183 dX5_takesOrder_36 ?_
  refine g_top (y := (nI sp)) hsp ?_
  refine g_ialdN C sp e_49 (by omega) (by decide) dX5_takesOrder_39 ?_
  refine g_top (y := (nI (tx sp))) (htx sp hsb).1 ?_
  refine g_iastN C o e_53 (by omega) (by decide) dX5_takesOrder_40 ?_
  refine g_sgE (sg' := (us sg 53 (upd (sg 53) o (nI (tx sp))))) rfl ?_
  refine g_aload_n C 1 rfl rfl dX5_takesOrder_41 ?_
  refine g_dup C rfl dX5_takesOrder_42 ?_
  refine g_getI C (j := 13) cls5 e_44 rfl (by decide) fl_X5_183 dX5_takesOrder_43 ?_
  refine g_top (y := (nI sp)) hsp ?_
  refine g_iconst C (v := (nI 1)) (by decide) dX5_takesOrder_46 ?_
  refine g_iadd C dX5_takesOrder_47 ?_
  refine g_top (y := (nI (sp + 1))) (nI_add sp 1) ?_
  refine g_putI C (j := 13) cls5 e_44 rfl (by decide) rfl rfl fl_X5_183 dX5_takesOrder_48 ?_
  refine g_sgE (sg' := (us (us sg 53 (upd (sg 53) o (nI (tx sp)))) 44 (upd (sg 44) 13 (nI (sp + 1))))) rfl ?_
  refine g_iconst C (v := (nI 0)) (by decide) dX5_takesOrder_51 ?_
  refine g_istore_n C (L' := [(2, .int (nI 0)), (1, .int (nI 2)), (0, .ref (ad w 44))]) rfl (by decide) rfl dX5_takesOrder_52 ?_
  refine g_iload_n C 0 rfl rfl dX5_takesOrder_53 ?_
  refine g_iload_n C 1 rfl rfl dX5_takesOrder_54 ?_
  refine g_icmpN_ge C 0 2 (by omega) (by omega) (tgt := 81) (by decide) dX5_takesOrder_55 (fun h55 => absurd h55 (by decide)) (fun h55 => ?_)
  refine g_aload_n C 2 rfl rfl dX5_takesOrder_58 ?_
  refine g_iconst C (v := (nI 2)) (by decide) dX5_takesOrder_59 ?_
  refine g_aload_n C 2 rfl rfl dX5_takesOrder_60 ?_
  refine g_getI C (j := 12) cls5 e_44 rfl (by decide) fl_X5_201 dX5_takesOrder_61 ?_
  refine g_top (y := (nI o)) ho ?_
  refine g_imul C dX5_takesOrder_64 ?_
  refine g_top (y := (nI (2 * o))) (pk_mul 2 o) ?_
  refine g_iload_n C 0 rfl rfl dX5_takesOrder_65 ?_
  refine g_iadd C dX5_takesOrder_66 ?_
  refine g_top (y := (nI ((2 * o) + 0))) (nI_add (2 * o) 0) ?_
  refine g_callV1 [] C (c_X5_takesNumber_f0 w tu (us (us sg 53 (upd (sg 53) o (nI (tx sp)))) 44 (upd (sg 44) 13 (nI (sp + 1)))) ((2 * o) + 0) tx by_ (sp + 1) (by omega) hby hb rfl (hq0) htx h7_0 h0_0) mt_X5_takesNumber e_44 rfl ml_X5_204 im_X5_takesNumber se_X5_takesNumber (by decide) rfl (Nat.le_of_ble_eq_true rfl) dX5_takesOrder_67 ?_
  refine g_eq (sg' := (us (us (us (us sg 53 (upd (sg 53) o (nI (tx sp)))) 44 (upd (sg 44) 13 (nI (sp + 1)))) 44 (upd (upd (upd (sg 44) 13 (nI (sp + 1))) 13 (nI ((rdn tx by_ 6 (sk tx by_ (sp + 1)) 0).1))) 14 (nI ((rdn tx by_ 6 (sk tx by_ (sp + 1)) 0).1)))) 54 (upd (sg 54) ((2 * o) + 0) (nI ((rdn tx by_ 6 (sk tx by_ (sp + 1)) 0).2))))) (L' := [(2, .int (nI 0)), (1, .int (nI 2)), (0, .ref (ad w 44))]) (S' := [.int (nI 0)]) rfl rfl rfl rfl ?_
  refine g_if_ne C (tgt := 75) (by decide) dX5_takesOrder_70 (fun h70 => absurd h70 (by decide)) (fun h70 => ?_)
  refine g_iconst C (v := (nI 0)) (by decide) dX5_takesOrder_73 ?_
  exact g_zret C E dX5_takesOrder_74 (by decide +kernel) rfl Sq.rf rfl
set_option maxRecDepth 100000 in
set_option maxHeartbeats 400000 in
theorem c_X5_takesOrder_2_2f7 (w : GW) (tu : Int64) (sg : Sg) (tx : Nat → Nat) (by_ sp : Nat) (o : Nat) (hby : sg 44 6 = nI by_) (hb : by_ ≤ 120) (hsp : sg 44 13 = nI sp) (hsb : sp < by_) (htx : ∀ j, j < by_ → sg 49 j = nI (tx j) ∧ tx j ≤ 127) (ho : sg 44 12 = nI o) (ho60 : o < 60) (hc : mnI (tx sp) = nI 2) (h7_0 : ¬ atP tx by_ 48 57 (rdn tx by_ 6 (sk tx by_ (sp + 1)) 0).1) (h0_0 : sk tx by_ (sp + 1) < (rdn tx by_ 6 (sk tx by_ (sp + 1)) 0).1) (h7_1 : atP tx by_ 48 57 (rdn tx by_ 6 (sk tx by_ (rdn tx by_ 6 (sk tx by_ (sp + 1)) 0).1) 0).1)  : Kt w yX5_takesOrder cX5_takesOrder 3 (some .boolean) 4 [.ref (ad w 44)] sg tu (some (.int (nI 0))) (us (us (us (us (us sg 53 (upd (sg 53) o (nI (tx sp)))) 44 (upd (sg 44) 13 (nI (sp + 1)))) 44 (upd (upd (sg 44) 13 (nI (sp + 1))) 13 (nI ((rdn tx by_ 6 (sk tx by_ (sp + 1)) 0).1)))) 54 (upd (sg 54) ((2 * o) + 0) (nI ((rdn tx by_ 6 (sk tx by_ (sp + 1)) 0).2)))) 44 (upd (upd (upd (upd (sg 44) 13 (nI (sp + 1))) 13 (nI ((rdn tx by_ 6 (sk tx by_ (sp + 1)) 0).1))) 13 (nI ((rdn tx by_ 6 (sk tx by_ ((rdn tx by_ 6 (sk tx by_ (sp + 1)) 0).1)) 0).1))) 14 (nI ((rdn tx by_ 6 (sk tx by_ ((rdn tx by_ 6 (sk tx by_ (sp + 1)) 0).1)) 0).1)))) tu := by
  refine Kt.of2 RX5 rfl [(0, .ref (ad w 44))] (by decide) rfl (Nat.le_of_ble_eq_true rfl) (fun z C E => ?_)
  have htx9 := (htx sp hsb).2
  have hq0 : (sp + 1) ≤ by_ := hsb
  have hq1 : (rdn tx by_ 6 (sk tx by_ (sp + 1)) 0).1 ≤ by_ := rdn_le _ _ _ (sk_le hq0)
  refine g_aload_n C 0 rfl rfl dX5_takesOrder_0 ?_
  refine g_getR C (j := 5) cls5 e_44 rfl (by decide) fl_X5_22 dX5_takesOrder_1 ?_
  refine g_aload_n C 0 rfl rfl dX5_takesOrder_4 ?_
  refine g_getI C (j := 13) cls5 e_44 rfl (by decide) fl_X5_183 dX5_takesOrder_5 ?_
  refine g_top (y := (nI sp)) hsp ?_
  refine g_ialdN C sp e_49 (by omega) (by decide) dX5_takesOrder_8 ?_
  refine g_top (y := (nI (tx sp))) (htx sp hsb).1 ?_
  refine g_callS1 [] C (c_X5_manyOf w tu sg (tx sp) htx9) mt_X5_manyOf ml_X5_198 st_X5_manyOf (by decide) rfl (Nat.le_of_ble_eq_true rfl) dX5_takesOrder_9 ?_
  refine g_eq (L' := [(0, .ref (ad w 44))]) (S' := [.int (mnI (tx sp))]) rfl rfl rfl rfl ?_
  refine g_top (y := (nI 2)) hc ?_
  refine g_istore_n C (L' := [(1, .int (nI 2)), (0, .ref (ad w 44))]) rfl (by decide) rfl dX5_takesOrder_12 ?_
  refine g_iload_n C 0 rfl rfl dX5_takesOrder_13 ?_
  refine g_iconst C (v := (-1)) (by decide) dX5_takesOrder_14 ?_
  refine g_icmp_ne C (tgt := 23) (by decide) dX5_takesOrder_15 (fun h15 => ?_) (fun h15 => absurd h15 (by decide))
  refine g_aload_n C 1 rfl rfl dX5_takesOrder_23 ?_
  refine g_getR C (j := 10) cls5 e_44 rfl (by decide) fl_X5_34 dX5_takesOrder_24 ?_
  refine g_aload_n C 1 rfl rfl dX5_takesOrder_27 ?_
  refine g_getI C (j := 12) cls5 e_44 rfl (by decide) fl_X5_201 dX5_takesOrder_28 ?_
  refine g_top (y := (nI o)) ho ?_
  refine g_aload_n C 1 rfl rfl dX5_takesOrder_31 ?_
  refine g_getR C (j := 5) cls5 e_44 rfl (by decide) fl_X5_22 dX5_takesOrder_32 ?_
  refine g_aload_n C 1 rfl rfl dX5_takesOrder_35 ?_
  refine g_getI C (j := 13) cls5 e_44 rfl (by decide) fl_X5_183 dX5_takesOrder_36 ?_
  refine g_top (y := (nI sp)) hsp ?_
  refine g_ialdN C sp e_49 (by omega) (by decide) dX5_takesOrder_39 ?_
  refine g_top (y := (nI (tx sp))) (htx sp hsb).1 ?_
  refine g_iastN C o e_53 (by omega) (by decide) dX5_takesOrder_40 ?_
  refine g_sgE (sg' := (us sg 53 (upd (sg 53) o (nI (tx sp))))) rfl ?_
  refine g_aload_n C 1 rfl rfl dX5_takesOrder_41 ?_
  refine g_dup C rfl dX5_takesOrder_42 ?_
  refine g_getI C (j := 13) cls5 e_44 rfl (by decide) fl_X5_183 dX5_takesOrder_43 ?_
  refine g_top (y := (nI sp)) hsp ?_
  refine g_iconst C (v := (nI 1)) (by decide) dX5_takesOrder_46 ?_
  refine g_iadd C dX5_takesOrder_47 ?_
  refine g_top (y := (nI (sp + 1))) (nI_add sp 1) ?_
  refine g_putI C (j := 13) cls5 e_44 rfl (by decide) rfl rfl fl_X5_183 dX5_takesOrder_48 ?_
  refine g_sgE (sg' := (us (us sg 53 (upd (sg 53) o (nI (tx sp)))) 44 (upd (sg 44) 13 (nI (sp + 1))))) rfl ?_
  refine g_iconst C (v := (nI 0)) (by decide) dX5_takesOrder_51 ?_
  refine g_istore_n C (L' := [(2, .int (nI 0)), (1, .int (nI 2)), (0, .ref (ad w 44))]) rfl (by decide) rfl dX5_takesOrder_52 ?_
  refine g_iload_n C 0 rfl rfl dX5_takesOrder_53 ?_
  refine g_iload_n C 1 rfl rfl dX5_takesOrder_54 ?_
  refine g_icmpN_ge C 0 2 (by omega) (by omega) (tgt := 81) (by decide) dX5_takesOrder_55 (fun h55 => absurd h55 (by decide)) (fun h55 => ?_)
  refine g_aload_n C 2 rfl rfl dX5_takesOrder_58 ?_
  refine g_iconst C (v := (nI 2)) (by decide) dX5_takesOrder_59 ?_
  refine g_aload_n C 2 rfl rfl dX5_takesOrder_60 ?_
  refine g_getI C (j := 12) cls5 e_44 rfl (by decide) fl_X5_201 dX5_takesOrder_61 ?_
  refine g_top (y := (nI o)) ho ?_
  refine g_imul C dX5_takesOrder_64 ?_
  refine g_top (y := (nI (2 * o))) (pk_mul 2 o) ?_
  refine g_iload_n C 0 rfl rfl dX5_takesOrder_65 ?_
  refine g_iadd C dX5_takesOrder_66 ?_
  refine g_top (y := (nI ((2 * o) + 0))) (nI_add (2 * o) 0) ?_
  refine g_callV1 [] C (c_X5_takesNumber_ok w tu (us (us sg 53 (upd (sg 53) o (nI (tx sp)))) 44 (upd (sg 44) 13 (nI (sp + 1)))) ((2 * o) + 0) tx by_ (sp + 1) (by omega) hby hb rfl (hq0) htx h7_0 h0_0) mt_X5_takesNumber e_44 rfl ml_X5_204 im_X5_takesNumber se_X5_takesNumber (by decide) rfl (Nat.le_of_ble_eq_true rfl) dX5_takesOrder_67 ?_
  refine g_eq (sg' := (us (us (us (us sg 53 (upd (sg 53) o (nI (tx sp)))) 44 (upd (sg 44) 13 (nI (sp + 1)))) 44 (upd (upd (sg 44) 13 (nI (sp + 1))) 13 (nI ((rdn tx by_ 6 (sk tx by_ (sp + 1)) 0).1)))) 54 (upd (sg 54) ((2 * o) + 0) (nI ((rdn tx by_ 6 (sk tx by_ (sp + 1)) 0).2))))) (L' := [(2, .int (nI 0)), (1, .int (nI 2)), (0, .ref (ad w 44))]) (S' := [.int (nI 1)]) rfl rfl rfl rfl ?_
  refine g_if_ne C (tgt := 75) (by decide) dX5_takesOrder_70 (fun h70 => ?_) (fun h70 => absurd h70 (by decide))
  refine g_iinc C (n := 1) (v := (nI 1)) (L' := [(2, .int (nI 1)), (1, .int (nI 2)), (0, .ref (ad w 44))]) 0 rfl (nI_add 0 1) (by decide) rfl dX5_takesOrder_75 ?_
  refine g_goto C (tgt := 53) (by decide) dX5_takesOrder_78 ?_
  refine g_iload_n C 0 rfl rfl dX5_takesOrder_53 ?_
  refine g_iload_n C 1 rfl rfl dX5_takesOrder_54 ?_
  refine g_icmpN_ge C 1 2 (by omega) (by omega) (tgt := 81) (by decide) dX5_takesOrder_55 (fun h55 => absurd h55 (by decide)) (fun h55 => ?_)
  refine g_aload_n C 2 rfl rfl dX5_takesOrder_58 ?_
  refine g_iconst C (v := (nI 2)) (by decide) dX5_takesOrder_59 ?_
  refine g_aload_n C 2 rfl rfl dX5_takesOrder_60 ?_
  refine g_getI C (j := 12) cls5 e_44 rfl (by decide) fl_X5_201 dX5_takesOrder_61 ?_
  refine g_top (y := (nI o)) ho ?_
  refine g_imul C dX5_takesOrder_64 ?_
  refine g_top (y := (nI (2 * o))) (pk_mul 2 o) ?_
  refine g_iload_n C 0 rfl rfl dX5_takesOrder_65 ?_
  refine g_iadd C dX5_takesOrder_66 ?_
  refine g_top (y := (nI ((2 * o) + 1))) (nI_add (2 * o) 1) ?_
  refine g_callV1 [] C (c_X5_takesNumber_f7 w tu (us (us (us (us sg 53 (upd (sg 53) o (nI (tx sp)))) 44 (upd (sg 44) 13 (nI (sp + 1)))) 44 (upd (upd (sg 44) 13 (nI (sp + 1))) 13 (nI ((rdn tx by_ 6 (sk tx by_ (sp + 1)) 0).1)))) 54 (upd (sg 54) ((2 * o) + 0) (nI ((rdn tx by_ 6 (sk tx by_ (sp + 1)) 0).2)))) ((2 * o) + 1) tx by_ ((rdn tx by_ 6 (sk tx by_ (sp + 1)) 0).1) (by omega) hby hb rfl (hq1) htx h7_1) mt_X5_takesNumber e_44 rfl ml_X5_204 im_X5_takesNumber se_X5_takesNumber (by decide) rfl (Nat.le_of_ble_eq_true rfl) dX5_takesOrder_67 ?_
  refine g_eq (sg' := (us (us (us (us (us sg 53 (upd (sg 53) o (nI (tx sp)))) 44 (upd (sg 44) 13 (nI (sp + 1)))) 44 (upd (upd (sg 44) 13 (nI (sp + 1))) 13 (nI ((rdn tx by_ 6 (sk tx by_ (sp + 1)) 0).1)))) 54 (upd (sg 54) ((2 * o) + 0) (nI ((rdn tx by_ 6 (sk tx by_ (sp + 1)) 0).2)))) 44 (upd (upd (upd (upd (sg 44) 13 (nI (sp + 1))) 13 (nI ((rdn tx by_ 6 (sk tx by_ (sp + 1)) 0).1))) 13 (nI ((rdn tx by_ 6 (sk tx by_ ((rdn tx by_ 6 (sk tx by_ (sp + 1)) 0).1)) 0).1))) 14 (nI ((rdn tx by_ 6 (sk tx by_ ((rdn tx by_ 6 (sk tx by_ (sp + 1)) 0).1)) 0).1))))) (L' := [(2, .int (nI 1)), (1, .int (nI 2)), (0, .ref (ad w 44))]) (S' := [.int (nI 0)]) rfl rfl rfl rfl ?_
  refine g_if_ne C (tgt := 75) (by decide) dX5_takesOrder_70 (fun h70 => absurd h70 (by decide)) (fun h70 => ?_)
  refine g_iconst C (v := (nI 0)) (by decide) dX5_takesOrder_73 ?_
  exact g_zret C E dX5_takesOrder_74 (by decide +kernel) rfl Sq.rf rfl
set_option maxRecDepth 100000 in
set_option maxHeartbeats 400000 in
theorem c_X5_takesOrder_2_2f0 (w : GW) (tu : Int64) (sg : Sg) (tx : Nat → Nat) (by_ sp : Nat) (o : Nat) (hby : sg 44 6 = nI by_) (hb : by_ ≤ 120) (hsp : sg 44 13 = nI sp) (hsb : sp < by_) (htx : ∀ j, j < by_ → sg 49 j = nI (tx j) ∧ tx j ≤ 127) (ho : sg 44 12 = nI o) (ho60 : o < 60) (hc : mnI (tx sp) = nI 2) (h7_0 : ¬ atP tx by_ 48 57 (rdn tx by_ 6 (sk tx by_ (sp + 1)) 0).1) (h0_0 : sk tx by_ (sp + 1) < (rdn tx by_ 6 (sk tx by_ (sp + 1)) 0).1) (h7_1 : ¬ atP tx by_ 48 57 (rdn tx by_ 6 (sk tx by_ (rdn tx by_ 6 (sk tx by_ (sp + 1)) 0).1) 0).1) (h0_1 : ¬ sk tx by_ (rdn tx by_ 6 (sk tx by_ (sp + 1)) 0).1 < (rdn tx by_ 6 (sk tx by_ (rdn tx by_ 6 (sk tx by_ (sp + 1)) 0).1) 0).1)  : Kt w yX5_takesOrder cX5_takesOrder 3 (some .boolean) 4 [.ref (ad w 44)] sg tu (some (.int (nI 0))) (us (us (us (us (us (us sg 53 (upd (sg 53) o (nI (tx sp)))) 44 (upd (sg 44) 13 (nI (sp + 1)))) 44 (upd (upd (sg 44) 13 (nI (sp + 1))) 13 (nI ((rdn tx by_ 6 (sk tx by_ (sp + 1)) 0).1)))) 54 (upd (sg 54) ((2 * o) + 0) (nI ((rdn tx by_ 6 (sk tx by_ (sp + 1)) 0).2)))) 44 (upd (upd (upd (upd (sg 44) 13 (nI (sp + 1))) 13 (nI ((rdn tx by_ 6 (sk tx by_ (sp + 1)) 0).1))) 13 (nI ((rdn tx by_ 6 (sk tx by_ ((rdn tx by_ 6 (sk tx by_ (sp + 1)) 0).1)) 0).1))) 14 (nI ((rdn tx by_ 6 (sk tx by_ ((rdn tx by_ 6 (sk tx by_ (sp + 1)) 0).1)) 0).1)))) 54 (upd (upd (sg 54) ((2 * o) + 0) (nI ((rdn tx by_ 6 (sk tx by_ (sp + 1)) 0).2))) ((2 * o) + 1) (nI ((rdn tx by_ 6 (sk tx by_ ((rdn tx by_ 6 (sk tx by_ (sp + 1)) 0).1)) 0).2)))) tu := by
  refine Kt.of2 RX5 rfl [(0, .ref (ad w 44))] (by decide) rfl (Nat.le_of_ble_eq_true rfl) (fun z C E => ?_)
  have htx9 := (htx sp hsb).2
  have hq0 : (sp + 1) ≤ by_ := hsb
  have hq1 : (rdn tx by_ 6 (sk tx by_ (sp + 1)) 0).1 ≤ by_ := rdn_le _ _ _ (sk_le hq0)
  refine g_aload_n C 0 rfl rfl dX5_takesOrder_0 ?_
  refine g_getR C (j := 5) cls5 e_44 rfl (by decide) fl_X5_22 dX5_takesOrder_1 ?_
  refine g_aload_n C 0 rfl rfl dX5_takesOrder_4 ?_
  refine g_getI C (j := 13) cls5 e_44 rfl (by decide) fl_X5_183 dX5_takesOrder_5 ?_
  refine g_top (y := (nI sp)) hsp ?_
  refine g_ialdN C sp e_49 (by omega) (by decide) dX5_takesOrder_8 ?_
  refine g_top (y := (nI (tx sp))) (htx sp hsb).1 ?_
  refine g_callS1 [] C (c_X5_manyOf w tu sg (tx sp) htx9) mt_X5_manyOf ml_X5_198 st_X5_manyOf (by decide) rfl (Nat.le_of_ble_eq_true rfl) dX5_takesOrder_9 ?_
  refine g_eq (L' := [(0, .ref (ad w 44))]) (S' := [.int (mnI (tx sp))]) rfl rfl rfl rfl ?_
  refine g_top (y := (nI 2)) hc ?_
  refine g_istore_n C (L' := [(1, .int (nI 2)), (0, .ref (ad w 44))]) rfl (by decide) rfl dX5_takesOrder_12 ?_
  refine g_iload_n C 0 rfl rfl dX5_takesOrder_13 ?_
  refine g_iconst C (v := (-1)) (by decide) dX5_takesOrder_14 ?_
  refine g_icmp_ne C (tgt := 23) (by decide) dX5_takesOrder_15 (fun h15 => ?_) (fun h15 => absurd h15 (by decide))
  refine g_aload_n C 1 rfl rfl dX5_takesOrder_23 ?_
  refine g_getR C (j := 10) cls5 e_44 rfl (by decide) fl_X5_34 dX5_takesOrder_24 ?_
  refine g_aload_n C 1 rfl rfl dX5_takesOrder_27 ?_
  refine g_getI C (j := 12) cls5 e_44 rfl (by decide) fl_X5_201 dX5_takesOrder_28 ?_
  refine g_top (y := (nI o)) ho ?_
  refine g_aload_n C 1 rfl rfl dX5_takesOrder_31 ?_
  refine g_getR C (j := 5) cls5 e_44 rfl (by decide) fl_X5_22 dX5_takesOrder_32 ?_
  refine g_aload_n C 1 rfl rfl dX5_takesOrder_35 ?_
  refine g_getI C (j := 13) cls5 e_44 rfl (by decide) fl_X5_183 dX5_takesOrder_36 ?_
  refine g_top (y := (nI sp)) hsp ?_
  refine g_ialdN C sp e_49 (by omega) (by decide) dX5_takesOrder_39 ?_
  refine g_top (y := (nI (tx sp))) (htx sp hsb).1 ?_
  refine g_iastN C o e_53 (by omega) (by decide) dX5_takesOrder_40 ?_
  refine g_sgE (sg' := (us sg 53 (upd (sg 53) o (nI (tx sp))))) rfl ?_
  refine g_aload_n C 1 rfl rfl dX5_takesOrder_41 ?_
  refine g_dup C rfl dX5_takesOrder_42 ?_
  refine g_getI C (j := 13) cls5 e_44 rfl (by decide) fl_X5_183 dX5_takesOrder_43 ?_
  refine g_top (y := (nI sp)) hsp ?_
  refine g_iconst C (v := (nI 1)) (by decide) dX5_takesOrder_46 ?_
  refine g_iadd C dX5_takesOrder_47 ?_
  refine g_top (y := (nI (sp + 1))) (nI_add sp 1) ?_
  refine g_putI C (j := 13) cls5 e_44 rfl (by decide) rfl rfl fl_X5_183 dX5_takesOrder_48 ?_
  refine g_sgE (sg' := (us (us sg 53 (upd (sg 53) o (nI (tx sp)))) 44 (upd (sg 44) 13 (nI (sp + 1))))) rfl ?_
  refine g_iconst C (v := (nI 0)) (by decide) dX5_takesOrder_51 ?_
  refine g_istore_n C (L' := [(2, .int (nI 0)), (1, .int (nI 2)), (0, .ref (ad w 44))]) rfl (by decide) rfl dX5_takesOrder_52 ?_
  refine g_iload_n C 0 rfl rfl dX5_takesOrder_53 ?_
  refine g_iload_n C 1 rfl rfl dX5_takesOrder_54 ?_
  refine g_icmpN_ge C 0 2 (by omega) (by omega) (tgt := 81) (by decide) dX5_takesOrder_55 (fun h55 => absurd h55 (by decide)) (fun h55 => ?_)
  refine g_aload_n C 2 rfl rfl dX5_takesOrder_58 ?_
  refine g_iconst C (v := (nI 2)) (by decide) dX5_takesOrder_59 ?_
  refine g_aload_n C 2 rfl rfl dX5_takesOrder_60 ?_
  refine g_getI C (j := 12) cls5 e_44 rfl (by decide) fl_X5_201 dX5_takesOrder_61 ?_
  refine g_top (y := (nI o)) ho ?_
  refine g_imul C dX5_takesOrder_64 ?_
  refine g_top (y := (nI (2 * o))) (pk_mul 2 o) ?_
  refine g_iload_n C 0 rfl rfl dX5_takesOrder_65 ?_
  refine g_iadd C dX5_takesOrder_66 ?_
  refine g_top (y := (nI ((2 * o) + 0))) (nI_add (2 * o) 0) ?_
  refine g_callV1 [] C (c_X5_takesNumber_ok w tu (us (us sg 53 (upd (sg 53) o (nI (tx sp)))) 44 (upd (sg 44) 13 (nI (sp + 1)))) ((2 * o) + 0) tx by_ (sp + 1) (by omega) hby hb rfl (hq0) htx h7_0 h0_0) mt_X5_takesNumber e_44 rfl ml_X5_204 im_X5_takesNumber se_X5_takesNumber (by decide) rfl (Nat.le_of_ble_eq_true rfl) dX5_takesOrder_67 ?_
  refine g_eq (sg' := (us (us (us (us sg 53 (upd (sg 53) o (nI (tx sp)))) 44 (upd (sg 44) 13 (nI (sp + 1)))) 44 (upd (upd (sg 44) 13 (nI (sp + 1))) 13 (nI ((rdn tx by_ 6 (sk tx by_ (sp + 1)) 0).1)))) 54 (upd (sg 54) ((2 * o) + 0) (nI ((rdn tx by_ 6 (sk tx by_ (sp + 1)) 0).2))))) (L' := [(2, .int (nI 0)), (1, .int (nI 2)), (0, .ref (ad w 44))]) (S' := [.int (nI 1)]) rfl rfl rfl rfl ?_
  refine g_if_ne C (tgt := 75) (by decide) dX5_takesOrder_70 (fun h70 => ?_) (fun h70 => absurd h70 (by decide))
  refine g_iinc C (n := 1) (v := (nI 1)) (L' := [(2, .int (nI 1)), (1, .int (nI 2)), (0, .ref (ad w 44))]) 0 rfl (nI_add 0 1) (by decide) rfl dX5_takesOrder_75 ?_
  refine g_goto C (tgt := 53) (by decide) dX5_takesOrder_78 ?_
  refine g_iload_n C 0 rfl rfl dX5_takesOrder_53 ?_
  refine g_iload_n C 1 rfl rfl dX5_takesOrder_54 ?_
  refine g_icmpN_ge C 1 2 (by omega) (by omega) (tgt := 81) (by decide) dX5_takesOrder_55 (fun h55 => absurd h55 (by decide)) (fun h55 => ?_)
  refine g_aload_n C 2 rfl rfl dX5_takesOrder_58 ?_
  refine g_iconst C (v := (nI 2)) (by decide) dX5_takesOrder_59 ?_
  refine g_aload_n C 2 rfl rfl dX5_takesOrder_60 ?_
  refine g_getI C (j := 12) cls5 e_44 rfl (by decide) fl_X5_201 dX5_takesOrder_61 ?_
  refine g_top (y := (nI o)) ho ?_
  refine g_imul C dX5_takesOrder_64 ?_
  refine g_top (y := (nI (2 * o))) (pk_mul 2 o) ?_
  refine g_iload_n C 0 rfl rfl dX5_takesOrder_65 ?_
  refine g_iadd C dX5_takesOrder_66 ?_
  refine g_top (y := (nI ((2 * o) + 1))) (nI_add (2 * o) 1) ?_
  refine g_callV1 [] C (c_X5_takesNumber_f0 w tu (us (us (us (us sg 53 (upd (sg 53) o (nI (tx sp)))) 44 (upd (sg 44) 13 (nI (sp + 1)))) 44 (upd (upd (sg 44) 13 (nI (sp + 1))) 13 (nI ((rdn tx by_ 6 (sk tx by_ (sp + 1)) 0).1)))) 54 (upd (sg 54) ((2 * o) + 0) (nI ((rdn tx by_ 6 (sk tx by_ (sp + 1)) 0).2)))) ((2 * o) + 1) tx by_ ((rdn tx by_ 6 (sk tx by_ (sp + 1)) 0).1) (by omega) hby hb rfl (hq1) htx h7_1 h0_1) mt_X5_takesNumber e_44 rfl ml_X5_204 im_X5_takesNumber se_X5_takesNumber (by decide) rfl (Nat.le_of_ble_eq_true rfl) dX5_takesOrder_67 ?_
  refine g_eq (sg' := (us (us (us (us (us (us sg 53 (upd (sg 53) o (nI (tx sp)))) 44 (upd (sg 44) 13 (nI (sp + 1)))) 44 (upd (upd (sg 44) 13 (nI (sp + 1))) 13 (nI ((rdn tx by_ 6 (sk tx by_ (sp + 1)) 0).1)))) 54 (upd (sg 54) ((2 * o) + 0) (nI ((rdn tx by_ 6 (sk tx by_ (sp + 1)) 0).2)))) 44 (upd (upd (upd (upd (sg 44) 13 (nI (sp + 1))) 13 (nI ((rdn tx by_ 6 (sk tx by_ (sp + 1)) 0).1))) 13 (nI ((rdn tx by_ 6 (sk tx by_ ((rdn tx by_ 6 (sk tx by_ (sp + 1)) 0).1)) 0).1))) 14 (nI ((rdn tx by_ 6 (sk tx by_ ((rdn tx by_ 6 (sk tx by_ (sp + 1)) 0).1)) 0).1)))) 54 (upd (upd (sg 54) ((2 * o) + 0) (nI ((rdn tx by_ 6 (sk tx by_ (sp + 1)) 0).2))) ((2 * o) + 1) (nI ((rdn tx by_ 6 (sk tx by_ ((rdn tx by_ 6 (sk tx by_ (sp + 1)) 0).1)) 0).2))))) (L' := [(2, .int (nI 1)), (1, .int (nI 2)), (0, .ref (ad w 44))]) (S' := [.int (nI 0)]) rfl rfl rfl rfl ?_
  refine g_if_ne C (tgt := 75) (by decide) dX5_takesOrder_70 (fun h70 => absurd h70 (by decide)) (fun h70 => ?_)
  refine g_iconst C (v := (nI 0)) (by decide) dX5_takesOrder_73 ?_
  exact g_zret C E dX5_takesOrder_74 (by decide +kernel) rfl Sq.rf rfl
