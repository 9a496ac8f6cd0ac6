set_option maxRecDepth 100000 in
set_option maxHeartbeats 400000 in
theorem c_X5_takesNumber_ok (w : GW) (tu : Int64) (sg : Sg) (to : Nat) (tx : Nat → Nat) (by_ sp : Nat) (hto : to < 120) (hby : sg 44 6 = nI by_) (hb : by_ ≤ 120) (hsp : sg 44 13 = nI sp) (hsb : sp ≤ by_) (htx : ∀ j, j < by_ → sg 49 j = nI (tx j) ∧ tx j ≤ 127) (h7 : ¬ atP tx by_ 48 57 (rdn tx by_ 6 (sk tx by_ sp) 0).1) (h0 : (sk tx by_ sp) < (rdn tx by_ 6 (sk tx by_ sp) 0).1) : Kt w yX5_takesNumber cX5_takesNumber 4 (some .boolean) 3 [.ref (ad w 44), .int (nI to)] sg tu (some (.int (nI 1))) (us (us sg 44 (upd (sg 44) 13 (nI ((rdn tx by_ 6 (sk tx by_ sp) 0).1)))) 54 (upd (sg 54) to (nI ((rdn tx by_ 6 (sk tx by_ sp) 0).2)))) tu := by
  refine Kt.of2 RX5 rfl [(0, .ref (ad w 44)), (1, .int (nI to))] (by decide) rfl (Nat.le_of_ble_eq_true rfl) (fun z C E => ?_)
  refine g_aload_n C 0 rfl rfl dX5_takesNumber_0 ?_
  refine g_callV0 [] C (c_X5_blanks w tu sg  tx by_ sp hby hb hsp hsb htx) mt_X5_blanks e_44 rfl ml_X5_192 im_X5_blanks se_X5_blanks (by decide) rfl (Nat.le_of_ble_eq_true rfl) dX5_takesNumber_1 ?_
  refine g_eq (sg' := (us sg 44 (upd (sg 44) 13 (nI (sk tx by_ sp))))) (L' := [(0, .ref (ad w 44)), (1, .int (nI to))]) (S' := []) rfl rfl rfl rfl ?_
  refine g_aload_n C 0 rfl rfl dX5_takesNumber_4 ?_
  refine g_getI C (j := 13) cls5 e_44 rfl (by decide) fl_X5_183 dX5_takesNumber_5 ?_
  refine g_top (y := (nI (sk tx by_ sp))) rfl ?_
  refine g_istore_n C (L' := [(2, .int (nI (sk tx by_ sp))), (0, .ref (ad w 44)), (1, .int (nI to))]) rfl (by decide) rfl dX5_takesNumber_8 ?_
  refine g_iconst C (v := (nI 0)) (by decide) dX5_takesNumber_9 ?_
  refine g_istore_n C (L' := [(3, .int (nI 0)), (2, .int (nI (sk tx by_ sp))), (0, .ref (ad w 44)), (1, .int (nI to))]) rfl (by decide) rfl dX5_takesNumber_10 ?_
  have hp0 : (sk tx by_ sp) ≤ by_ := sk_le hsb
  have lp : ∀ (r p v : Nat), p + r = (sk tx by_ sp) + 6 → p ≤ by_ → rdn tx by_ r p v = (rdn tx by_ 6 (sk tx by_ sp) 0) → G z w 4 (us sg 44 (upd (sg 44) 13 (nI p))) tu 11 [(3, .int (nI v)), (2, .int (nI (sk tx by_ sp))), (0, .ref (ad w 44)), (1, .int (nI to))] [] := by
    intro r
    induction r with
    | zero =>
      intro p v hp hpb hrd
      have hge := rdn_ge (tx := tx) (len := by_) 6 (sk tx by_ sp) 0
      refine g_aload_n C 2 rfl rfl dX5_takesNumber_11 ?_
      refine g_bipush C (v := (nI 48)) (by decide) dX5_takesNumber_12 ?_
      refine g_bipush C (v := (nI 57)) (by decide) dX5_takesNumber_14 ?_
      refine g_callV1 [] C (c_X5_isAt w tu (us sg 44 (upd (sg 44) 13 (nI p))) 48 57 tx by_ p (by decide) (by decide) hby hb rfl (by omega) htx) mt_X5_isAt e_44 rfl ml_X5_186 im_X5_isAt se_X5_isAt (by decide) rfl (Nat.le_of_ble_eq_true rfl) dX5_takesNumber_16 ?_
      refine g_eq (L' := [(3, .int (nI v)), (2, .int (nI (sk tx by_ sp))), (0, .ref (ad w 44)), (1, .int (nI to))]) (S' := [.int (bI (atP tx by_ 48 57 p))]) rfl rfl rfl rfl ?_
      refine g_bif_eq C (tgt := 69) (by decide) dX5_takesNumber_19 (fun h19 => ?_) (fun h19 => ?_)
      ·
        have he : (p, v) = (rdn tx by_ 6 (sk tx by_ sp) 0) := by rw [← hrd]; exact (rdn_f h19).symm
        have hep : (rdn tx by_ 6 (sk tx by_ sp) 0).1 = p := (congrArg Prod.fst he).symm
        have hev : (rdn tx by_ 6 (sk tx by_ sp) 0).2 = v := (congrArg Prod.snd he).symm
        refine g_aload_n C 2 rfl rfl dX5_takesNumber_69 ?_
        refine g_getR C (j := 11) cls5 e_44 rfl (by decide) fl_X5_37 dX5_takesNumber_70 ?_
        refine g_iload_n C 3 rfl rfl dX5_takesNumber_73 ?_
        refine g_iload_n C 0 rfl rfl dX5_takesNumber_74 ?_
        refine g_iastN C to e_54 (by omega) (by decide) dX5_takesNumber_75 ?_
        refine g_sgE (sg' := (us (us sg 44 (upd (sg 44) 13 (nI p))) 54 (upd (sg 54) to (nI v)))) rfl ?_
        refine g_aload_n C 2 rfl rfl dX5_takesNumber_76 ?_
        refine g_getI C (j := 13) cls5 e_44 rfl (by decide) fl_X5_183 dX5_takesNumber_77 ?_
        refine g_top (y := (nI p)) rfl ?_
        refine g_iload_n C 1 rfl rfl dX5_takesNumber_80 ?_
        refine g_icmpN_gt C p (sk tx by_ sp) (by omega) (by omega) (tgt := 91) (by decide) dX5_takesNumber_81 (fun h81 => ?_) (fun h81 => absurd (show (sk tx by_ sp) < p from hep ▸ h0) (by omega))
        refine g_iconst C (v := (nI 1)) (by decide) dX5_takesNumber_91 ?_
        refine g_goto C (tgt := 96) (by decide) dX5_takesNumber_92 ?_
        exact g_zret C E dX5_takesNumber_96 (by decide +kernel) rfl (Sq.of (by rw [hep, hev])) rfl
      ·
        have hep : (rdn tx by_ 6 (sk tx by_ sp) 0).1 = p := congrArg Prod.fst hrd.symm
        rw [hep] at h7
        exact absurd h19 h7
    | succ r ih =>
      intro p v hp hpb hrd
      have hge := rdn_ge (tx := tx) (len := by_) 6 (sk tx by_ sp) 0
      refine g_aload_n C 2 rfl rfl dX5_takesNumber_11 ?_
      refine g_bipush C (v := (nI 48)) (by decide) dX5_takesNumber_12 ?_
      refine g_bipush C (v := (nI 57)) (by decide) dX5_takesNumber_14 ?_
      refine g_callV1 [] C (c_X5_isAt w tu (us sg 44 (upd (sg 44) 13 (nI p))) 48 57 tx by_ p (by decide) (by decide) hby hb rfl (by omega) htx) mt_X5_isAt e_44 rfl ml_X5_186 im_X5_isAt se_X5_isAt (by decide) rfl (Nat.le_of_ble_eq_true rfl) dX5_takesNumber_16 ?_
      refine g_eq (L' := [(3, .int (nI v)), (2, .int (nI (sk tx by_ sp))), (0, .ref (ad w 44)), (1, .int (nI to))]) (S' := [.int (bI (atP tx by_ 48 57 p))]) rfl rfl rfl rfl ?_
      refine g_bif_eq C (tgt := 69) (by decide) dX5_takesNumber_19 (fun h19 => ?_) (fun h19 => ?_)
      ·
        have he : (p, v) = (rdn tx by_ 6 (sk tx by_ sp) 0) := by rw [← hrd]; exact (rdn_f h19).symm
        have hep : (rdn tx by_ 6 (sk tx by_ sp) 0).1 = p := (congrArg Prod.fst he).symm
        have hev : (rdn tx by_ 6 (sk tx by_ sp) 0).2 = v := (congrArg Prod.snd he).symm
        refine g_aload_n C 2 rfl rfl dX5_takesNumber_69 ?_
        refine g_getR C (j := 11) cls5 e_44 rfl (by decide) fl_X5_37 dX5_takesNumber_70 ?_
        refine g_iload_n C 3 rfl rfl dX5_takesNumber_73 ?_
        refine g_iload_n C 0 rfl rfl dX5_takesNumber_74 ?_
        refine g_iastN C to e_54 (by omega) (by decide) dX5_takesNumber_75 ?_
        refine g_sgE (sg' := (us (us sg 44 (upd (sg 44) 13 (nI p))) 54 (upd (sg 54) to (nI v)))) rfl ?_
        refine g_aload_n C 2 rfl rfl dX5_takesNumber_76 ?_
        refine g_getI C (j := 13) cls5 e_44 rfl (by decide) fl_X5_183 dX5_takesNumber_77 ?_
        refine g_top (y := (nI p)) rfl ?_
        refine g_iload_n C 1 rfl rfl dX5_takesNumber_80 ?_
        refine g_icmpN_gt C p (sk tx by_ sp) (by omega) (by omega) (tgt := 91) (by decide) dX5_takesNumber_81 (fun h81 => ?_) (fun h81 => absurd (show (sk tx by_ sp) < p from hep ▸ h0) (by omega))
        refine g_iconst C (v := (nI 1)) (by decide) dX5_takesNumber_91 ?_
        refine g_goto C (tgt := 96) (by decide) dX5_takesNumber_92 ?_
        exact g_zret C E dX5_takesNumber_96 (by decide +kernel) rfl (Sq.of (by rw [hep, hev])) rfl
      ·
        refine g_aload_n C 2 rfl rfl dX5_takesNumber_22 ?_
        refine g_getI C (j := 13) cls5 e_44 rfl (by decide) fl_X5_183 dX5_takesNumber_23 ?_
        refine g_top (y := (nI p)) rfl ?_
        refine g_iload_n C 1 rfl rfl dX5_takesNumber_26 ?_
        refine g_bipush C (v := (nI 6)) (by decide) dX5_takesNumber_27 ?_
        refine g_iadd C dX5_takesNumber_29 ?_
        refine g_top (y := (nI ((sk tx by_ sp) + 6))) (nI_add (sk tx by_ sp) 6) ?_
        refine g_icmpN_ne C p ((sk tx by_ sp) + 6) (by omega) (by omega) (tgt := 38) (by decide) dX5_takesNumber_30 (fun h30 => ?_) (fun h30 => absurd h30 (by omega))
        refine g_bipush C (v := (nI 10)) (by decide) dX5_takesNumber_38 ?_
        refine g_iload_n C 0 rfl rfl dX5_takesNumber_40 ?_
        refine g_imul C dX5_takesNumber_41 ?_
        refine g_top (y := (nI (10 * v))) (pk_mul 10 v) ?_
        refine g_aload_n C 2 rfl rfl dX5_takesNumber_42 ?_
        refine g_getR C (j := 5) cls5 e_44 rfl (by decide) fl_X5_22 dX5_takesNumber_43 ?_
        refine g_aload_n C 2 rfl rfl dX5_takesNumber_46 ?_
        refine g_getI C (j := 13) cls5 e_44 rfl (by decide) fl_X5_183 dX5_takesNumber_47 ?_
        refine g_top (y := (nI p)) rfl ?_
        refine g_ialdN C p e_49 (by omega) (by decide) dX5_takesNumber_50 ?_
        refine g_top (y := (sg 49 p)) rfl ?_
        refine g_top (y := (nI (tx p))) (htx p h19.1).1 ?_
        refine g_iadd C dX5_takesNumber_51 ?_
        refine g_top (y := (nI ((10 * v) + (tx p)))) (nI_add (10 * v) (tx p)) ?_
        refine g_bipush C (v := (nI 48)) (by decide) dX5_takesNumber_52 ?_
        refine g_isub C dX5_takesNumber_54 ?_
        refine g_top (y := nI (10 * v + tx p - 48)) (pk_sub (by have := h19.2.1; omega)) ?_
        refine g_istore_n C (L' := [(3, .int (nI (10 * v + tx p - 48))), (2, .int (nI (sk tx by_ sp))), (0, .ref (ad w 44)), (1, .int (nI to))]) rfl (by decide) rfl dX5_takesNumber_55 ?_
        refine g_aload_n C 2 rfl rfl dX5_takesNumber_56 ?_
        refine g_dup C rfl dX5_takesNumber_57 ?_
        refine g_getI C (j := 13) cls5 e_44 rfl (by decide) fl_X5_183 dX5_takesNumber_58 ?_
        refine g_top (y := (nI p)) rfl ?_
        refine g_iconst C (v := (nI 1)) (by decide) dX5_takesNumber_61 ?_
        refine g_iadd C dX5_takesNumber_62 ?_
        refine g_top (y := (nI (p + 1))) (nI_add p 1) ?_
        refine g_putI C (j := 13) cls5 e_44 rfl (by decide) rfl rfl fl_X5_183 dX5_takesNumber_63 ?_
        refine g_sgE (sg' := (us sg 44 (upd (upd (sg 44) 13 (nI p)) 13 (nI (p + 1))))) us_us ?_
        refine g_goto C (tgt := 11) (by decide) dX5_takesNumber_66 ?_
        refine g_sub (L' := [(3, .int (nI (10 * v + tx p - 48))), (2, .int (nI (sk tx by_ sp))), (0, .ref (ad w 44)), (1, .int (nI to))]) [0, 1, 2, 3] rfl ?_
        refine g_sgE (sg' := (us sg 44 (upd (sg 44) 13 (nI (p + 1))))) (by rw [upd_upd]) ?_
        exact ih (p + 1) (10 * v + tx p - 48) (by omega) h19.1 (by rw [← hrd, rdn_t h19])
  exact lp 6 (sk tx by_ sp) 0 rfl hp0 rfl
set_option maxRecDepth 100000 in
set_option maxHeartbeats 400000 in
theorem c_X5_takesNumber_f7 (w : GW) (tu : Int64) (sg : Sg) (to : Nat) (tx : Nat → Nat) (by_ sp : Nat) (hto : to < 120) (hby : sg 44 6 = nI by_) (hb : by_ ≤ 120) (hsp : sg 44 13 = nI sp) (hsb : sp ≤ by_) (htx : ∀ j, j < by_ → sg 49 j = nI (tx j) ∧ tx j ≤ 127) (h7 : atP tx by_ 48 57 (rdn tx by_ 6 (sk tx by_ sp) 0).1) : Kt w yX5_takesNumber cX5_takesNumber 4 (some .boolean) 3 [.ref (ad w 44), .int (nI to)] sg tu (some (.int (nI 0))) (us sg 44 (upd (upd (sg 44) 13 (nI ((rdn tx by_ 6 (sk tx by_ sp) 0).1))) 14 (nI ((rdn tx by_ 6 (sk tx by_ sp) 0).1)))) tu := by
  refine Kt.of2 RX5 rfl [(0, .ref (ad w 44)), (1, .int (nI to))] (by decide) rfl (Nat.le_of_ble_eq_true rfl) (fun z C E => ?_)
  refine g_aload_n C 0 rfl rfl dX5_takesNumber_0 ?_
  refine g_callV0 [] C (c_X5_blanks w tu sg  tx by_ sp hby hb hsp hsb htx) mt_X5_blanks e_44 rfl ml_X5_192 im_X5_blanks se_X5_blanks (by decide) rfl (Nat.le_of_ble_eq_true rfl) dX5_takesNumber_1 ?_
  refine g_eq (sg' := (us sg 44 (upd (sg 44) 13 (nI (sk tx by_ sp))))) (L' := [(0, .ref (ad w 44)), (1, .int (nI to))]) (S' := []) rfl rfl rfl rfl ?_
  refine g_aload_n C 0 rfl rfl dX5_takesNumber_4 ?_
  refine g_getI C (j := 13) cls5 e_44 rfl (by decide) fl_X5_183 dX5_takesNumber_5 ?_
  refine g_top (y := (nI (sk tx by_ sp))) rfl ?_
  refine g_istore_n C (L' := [(2, .int (nI (sk tx by_ sp))), (0, .ref (ad w 44)), (1, .int (nI to))]) rfl (by decide) rfl dX5_takesNumber_8 ?_
  refine g_iconst C (v := (nI 0)) (by decide) dX5_takesNumber_9 ?_
  refine g_istore_n C (L' := [(3, .int (nI 0)), (2, .int (nI (sk tx by_ sp))), (0, .ref (ad w 44)), (1, .int (nI to))]) rfl (by decide) rfl dX5_takesNumber_10 ?_
  have hp0 : (sk tx by_ sp) ≤ by_ := sk_le hsb
  have lp : ∀ (r p v : Nat), p + r = (sk tx by_ sp) + 6 → p ≤ by_ → rdn tx by_ r p v = (rdn tx by_ 6 (sk tx by_ sp) 0) → G z w 4 (us sg 44 (upd (sg 44) 13 (nI p))) tu 11 [(3, .int (nI v)), (2, .int (nI (sk tx by_ sp))), (0, .ref (ad w 44)), (1, .int (nI to))] [] := by
    intro r
    induction r with
    | zero =>
      intro p v hp hpb hrd
      have hge := rdn_ge (tx := tx) (len := by_) 6 (sk tx by_ sp) 0
      refine g_aload_n C 2 rfl rfl dX5_takesNumber_11 ?_
      refine g_bipush C (v := (nI 48)) (by decide) dX5_takesNumber_12 ?_
      refine g_bipush C (v := (nI 57)) (by decide) dX5_takesNumber_14 ?_
      refine g_callV1 [] C (c_X5_isAt w tu (us sg 44 (upd (sg 44) 13 (nI p))) 48 57 tx by_ p (by decide) (by decide) hby hb rfl (by omega) htx) mt_X5_isAt e_44 rfl ml_X5_186 im_X5_isAt se_X5_isAt (by decide) rfl (Nat.le_of_ble_eq_true rfl) dX5_takesNumber_16 ?_
      refine g_eq (L' := [(3, .int (nI v)), (2, .int (nI (sk tx by_ sp))), (0, .ref (ad w 44)), (1, .int (nI to))]) (S' := [.int (bI (atP tx by_ 48 57 p))]) rfl rfl rfl rfl ?_
      refine g_bif_eq C (tgt := 69) (by decide) dX5_takesNumber_19 (fun h19 => ?_) (fun h19 => ?_)
      ·
        have he : (p, v) = (rdn tx by_ 6 (sk tx by_ sp) 0) := by rw [← hrd]; exact (rdn_f h19).symm
        have hep : (rdn tx by_ 6 (sk tx by_ sp) 0).1 = p := (congrArg Prod.fst he).symm
        have hev : (rdn tx by_ 6 (sk tx by_ sp) 0).2 = v := (congrArg Prod.snd he).symm
        rw [hep] at h7
        exact absurd h7 h19
      ·
        have hep : (rdn tx by_ 6 (sk tx by_ sp) 0).1 = p := congrArg Prod.fst hrd.symm
        refine g_aload_n C 2 rfl rfl dX5_takesNumber_22 ?_
        refine g_getI C (j := 13) cls5 e_44 rfl (by decide) fl_X5_183 dX5_takesNumber_23 ?_
        refine g_top (y := (nI p)) rfl ?_
        refine g_iload_n C 1 rfl rfl dX5_takesNumber_26 ?_
        refine g_bipush C (v := (nI 6)) (by decide) dX5_takesNumber_27 ?_
        refine g_iadd C dX5_takesNumber_29 ?_
        refine g_top (y := (nI ((sk tx by_ sp) + 6))) (nI_add (sk tx by_ sp) 6) ?_
        refine g_icmpN_ne C p ((sk tx by_ sp) + 6) (by omega) (by omega) (tgt := 38) (by decide) dX5_takesNumber_30 (fun h30 => absurd (by omega) h30) (fun h30 => ?_)
        refine g_aload_n C 2 rfl rfl dX5_takesNumber_33 ?_
        refine g_callV1 [] C (c_X5_fails w tu (us sg 44 (upd (sg 44) 13 (nI p)))  ) mt_X5_fails e_44 rfl ml_X5_195 im_X5_fails se_X5_fails (by decide) rfl (Nat.le_of_ble_eq_true rfl) dX5_takesNumber_34 ?_
        refine g_eq (sg' := (us (us sg 44 (upd (sg 44) 13 (nI p))) 44 (upd (upd (sg 44) 13 (nI p)) 14 (nI p)))) (L' := [(3, .int (nI v)), (2, .int (nI (sk tx by_ sp))), (0, .ref (ad w 44)), (1, .int (nI to))]) (S' := [.int (nI 0)]) rfl rfl rfl rfl ?_
        exact g_zret C E dX5_takesNumber_37 (by decide +kernel) rfl (Sq.of (by rw [hep]; exact us_us)) rfl
    | succ r ih =>
      intro p v hp hpb hrd
      have hge := rdn_ge (tx := tx) (len := by_) 6 (sk tx by_ sp) 0
      refine g_aload_n C 2 rfl rfl dX5_takesNumber_11 ?_
      refine g_bipush C (v := (nI 48)) (by decide) dX5_takesNumber_12 ?_
      refine g_bipush C (v := (nI 57)) (by decide) dX5_takesNumber_14 ?_
      refine g_callV1 [] C (c_X5_isAt w tu (us sg 44 (upd (sg 44) 13 (nI p))) 48 57 tx by_ p (by decide) (by decide) hby hb rfl (by omega) htx) mt_X5_isAt e_44 rfl ml_X5_186 im_X5_isAt se_X5_isAt (by decide) rfl (Nat.le_of_ble_eq_true rfl) dX5_takesNumber_16 ?_
      refine g_eq (L' := [(3, .int (nI v)), (2, .int (nI (sk tx by_ sp))), (0, .ref (ad w 44)), (1, .int (nI to))]) (S' := [.int (bI (atP tx by_ 48 57 p))]) rfl rfl rfl rfl ?_
      refine g_bif_eq C (tgt := 69) (by decide) dX5_takesNumber_19 (fun h19 => ?_) (fun h19 => ?_)
      ·
        have he : (p, v) = (rdn tx by_ 6 (sk tx by_ sp) 0) := by rw [← hrd]; exact (rdn_f h19).symm
        have hep : (rdn tx by_ 6 (sk tx by_ sp) 0).1 = p := (congrArg Prod.fst he).symm
        have hev : (rdn tx by_ 6 (sk tx by_ sp) 0).2 = v := (congrArg Prod.snd he).symm
        rw [hep] at h7
        exact absurd h7 h19
      ·
        refine g_aload_n C 2 rfl rfl dX5_takesNumber_22 ?_
        refine g_getI C (j := 13) cls5 e_44 rfl (by decide) fl_X5_183 dX5_takesNumber_23 ?_
        refine g_top (y := (nI p)) rfl ?_
        refine g_iload_n C 1 rfl rfl dX5_takesNumber_26 ?_
        refine g_bipush C (v := (nI 6)) (by decide) dX5_takesNumber_27 ?_
        refine g_iadd C dX5_takesNumber_29 ?_
        refine g_top (y := (nI ((sk tx by_ sp) + 6))) (nI_add (sk tx by_ sp) 6) ?_
        refine g_icmpN_ne C p ((sk tx by_ sp) + 6) (by omega) (by omega) (tgt := 38) (by decide) dX5_takesNumber_30 (fun h30 => ?_) (fun h30 => absurd h30 (by omega))
        refine g_bipush C (v := (nI 10)) (by decide) dX5_takesNumber_38 ?_
        refine g_iload_n C 0 rfl rfl dX5_takesNumber_40 ?_
        refine g_imul C dX5_takesNumber_41 ?_
        refine g_top (y := (nI (10 * v))) (pk_mul 10 v) ?_
        refine g_aload_n C 2 rfl rfl dX5_takesNumber_42 ?_
        refine g_getR C (j := 5) cls5 e_44 rfl (by decide) fl_X5_22 dX5_takesNumber_43 ?_
        refine g_aload_n C 2 rfl rfl dX5_takesNumber_46 ?_
        refine g_getI C (j := 13) cls5 e_44 rfl (by decide) fl_X5_183 dX5_takesNumber_47 ?_
        refine g_top (y := (nI p)) rfl ?_
        refine g_ialdN C p e_49 (by omega) (by decide) dX5_takesNumber_50 ?_
        refine g_top (y := (sg 49 p)) rfl ?_
        refine g_top (y := (nI (tx p))) (htx p h19.1).1 ?_
        refine g_iadd C dX5_takesNumber_51 ?_
        refine g_top (y := (nI ((10 * v) + (tx p)))) (nI_add (10 * v) (tx p)) ?_
        refine g_bipush C (v := (nI 48)) (by decide) dX5_takesNumber_52 ?_
        refine g_isub C dX5_takesNumber_54 ?_
        refine g_top (y := nI (10 * v + tx p - 48)) (pk_sub (by have := h19.2.1; omega)) ?_
        refine g_istore_n C (L' := [(3, .int (nI (10 * v + tx p - 48))), (2, .int (nI (sk tx by_ sp))), (0, .ref (ad w 44)), (1, .int (nI to))]) rfl (by decide) rfl dX5_takesNumber_55 ?_
        refine g_aload_n C 2 rfl rfl dX5_takesNumber_56 ?_
        refine g_dup C rfl dX5_takesNumber_57 ?_
        refine g_getI C (j := 13) cls5 e_44 rfl (by decide) fl_X5_183 dX5_takesNumber_58 ?_
        refine g_top (y := (nI p)) rfl ?_
        refine g_iconst C (v := (nI 1)) (by decide) dX5_takesNumber_61 ?_
        refine g_iadd C dX5_takesNumber_62 ?_
        refine g_top (y := (nI (p + 1))) (nI_add p 1) ?_
        refine g_putI C (j := 13) cls5 e_44 rfl (by decide) rfl rfl fl_X5_183 dX5_takesNumber_63 ?_
        refine g_sgE (sg' := (us sg 44 (upd (upd (sg 44) 13 (nI p)) 13 (nI (p + 1))))) us_us ?_
        refine g_goto C (tgt := 11) (by decide) dX5_takesNumber_66 ?_
        refine g_sub (L' := [(3, .int (nI (10 * v + tx p - 48))), (2, .int (nI (sk tx by_ sp))), (0, .ref (ad w 44)), (1, .int (nI to))]) [0, 1, 2, 3] rfl ?_
        refine g_sgE (sg' := (us sg 44 (upd (sg 44) 13 (nI (p + 1))))) (by rw [upd_upd]) ?_
        exact ih (p + 1) (10 * v + tx p - 48) (by omega) h19.1 (by rw [← hrd, rdn_t h19])
  exact lp 6 (sk tx by_ sp) 0 rfl hp0 rfl
set_option maxRecDepth 100000 in
set_option maxHeartbeats 400000 in
theorem c_X5_takesNumber_f0 (w : GW) (tu : Int64) (sg : Sg) (to : Nat) (tx : Nat → Nat) (by_ sp : Nat) (hto : to < 120) (hby : sg 44 6 = nI by_) (hb : by_ ≤ 120) (hsp : sg 44 13 = nI sp) (hsb : sp ≤ by_) (htx : ∀ j, j < by_ → sg 49 j = nI (tx j) ∧ tx j ≤ 127) (h7 : ¬ atP tx by_ 48 57 (rdn tx by_ 6 (sk tx by_ sp) 0).1) (h0 : ¬ (sk tx by_ sp) < (rdn tx by_ 6 (sk tx by_ sp) 0).1) : Kt w yX5_takesNumber cX5_takesNumber 4 (some .boolean) 3 [.ref (ad w 44), .int (nI to)] sg tu (some (.int (nI 0))) (us (us sg 44 (upd (upd (sg 44) 13 (nI ((rdn tx by_ 6 (sk tx by_ sp) 0).1))) 14 (nI ((rdn tx by_ 6 (sk tx by_ sp) 0).1)))) 54 (upd (sg 54) to (nI ((rdn tx by_ 6 (sk tx by_ sp) 0).2)))) tu := by
  refine Kt.of2 RX5 rfl [(0, .ref (ad w 44)), (1, .int (nI to))] (by decide) rfl (Nat.le_of_ble_eq_true rfl) (fun z C E => ?_)
  refine g_aload_n C 0 rfl rfl dX5_takesNumber_0 ?_
  refine g_callV0 [] C (c_X5_blanks w tu sg  tx by_ sp hby hb hsp hsb htx) mt_X5_blanks e_44 rfl ml_X5_192 im_X5_blanks se_X5_blanks (by decide) rfl (Nat.le_of_ble_eq_true rfl) dX5_takesNumber_1 ?_
  refine g_eq (sg' := (us sg 44 (upd (sg 44) 13 (nI (sk tx by_ sp))))) (L' := [(0, .ref (ad w 44)), (1, .int (nI to))]) (S' := []) rfl rfl rfl rfl ?_
  refine g_aload_n C 0 rfl rfl dX5_takesNumber_4 ?_
  refine g_getI C (j := 13) cls5 e_44 rfl (by decide) fl_X5_183 dX5_takesNumber_5 ?_
  refine g_top (y := (nI (sk tx by_ sp))) rfl ?_
  refine g_istore_n C (L' := [(2, .int (nI (sk tx by_ sp))), (0, .ref (ad w 44)), (1, .int (nI to))]) rfl (by decide) rfl dX5_takesNumber_8 ?_
  refine g_iconst C (v := (nI 0)) (by decide) dX5_takesNumber_9 ?_
  refine g_istore_n C (L' := [(3, .int (nI 0)), (2, .int (nI (sk tx by_ sp))), (0, .ref (ad w 44)), (1, .int (nI to))]) rfl (by decide) rfl dX5_takesNumber_10 ?_
  have hp0 : (sk tx by_ sp) ≤ by_ := sk_le hsb
  have lp : ∀ (r p v : Nat), p + r = (sk tx by_ sp) + 6 → p ≤ by_ → rdn tx by_ r p v = (rdn tx by_ 6 (sk tx by_ sp) 0) → G z w 4 (us sg 44 (upd (sg 44) 13 (nI p))) tu 11 [(3, .int (nI v)), (2, .int (nI (sk tx by_ sp))), (0, .ref (ad w 44)), (1, .int (nI to))] [] := by
    intro r
    induction r with
    | zero =>
      intro p v hp hpb hrd
      have hge := rdn_ge (tx := tx) (len := by_) 6 (sk tx by_ sp) 0
      refine g_aload_n C 2 rfl rfl dX5_takesNumber_11 ?_
      refine g_bipush C (v := (nI 48)) (by decide) dX5_takesNumber_12 ?_
      refine g_bipush C (v := (nI 57)) (by decide) dX5_takesNumber_14 ?_
      refine g_callV1 [] C (c_X5_isAt w tu (us sg 44 (upd (sg 44) 13 (nI p))) 48 57 tx by_ p (by decide) (by decide) hby hb rfl (by omega) htx) mt_X5_isAt e_44 rfl ml_X5_186 im_X5_isAt se_X5_isAt (by decide) rfl (Nat.le_of_ble_eq_true rfl) dX5_takesNumber_16 ?_
      refine g_eq (L' := [(3, .int (nI v)), (2, .int (nI (sk tx by_ sp))), (0, .ref (ad w 44)), (1, .int (nI to))]) (S' := [.int (bI (atP tx by_ 48 57 p))]) rfl rfl rfl rfl ?_
      refine g_bif_eq C (tgt := 69) (by decide) dX5_takesNumber_19 (fun h19 => ?_) (fun h19 => ?_)
      ·
        have he : (p, v) = (rdn tx by_ 6 (sk tx by_ sp) 0) := by rw [← hrd]; exact (rdn_f h19).symm
        have hep : (rdn tx by_ 6 (sk tx by_ sp) 0).1 = p := (congrArg Prod.fst he).symm
        have hev : (rdn tx by_ 6 (sk tx by_ sp) 0).2 = v := (congrArg Prod.snd he).symm
        refine g_aload_n C 2 rfl rfl dX5_takesNumber_69 ?_
        refine g_getR C (j := 11) cls5 e_44 rfl (by decide) fl_X5_37 dX5_takesNumber_70 ?_
        refine g_iload_n C 3 rfl rfl dX5_takesNumber_73 ?_
        refine g_iload_n C 0 rfl rfl dX5_takesNumber_74 ?_
        refine g_iastN C to e_54 (by omega) (by decide) dX5_takesNumber_75 ?_
        refine g_sgE (sg' := (us (us sg 44 (upd (sg 44) 13 (nI p))) 54 (upd (sg 54) to (nI v)))) rfl ?_
        refine g_aload_n C 2 rfl rfl dX5_takesNumber_76 ?_
        refine g_getI C (j := 13) cls5 e_44 rfl (by decide) fl_X5_183 dX5_takesNumber_77 ?_
        refine g_top (y := (nI p)) rfl ?_
        refine g_iload_n C 1 rfl rfl dX5_takesNumber_80 ?_
        refine g_icmpN_gt C p (sk tx by_ sp) (by omega) (by omega) (tgt := 91) (by decide) dX5_takesNumber_81 (fun h81 => absurd (show (sk tx by_ sp) < (rdn tx by_ 6 (sk tx by_ sp) 0).1 from hep.symm ▸ h81) h0) (fun h81 => ?_)
        refine g_aload_n C 2 rfl rfl dX5_takesNumber_84 ?_
        refine g_callV1 [] C (c_X5_fails w tu (us (us sg 44 (upd (sg 44) 13 (nI p))) 54 (upd (sg 54) to (nI v)))  ) mt_X5_fails e_44 rfl ml_X5_195 im_X5_fails se_X5_fails (by decide) rfl (Nat.le_of_ble_eq_true rfl) dX5_takesNumber_85 ?_
        refine g_eq (sg' := (us (us (us sg 44 (upd (sg 44) 13 (nI p))) 54 (upd (sg 54) to (nI v))) 44 (upd (upd (sg 44) 13 (nI p)) 14 (nI p)))) (L' := [(3, .int (nI v)), (2, .int (nI (sk tx by_ sp))), (0, .ref (ad w 44)), (1, .int (nI to))]) (S' := [.int (nI 0)]) rfl rfl rfl rfl ?_
        refine g_if_eq C (tgt := 95) (by decide) dX5_takesNumber_88 (fun h88 => ?_) (fun h88 => absurd h88 (by decide))
        refine g_iconst C (v := (nI 0)) (by decide) dX5_takesNumber_95 ?_
        exact g_zret C E dX5_takesNumber_96 (by decide +kernel) rfl (Sq.of (by rw [hep, hev]; exact (us_nrm (by decide)).trans (us_comm (by decide)))) rfl
      ·
        have hep : (rdn tx by_ 6 (sk tx by_ sp) 0).1 = p := congrArg Prod.fst hrd.symm
        rw [hep] at h7
        exact absurd h19 h7
    | succ r ih =>
      intro p v hp hpb hrd
      have hge := rdn_ge (tx := tx) (len := by_) 6 (sk tx by_ sp) 0
      refine g_aload_n C 2 rfl rfl dX5_takesNumber_11 ?_
      refine g_bipush C (v := (nI 48)) (by decide) dX5_takesNumber_12 ?_
      refine g_bipush C (v := (nI 57)) (by decide) dX5_takesNumber_14 ?_
      refine g_callV1 [] C (c_X5_isAt w tu (us sg 44 (upd (sg 44) 13 (nI p))) 48 57 tx by_ p (by decide) (by decide) hby hb rfl (by omega) htx) mt_X5_isAt e_44 rfl ml_X5_186 im_X5_isAt se_X5_isAt (by decide) rfl (Nat.le_of_ble_eq_true rfl) dX5_takesNumber_16 ?_
      refine g_eq (L' := [(3, .int (nI v)), (2, .int (nI (sk tx by_ sp))), (0, .ref (ad w 44)), (1, .int (nI to))]) (S' := [.int (bI (atP tx by_ 48 57 p))]) rfl rfl rfl rfl ?_
      refine g_bif_eq C (tgt := 69) (by decide) dX5_takesNumber_19 (fun h19 => ?_) (fun h19 => ?_)
      ·
        have he : (p, v) = (rdn tx by_ 6 (sk tx by_ sp) 0) := by rw [← hrd]; exact (rdn_f h19).symm
        have hep : (rdn tx by_ 6 (sk tx by_ sp) 0).1 = p := (congrArg Prod.fst he).symm
        have hev : (rdn tx by_ 6 (sk tx by_ sp) 0).2 = v := (congrArg Prod.snd he).symm
        refine g_aload_n C 2 rfl rfl dX5_takesNumber_69 ?_
        refine g_getR C (j := 11) cls5 e_44 rfl (by decide) fl_X5_37 dX5_takesNumber_70 ?_
        refine g_iload_n C 3 rfl rfl dX5_takesNumber_73 ?_
        refine g_iload_n C 0 rfl rfl dX5_takesNumber_74 ?_
        refine g_iastN C to e_54 (by omega) (by decide) dX5_takesNumber_75 ?_
        refine g_sgE (sg' := (us (us sg 44 (upd (sg 44) 13 (nI p))) 54 (upd (sg 54) to (nI v)))) rfl ?_
        refine g_aload_n C 2 rfl rfl dX5_takesNumber_76 ?_
        refine g_getI C (j := 13) cls5 e_44 rfl (by decide) fl_X5_183 dX5_takesNumber_77 ?_
        refine g_top (y := (nI p)) rfl ?_
        refine g_iload_n C 1 rfl rfl dX5_takesNumber_80 ?_
        refine g_icmpN_gt C p (sk tx by_ sp) (by omega) (by omega) (tgt := 91) (by decide) dX5_takesNumber_81 (fun h81 => absurd (show (sk tx by_ sp) < (rdn tx by_ 6 (sk tx by_ sp) 0).1 from hep.symm ▸ h81) h0) (fun h81 => ?_)
        refine g_aload_n C 2 rfl rfl dX5_takesNumber_84 ?_
        refine g_callV1 [] C (c_X5_fails w tu (us (us sg 44 (upd (sg 44) 13 (nI p))) 54 (upd (sg 54) to (nI v)))  ) mt_X5_fails e_44 rfl ml_X5_195 im_X5_fails se_X5_fails (by decide) rfl (Nat.le_of_ble_eq_true rfl) dX5_takesNumber_85 ?_
        refine g_eq (sg' := (us (us (us sg 44 (upd (sg 44) 13 (nI p))) 54 (upd (sg 54) to (nI v))) 44 (upd (upd (sg 44) 13 (nI p)) 14 (nI p)))) (L' := [(3, .int (nI v)), (2, .int (nI (sk tx by_ sp))), (0, .ref (ad w 44)), (1, .int (nI to))]) (S' := [.int (nI 0)]) rfl rfl rfl rfl ?_
        refine g_if_eq C (tgt := 95) (by decide) dX5_takesNumber_88 (fun h88 => ?_) (fun h88 => absurd h88 (by decide))
        refine g_iconst C (v := (nI 0)) (by decide) dX5_takesNumber_95 ?_
        exact g_zret C E dX5_takesNumber_96 (by decide +kernel) rfl (Sq.of (by rw [hep, hev]; exact (us_nrm (by decide)).trans (us_comm (by decide)))) rfl
      ·
        refine g_aload_n C 2 rfl rfl dX5_takesNumber_22 ?_
        refine g_getI C (j := 13) cls5 e_44 rfl (by decide) fl_X5_183 dX5_takesNumber_23 ?_
        refine g_top (y := (nI p)) rfl ?_
        refine g_iload_n C 1 rfl rfl dX5_takesNumber_26 ?_
        refine g_bipush C (v := (nI 6)) (by decide) dX5_takesNumber_27 ?_
        refine g_iadd C dX5_takesNumber_29 ?_
        refine g_top (y := (nI ((sk tx by_ sp) + 6))) (nI_add (sk tx by_ sp) 6) ?_
        refine g_icmpN_ne C p ((sk tx by_ sp) + 6) (by omega) (by omega) (tgt := 38) (by decide) dX5_takesNumber_30 (fun h30 => ?_) (fun h30 => absurd h30 (by omega))
        refine g_bipush C (v := (nI 10)) (by decide) dX5_takesNumber_38 ?_
        refine g_iload_n C 0 rfl rfl dX5_takesNumber_40 ?_
        refine g_imul C dX5_takesNumber_41 ?_
        refine g_top (y := (nI (10 * v))) (pk_mul 10 v) ?_
        refine g_aload_n C 2 rfl rfl dX5_takesNumber_42 ?_
        refine g_getR C (j := 5) cls5 e_44 rfl (by decide) fl_X5_22 dX5_takesNumber_43 ?_
        refine g_aload_n C 2 rfl rfl dX5_takesNumber_46 ?_
        refine g_getI C (j := 13) cls5 e_44 rfl (by decide) fl_X5_183 dX5_takesNumber_47 ?_
        refine g_top (y := (nI p)) rfl ?_
        refine g_ialdN C p e_49 (by omega) (by decide) dX5_takesNumber_50 ?_
        refine g_top (y := (sg 49 p)) rfl ?_
        refine g_top (y := (nI (tx p))) (htx p h19.1).1 ?_
        refine g_iadd C dX5_takesNumber_51 ?_
        refine g_top (y := (nI ((10 * v) + (tx p)))) (nI_add (10 * v) (tx p)) ?_
        refine g_bipush C (v := (nI 48)) (by decide) dX5_takesNumber_52 ?_
        refine g_isub C dX5_takesNumber_54 ?_
        refine g_top (y := nI (10 * v + tx p - 48)) (pk_sub (by have := h19.2.1; omega)) ?_
        refine g_istore_n C (L' := [(3, .int (nI (10 * v + tx p - 48))), (2, .int (nI (sk tx by_ sp))), (0, .ref (ad w 44)), (1, .int (nI to))]) rfl (by decide) rfl dX5_takesNumber_55 ?_
        refine g_aload_n C 2 rfl rfl dX5_takesNumber_56 ?_
        refine g_dup C rfl dX5_takesNumber_57 ?_
        refine g_getI C (j := 13) cls5 e_44 rfl (by decide) fl_X5_183 dX5_takesNumber_58 ?_
        refine g_top (y := (nI p)) rfl ?_
        refine g_iconst C (v := (nI 1)) (by decide) dX5_takesNumber_61 ?_
        refine g_iadd C dX5_takesNumber_62 ?_
        refine g_top (y := (nI (p + 1))) (nI_add p 1) ?_
        refine g_putI C (j := 13) cls5 e_44 rfl (by decide) rfl rfl fl_X5_183 dX5_takesNumber_63 ?_
        refine g_sgE (sg' := (us sg 44 (upd (upd (sg 44) 13 (nI p)) 13 (nI (p + 1))))) us_us ?_
        refine g_goto C (tgt := 11) (by decide) dX5_takesNumber_66 ?_
        refine g_sub (L' := [(3, .int (nI (10 * v + tx p - 48))), (2, .int (nI (sk tx by_ sp))), (0, .ref (ad w 44)), (1, .int (nI to))]) [0, 1, 2, 3] rfl ?_
        refine g_sgE (sg' := (us sg 44 (upd (sg 44) 13 (nI (p + 1))))) (by rw [upd_upd]) ?_
        exact ih (p + 1) (10 * v + tx p - 48) (by omega) h19.1 (by rw [← hrd, rdn_t h19])
  exact lp 6 (sk tx by_ sp) 0 rfl hp0 rfl
