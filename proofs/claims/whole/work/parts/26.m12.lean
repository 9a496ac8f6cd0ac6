set_option maxRecDepth 100000 in
set_option maxHeartbeats 400000 in
theorem c_X5_isAt (w : GW) (tu : Int64) (sg : Sg) (lo : Nat) (hi : Nat) (tx : Nat → Nat) (by_ sp : Nat) (hlo : lo < 128) (hhi : hi < 128) (hby : sg 44 6 = nI by_) (hb : by_ ≤ 120) (hsp : sg 44 13 = nI sp) (hsb : sp ≤ by_) (htx : ∀ j, j < by_ → sg 49 j = nI (tx j) ∧ tx j ≤ 127) : Kt w yX5_isAt cX5_isAt 3 (some .boolean) 1 [.ref (ad w 44), .int (nI lo), .int (nI hi)] sg tu (some (.int (bI (atP tx by_ lo hi sp)))) sg tu := by
  refine Kt.of2 RX5 rfl [(0, .ref (ad w 44)), (1, .int (nI lo)), (2, .int (nI hi))] (by decide) rfl (Nat.le_of_ble_eq_true rfl) (fun z C E => ?_)
  refine g_aload_n C 0 rfl rfl dX5_isAt_0 ?_
  refine g_getI C (j := 13) cls5 e_44 rfl (by decide) fl_X5_183 dX5_isAt_1 ?_
  refine g_top (y := (nI sp)) hsp ?_
  refine g_aload_n C 0 rfl rfl dX5_isAt_4 ?_
  refine g_getI C (j := 6) cls5 e_44 rfl (by decide) fl_X5_180 dX5_isAt_5 ?_
  refine g_top (y := (nI by_)) hby ?_
  refine g_icmpN_ge C sp by_ (by omega) (by omega) (tgt := 35) (by decide) dX5_isAt_8 (fun h8 => ?_) (fun h8 => ?_)
  ·
    refine g_iconst C (v := (nI 0)) (by decide) dX5_isAt_35 ?_
    exact g_zret C E dX5_isAt_36 (by decide +kernel) (bI_f (fun q => absurd q.1 (by omega))).symm Sq.rf rfl
  ·
    refine g_aload_n C 0 rfl rfl dX5_isAt_11 ?_
    refine g_getR C (j := 5) cls5 e_44 rfl (by decide) fl_X5_22 dX5_isAt_12 ?_
    refine g_aload_n C 0 rfl rfl dX5_isAt_15 ?_
    refine g_getI C (j := 13) cls5 e_44 rfl (by decide) fl_X5_183 dX5_isAt_16 ?_
    refine g_top (y := (nI sp)) hsp ?_
    refine g_ialdN C sp e_49 (by omega) (by decide) dX5_isAt_19 ?_
    refine g_top (y := (nI (tx sp))) (htx sp h8).1 ?_
    refine g_i2l C dX5_isAt_20 ?_
    refine g_iload_n C 1 rfl rfl dX5_isAt_21 ?_
    refine g_i2l C dX5_isAt_22 ?_
    refine g_iload_n C 2 rfl rfl dX5_isAt_23 ?_
    refine g_i2l C dX5_isAt_24 ?_
    refine g_callS1 [] C (c_X5_in w tu sg (Int32.toInt64 (nI (tx sp))) (Int32.toInt64 (nI lo)) (Int32.toInt64 (nI hi)) ) mt_X5_in ml_X5_53 st_X5_in (by decide) rfl (Nat.le_of_ble_eq_true rfl) dX5_isAt_25 ?_
    refine g_eq (L' := [(0, .ref (ad w 44)), (1, .int (nI lo)), (2, .int (nI hi))]) (S' := [.int (bI ((Int32.toInt64 (nI lo)) ≤ (Int32.toInt64 (nI (tx sp))) ∧ (Int32.toInt64 (nI (tx sp))) ≤ (Int32.toInt64 (nI hi))))]) rfl rfl rfl rfl ?_
    refine g_bif_eq C (tgt := 35) (by decide) dX5_isAt_28 (fun h28 => ?_) (fun h28 => ?_)
    ·
      refine g_iconst C (v := (nI 0)) (by decide) dX5_isAt_35 ?_
      exact g_zret C E dX5_isAt_36 (by decide +kernel) (bI_f (fun q => h28 ((in_iff (by omega) (by have := (htx sp h8).2; omega) (by omega)).mpr q.2))).symm Sq.rf rfl
    ·
      refine g_iconst C (v := (nI 1)) (by decide) dX5_isAt_31 ?_
      refine g_goto C (tgt := 36) (by decide) dX5_isAt_32 ?_
      exact g_zret C E dX5_isAt_36 (by decide +kernel) (bI_t ⟨h8, (in_iff (by omega) (by have := (htx sp h8).2; omega) (by omega)).mp h28⟩).symm Sq.rf rfl
theorem upd_id {f : Nat → Int32} {k : Nat} : upd f k (f k) = f := by
  funext j
  unfold upd
  by_cases h : j = k
  · subst h; rw [if_pos rfl]
  · rw [if_neg h]
theorem us_upd_id {sg : Sg} {k j : Nat} : us sg k (upd (sg k) j (sg k j)) = sg := by rw [upd_id, us_id]
set_option maxRecDepth 100000 in
set_option maxHeartbeats 400000 in
theorem c_X5_blanks (w : GW) (tu : Int64) (sg : Sg) (tx : Nat → Nat) (by_ sp : Nat) (hby : sg 44 6 = nI by_) (hb : by_ ≤ 120) (hsp : sg 44 13 = nI sp) (hsb : sp ≤ by_) (htx : ∀ j, j < by_ → sg 49 j = nI (tx j) ∧ tx j ≤ 127) : Kt w yX5_blanks cX5_blanks 1 none 2 [.ref (ad w 44)] sg tu (none) (us sg 44 (upd (sg 44) 13 (nI (sk tx by_ sp)))) tu := by
  refine Kt.of2 RX5 rfl [(0, .ref (ad w 44))] (by decide) rfl (Nat.le_of_ble_eq_true rfl) (fun z C E => ?_)
  have lp : ∀ (r p : Nat), p + r = by_ → sk tx by_ p = sk tx by_ sp → G z w 1 (us sg 44 (upd (sg 44) 13 (nI p))) tu 0 [(0, .ref (ad w 44))] [] := by
    intro r
    induction r with
    | zero =>
      intro p hp hsk
      refine g_aload_n C 0 rfl rfl dX5_blanks_0 ?_
      refine g_bipush C (v := (nI 32)) (by decide) dX5_blanks_1 ?_
      refine g_bipush C (v := (nI 32)) (by decide) dX5_blanks_3 ?_
      refine g_callV1 [] C (c_X5_isAt w tu (us sg 44 (upd (sg 44) 13 (nI p))) 32 32 tx by_ p (by decide) (by decide) hby hb rfl (by omega) htx) mt_X5_isAt e_44 rfl ml_X5_186 im_X5_isAt se_X5_isAt (by decide) rfl (Nat.le_of_ble_eq_true rfl) dX5_blanks_5 ?_
      refine g_eq (L' := [(0, .ref (ad w 44))]) (S' := [.int (bI (atP tx by_ 32 32 p))]) rfl rfl rfl rfl ?_
      refine g_bif_eq C (tgt := 24) (by decide) dX5_blanks_8 (fun h8 => ?_) (fun h8 => absurd h8.1 (by omega))
      exact g_vret C E dX5_blanks_24 (Sq.of (by rw [← hsk, sk_f h8])) rfl
    | succ r ih =>
      intro p hp hsk
      refine g_aload_n C 0 rfl rfl dX5_blanks_0 ?_
      refine g_bipush C (v := (nI 32)) (by decide) dX5_blanks_1 ?_
      refine g_bipush C (v := (nI 32)) (by decide) dX5_blanks_3 ?_
      refine g_callV1 [] C (c_X5_isAt w tu (us sg 44 (upd (sg 44) 13 (nI p))) 32 32 tx by_ p (by decide) (by decide) hby hb rfl (by omega) htx) mt_X5_isAt e_44 rfl ml_X5_186 im_X5_isAt se_X5_isAt (by decide) rfl (Nat.le_of_ble_eq_true rfl) dX5_blanks_5 ?_
      refine g_eq (L' := [(0, .ref (ad w 44))]) (S' := [.int (bI (atP tx by_ 32 32 p))]) rfl rfl rfl rfl ?_
      refine g_bif_eq C (tgt := 24) (by decide) dX5_blanks_8 (fun h8 => ?_) (fun h8 => ?_)
      ·
        exact g_vret C E dX5_blanks_24 (Sq.of (by rw [← hsk, sk_f h8])) rfl
      ·
        refine g_aload_n C 0 rfl rfl dX5_blanks_11 ?_
        refine g_dup C rfl dX5_blanks_12 ?_
        refine g_getI C (j := 13) cls5 e_44 rfl (by decide) fl_X5_183 dX5_blanks_13 ?_
        refine g_top (y := (nI p)) rfl ?_
        refine g_iconst C (v := (nI 1)) (by decide) dX5_blanks_16 ?_
        refine g_iadd C dX5_blanks_17 ?_
        refine g_top (y := (nI (p + 1))) (nI_add p 1) ?_
        refine g_putI C (j := 13) cls5 e_44 rfl (by decide) rfl rfl fl_X5_183 dX5_blanks_18 ?_
        refine g_sgE (sg' := (us sg 44 (upd (upd (sg 44) 13 (nI p)) 13 (nI (p + 1))))) us_us ?_
        refine g_goto C (tgt := 0) (by decide) dX5_blanks_21 ?_
        refine g_sgE (sg' := (us sg 44 (upd (sg 44) 13 (nI (p + 1))))) (by rw [upd_upd]) ?_
        exact ih (p + 1) (by omega) (by rw [← hsk, sk_t h8])
  refine g_sgE (sg' := (us sg 44 (upd (sg 44) 13 (nI sp)))) (by rw [← hsp]; exact (us_upd_id).symm) ?_
  exact lp (by_ - sp) sp (by omega) rfl
set_option maxRecDepth 100000 in
set_option maxHeartbeats 400000 in
theorem c_X5_manyOf (w : GW) (tu : Int64) (sg : Sg) (c : Nat) (hc : c ≤ 127) : Kt w yX5_manyOf cX5_manyOf 1 (some .int) 0 [.int (nI c)] sg tu (some (.int (mnI c))) sg tu := by
  refine Kt.of2 RX5 rfl [(0, .int (nI c))] (by decide) rfl (Nat.le_of_ble_eq_true rfl) (fun z C E => ?_)
  refine g_iload_n C 0 rfl rfl dX5_manyOf_0 ?_
  by_cases hsw : 99 ≤ c ∧ c ≤ 119
  ·
    have hsw2 : c = 99 ∨ c = 100 ∨ c = 101 ∨ c = 102 ∨ c = 103 ∨ c = 104 ∨ c = 105 ∨ c = 106 ∨ c = 107 ∨ c = 108 ∨ c = 109 ∨ c = 110 ∨ c = 111 ∨ c = 112 ∨ c = 113 ∨ c = 114 ∨ c = 115 ∨ c = 116 ∨ c = 117 ∨ c = 118 ∨ c = 119 := by omega
    rcases hsw2 with rfl | rfl | rfl | rfl | rfl | rfl | rfl | rfl | rfl | rfl | rfl | rfl | rfl | rfl | rfl | rfl | rfl | rfl | rfl | rfl | rfl
    ·
      refine g_tabIn C (tgt := 104) dX5_manyOf_1 (by decide) (by decide) rfl (by decide) ?_
      refine g_iconst C (v := (nI 0)) (by decide) dX5_manyOf_104 ?_
      exact g_iret C E dX5_manyOf_105 (by decide) Sq.rf rfl
    ·
      refine g_tabIn C (tgt := 102) dX5_manyOf_1 (by decide) (by decide) rfl (by decide) ?_
      refine g_iconst C (v := (nI 1)) (by decide) dX5_manyOf_102 ?_
      exact g_iret C E dX5_manyOf_103 (by decide) Sq.rf rfl
    ·
      refine g_tabIn C (tgt := 106) dX5_manyOf_1 (by decide) (by decide) rfl (by decide) ?_
      refine g_iconst C (v := (-1)) (by decide) dX5_manyOf_106 ?_
      exact g_iret C E dX5_manyOf_107 (by decide) Sq.rf rfl
    ·
      refine g_tabIn C (tgt := 106) dX5_manyOf_1 (by decide) (by decide) rfl (by decide) ?_
      refine g_iconst C (v := (-1)) (by decide) dX5_manyOf_106 ?_
      exact g_iret C E dX5_manyOf_107 (by decide) Sq.rf rfl
    ·
      refine g_tabIn C (tgt := 106) dX5_manyOf_1 (by decide) (by decide) rfl (by decide) ?_
      refine g_iconst C (v := (-1)) (by decide) dX5_manyOf_106 ?_
      exact g_iret C E dX5_manyOf_107 (by decide) Sq.rf rfl
    ·
      refine g_tabIn C (tgt := 106) dX5_manyOf_1 (by decide) (by decide) rfl (by decide) ?_
      refine g_iconst C (v := (-1)) (by decide) dX5_manyOf_106 ?_
      exact g_iret C E dX5_manyOf_107 (by decide) Sq.rf rfl
    ·
      refine g_tabIn C (tgt := 100) dX5_manyOf_1 (by decide) (by decide) rfl (by decide) ?_
      refine g_iconst C (v := (nI 2)) (by decide) dX5_manyOf_100 ?_
      exact g_iret C E dX5_manyOf_101 (by decide) Sq.rf rfl
    ·
      refine g_tabIn C (tgt := 106) dX5_manyOf_1 (by decide) (by decide) rfl (by decide) ?_
      refine g_iconst C (v := (-1)) (by decide) dX5_manyOf_106 ?_
      exact g_iret C E dX5_manyOf_107 (by decide) Sq.rf rfl
    ·
      refine g_tabIn C (tgt := 106) dX5_manyOf_1 (by decide) (by decide) rfl (by decide) ?_
      refine g_iconst C (v := (-1)) (by decide) dX5_manyOf_106 ?_
      exact g_iret C E dX5_manyOf_107 (by decide) Sq.rf rfl
    ·
      refine g_tabIn C (tgt := 106) dX5_manyOf_1 (by decide) (by decide) rfl (by decide) ?_
      refine g_iconst C (v := (-1)) (by decide) dX5_manyOf_106 ?_
      exact g_iret C E dX5_manyOf_107 (by decide) Sq.rf rfl
    ·
      refine g_tabIn C (tgt := 106) dX5_manyOf_1 (by decide) (by decide) rfl (by decide) ?_
      refine g_iconst C (v := (-1)) (by decide) dX5_manyOf_106 ?_
      exact g_iret C E dX5_manyOf_107 (by decide) Sq.rf rfl
    ·
      refine g_tabIn C (tgt := 106) dX5_manyOf_1 (by decide) (by decide) rfl (by decide) ?_
      refine g_iconst C (v := (-1)) (by decide) dX5_manyOf_106 ?_
      exact g_iret C E dX5_manyOf_107 (by decide) Sq.rf rfl
    ·
      refine g_tabIn C (tgt := 106) dX5_manyOf_1 (by decide) (by decide) rfl (by decide) ?_
      refine g_iconst C (v := (-1)) (by decide) dX5_manyOf_106 ?_
      exact g_iret C E dX5_manyOf_107 (by decide) Sq.rf rfl
    ·
      refine g_tabIn C (tgt := 106) dX5_manyOf_1 (by decide) (by decide) rfl (by decide) ?_
      refine g_iconst C (v := (-1)) (by decide) dX5_manyOf_106 ?_
      exact g_iret C E dX5_manyOf_107 (by decide) Sq.rf rfl
    ·
      refine g_tabIn C (tgt := 106) dX5_manyOf_1 (by decide) (by decide) rfl (by decide) ?_
      refine g_iconst C (v := (-1)) (by decide) dX5_manyOf_106 ?_
      exact g_iret C E dX5_manyOf_107 (by decide) Sq.rf rfl
    ·
      refine g_tabIn C (tgt := 102) dX5_manyOf_1 (by decide) (by decide) rfl (by decide) ?_
      refine g_iconst C (v := (nI 1)) (by decide) dX5_manyOf_102 ?_
      exact g_iret C E dX5_manyOf_103 (by decide) Sq.rf rfl
    ·
      refine g_tabIn C (tgt := 102) dX5_manyOf_1 (by decide) (by decide) rfl (by decide) ?_
      refine g_iconst C (v := (nI 1)) (by decide) dX5_manyOf_102 ?_
      exact g_iret C E dX5_manyOf_103 (by decide) Sq.rf rfl
    ·
      refine g_tabIn C (tgt := 100) dX5_manyOf_1 (by decide) (by decide) rfl (by decide) ?_
      refine g_iconst C (v := (nI 2)) (by decide) dX5_manyOf_100 ?_
      exact g_iret C E dX5_manyOf_101 (by decide) Sq.rf rfl
    ·
      refine g_tabIn C (tgt := 102) dX5_manyOf_1 (by decide) (by decide) rfl (by decide) ?_
      refine g_iconst C (v := (nI 1)) (by decide) dX5_manyOf_102 ?_
      exact g_iret C E dX5_manyOf_103 (by decide) Sq.rf rfl
    ·
      refine g_tabIn C (tgt := 104) dX5_manyOf_1 (by decide) (by decide) rfl (by decide) ?_
      refine g_iconst C (v := (nI 0)) (by decide) dX5_manyOf_104 ?_
      exact g_iret C E dX5_manyOf_105 (by decide) Sq.rf rfl
    ·
      refine g_tabIn C (tgt := 100) dX5_manyOf_1 (by decide) (by decide) rfl (by decide) ?_
      refine g_iconst C (v := (nI 2)) (by decide) dX5_manyOf_100 ?_
      exact g_iret C E dX5_manyOf_101 (by decide) Sq.rf rfl
  ·
    refine g_tabOut C (tgt := 106) dX5_manyOf_1 (by rw [nI_toInt (by omega)]; omega) (by decide) ?_
    refine g_iconst C (v := (-1)) (by decide) dX5_manyOf_106 ?_
    exact g_iret C E dX5_manyOf_107 (by unfold mnI; rw [if_neg (by omega), if_neg (by omega), if_neg (by omega)]) Sq.rf rfl
