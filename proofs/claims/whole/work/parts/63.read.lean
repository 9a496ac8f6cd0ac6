def atI (tx : Nat → Nat) (len p : Nat) : Int32 := if p < len then nI (tx p) else (-1)
theorem c_X2_at (w : GW) (tu : Int64) (sg : Sg) (p : Nat) (tx : Nat → Nat) (len : Nat) (htl : sg 38 1 = nI len) (hl : len ≤ 120) (htx : ∀ j, j < len → sg 39 j = nI (tx j) ∧ tx j ≤ 127) (hp : p ≤ len) : Kt w yX2_at cX2_at 2 (some .int) 1 [.ref (ad w 38), .int (nI p)] sg tu (some (.int (atI tx len p))) sg tu := by
  unfold atI
  by_cases h : p < len
  · rw [if_pos h, ← (htx p h).1]
    exact c_X2_at_in w tu sg p len htl hl h
  · rw [if_neg h]
    by_cases h1 : 1 ≤ len
    · exact c_X2_at_out w tu sg p len htl hl h1 (by omega) (by omega)
    · have h0 : len = 0 := by omega
      subst h0
      exact c_X2_at_none w tu sg p htl
theorem fig_iff {tx : Nat → Nat} {len p : Nat} (h9 : p < len → tx p ≤ 127) : ((48 : Int64) ≤ Int32.toInt64 (atI tx len p) ∧ Int32.toInt64 (atI tx len p) ≤ 57) ↔ atP tx len 48 57 p := by
  unfold atI
  by_cases h : p < len
  · have h2 := h9 h
    rw [if_pos h, nI_l (by omega), show (48 : Int64) = lN 48 from rfl, show (57 : Int64) = lN 57 from rfl, pk_lLE (by omega) (by omega), pk_lLE (by omega) (by omega)]
    exact ⟨fun q => ⟨h, q⟩, fun q => q.2⟩
  · rw [if_neg h]
    exact ⟨fun q => absurd q.1 (by decide), fun q => absurd q.1 h⟩
theorem upd45 {f : Nat → Int32} {p v p' v' : Int32} : upd (upd (upd (upd f 4 p) 5 v) 5 v') 4 p' = upd (upd f 4 p') 5 v' := by
  funext j
  unfold upd
  by_cases h4 : j = 4
  · subst h4; simp
  · by_cases h5 : j = 5
    · subst h5; simp
    · simp [h4, h5]
set_option maxRecDepth 100000 in
set_option maxHeartbeats 400000 in
theorem c_X0_skipBlanks (w : GW) (tu : Int64) (sg : Sg) (tx : Nat → Nat) (len sp : Nat) (htl : sg 38 1 = nI len) (hl : len ≤ 120) (htx : ∀ j, j < len → sg 39 j = nI (tx j) ∧ tx j ≤ 127) (hpl : sg 40 4 = nI sp) (hsp : sp ≤ len) : Kt w yX0_skipBlanks cX0_skipBlanks 2 none 2 [.ref (ad w 40), .ref (ad w 38)] sg tu (none) (us sg 40 (upd (sg 40) 4 (nI (sk tx len sp)))) tu := by
  refine Kt.of2 RX0 rfl [(0, .ref (ad w 40)), (1, .ref (ad w 38))] (by decide) rfl (Nat.le_of_ble_eq_true rfl) (fun z C E => ?_)
  have lp : ∀ (r p : Nat), p + r = len → sk tx len p = sk tx len sp → G z w 2 (us sg 40 (upd (sg 40) 4 (nI p))) tu 0 [(0, .ref (ad w 40)), (1, .ref (ad w 38))] [] := by
    intro r
    induction r with
    | zero =>
      intro p hp hsk
      refine g_aload_n C 0 rfl rfl dX0_skipBlanks_0 ?_
      refine g_getI C (j := 4) cls0 e_40 rfl (by decide) fl_X0_25 dX0_skipBlanks_1 ?_
      refine g_top (y := (nI p)) rfl ?_
      refine g_aload_n C 1 rfl rfl dX0_skipBlanks_4 ?_
      refine g_getI C (j := 1) cls2 e_38 rfl (by decide) fl_X0_36 dX0_skipBlanks_5 ?_
      refine g_top (y := (nI len)) htl ?_
      refine g_icmpN_ge C p len (by omega) (by omega) (tgt := 37) (by decide) dX0_skipBlanks_8 (fun h8 => ?_) (fun h8 => absurd h8 (by omega))
      exact g_vret C E dX0_skipBlanks_37 (Sq.of (by rw [← hsk, sk_f (fun q => absurd q.1 (by omega))])) rfl
    | succ r ih =>
      intro p hp hsk
      refine g_aload_n C 0 rfl rfl dX0_skipBlanks_0 ?_
      refine g_getI C (j := 4) cls0 e_40 rfl (by decide) fl_X0_25 dX0_skipBlanks_1 ?_
      refine g_top (y := (nI p)) rfl ?_
      refine g_aload_n C 1 rfl rfl dX0_skipBlanks_4 ?_
      refine g_getI C (j := 1) cls2 e_38 rfl (by decide) fl_X0_36 dX0_skipBlanks_5 ?_
      refine g_top (y := (nI len)) htl ?_
      refine g_icmpN_ge C p len (by omega) (by omega) (tgt := 37) (by decide) dX0_skipBlanks_8 (fun h8 => absurd h8 (by omega)) (fun h8 => ?_)
      have h9 := (htx p (by omega)).2
      refine g_aload_n C 1 rfl rfl dX0_skipBlanks_11 ?_
      refine g_aload_n C 0 rfl rfl dX0_skipBlanks_12 ?_
      refine g_getI C (j := 4) cls0 e_40 rfl (by decide) fl_X0_25 dX0_skipBlanks_13 ?_
      refine g_top (y := (nI p)) rfl ?_
      refine g_callV1 [] C (c_X2_at w tu (us sg 40 (upd (sg 40) 4 (nI p))) p tx len htl hl htx (by omega)) mt_X2_at e_38 rfl ml_X0_41 im_X2_at se_X2_at (by decide) rfl (Nat.le_of_ble_eq_true rfl) dX0_skipBlanks_16 ?_
      refine g_eq (L' := [(0, .ref (ad w 40)), (1, .ref (ad w 38))]) (S' := [.int (atI tx len p)]) rfl rfl rfl rfl ?_
      refine g_top (y := (nI (tx p))) (if_pos (by omega)) ?_
      refine g_bipush C (v := (nI 32)) (by decide) dX0_skipBlanks_19 ?_
      refine g_icmpN_ne C (tx p) 32 (by omega) (by omega) (tgt := 37) (by decide) dX0_skipBlanks_21 (fun h21 => ?_) (fun h21 => ?_)
      ·
        exact g_vret C E dX0_skipBlanks_37 (Sq.of (by rw [← hsk, sk_f (fun q => h21 (by omega))])) rfl
      ·
        refine g_aload_n C 0 rfl rfl dX0_skipBlanks_24 ?_
        refine g_dup C rfl dX0_skipBlanks_25 ?_
        refine g_getI C (j := 4) cls0 e_40 rfl (by decide) fl_X0_25 dX0_skipBlanks_26 ?_
        refine g_top (y := (nI p)) rfl ?_
        refine g_iconst C (v := (nI 1)) (by decide) dX0_skipBlanks_29 ?_
        refine g_iadd C dX0_skipBlanks_30 ?_
        refine g_top (y := (nI (p + 1))) (nI_add p 1) ?_
        refine g_putI C (j := 4) cls0 e_40 rfl (by decide) rfl rfl fl_X0_25 dX0_skipBlanks_31 ?_
        refine g_sgE (sg' := (us sg 40 (upd (upd (sg 40) 4 (nI p)) 4 (nI (p + 1))))) us_us ?_
        refine g_goto C (tgt := 0) (by decide) dX0_skipBlanks_34 ?_
        refine g_sgE (sg' := (us sg 40 (upd (sg 40) 4 (nI (p + 1))))) (by rw [upd_upd]) ?_
        exact ih (p + 1) (by omega) (by rw [← hsk]; exact (sk_t (tx := tx) (len := len) (p := p) ⟨by omega, by omega, by omega⟩).symm)
  refine g_sgE (sg' := (us sg 40 (upd (sg 40) 4 (nI sp)))) (by rw [← hpl]; exact (us_upd_id).symm) ?_
  exact lp (len - sp) sp (by omega) rfl
set_option maxRecDepth 100000 in
set_option maxHeartbeats 400000 in
theorem c_X0_isFigure (w : GW) (tu : Int64) (sg : Sg) (c : Int32) (tx : Nat → Nat) (len p : Nat) (hc : c = atI tx len p) (h9 : p < len → tx p ≤ 127) : Kt w yX0_isFigure cX0_isFigure 1 (some .boolean) 1 [.int c] sg tu (some (.int (bI (atP tx len 48 57 p)))) sg tu := by
  refine Kt.of2 RX0 rfl [(0, .int c)] (by decide) rfl (Nat.le_of_ble_eq_true rfl) (fun z C E => ?_)
  refine g_iload_n C 0 rfl rfl dX0_isFigure_0 ?_
  refine g_i2l C dX0_isFigure_1 ?_
  refine g_ldc2 C cn_X0_59 dX0_isFigure_2 ?_
  refine g_ldc2 C cn_X0_61 dX0_isFigure_5 ?_
  refine g_callN1 [] C (c_X4_within w tu sg (Int32.toInt64 c) 48 57 ) mt_X4_within nl_X0_63 st_X4_within (by decide) rfl (Nat.le_of_ble_eq_true rfl) dX0_isFigure_8 ?_
  refine g_eq (L' := [(0, .int c)]) (S' := [.int (bI (48 ≤ (Int32.toInt64 c) ∧ (Int32.toInt64 c) ≤ 57))]) rfl rfl rfl rfl ?_
  exact g_zret C E dX0_isFigure_11 bI_nar (by rw [hc]; exact bI_iff (fig_iff h9)) Sq.rf rfl
set_option maxRecDepth 100000 in
set_option maxHeartbeats 400000 in
theorem c_X0_numbersOf_c (w : GW) (tu : Int64) (sg : Sg) (c : Nat) (hc : c ≤ 127) : Kt w yX0_numbersOf cX0_numbersOf 1 (some .int) 0 [.int (nI c)] sg tu (some (.int (mnI c))) sg tu := by
  refine Kt.of2 RX0 rfl [(0, .int (nI c))] (by decide) rfl (Nat.le_of_ble_eq_true rfl) (fun z C E => ?_)
  refine g_iload_n C 0 rfl rfl dX0_numbersOf_0 ?_
  by_cases hsw : 99 ≤ c ∧ c ≤ 119
  ·
    have hsw2 : c = 99 ∨ c = 100 ∨ c = 101 ∨ c = 102 ∨ c = 103 ∨ c = 104 ∨ c = 105 ∨ c = 106 ∨ c = 107 ∨ c = 108 ∨ c = 109 ∨ c = 110 ∨ c = 111 ∨ c = 112 ∨ c = 113 ∨ c = 114 ∨ c = 115 ∨ c = 116 ∨ c = 117 ∨ c = 118 ∨ c = 119 := by omega
    rcases hsw2 with rfl | rfl | rfl | rfl | rfl | rfl | rfl | rfl | rfl | rfl | rfl | rfl | rfl | rfl | rfl | rfl | rfl | rfl | rfl | rfl | rfl
    ·
      refine g_tabIn C (tgt := 100) dX0_numbersOf_1 (by decide) (by decide) rfl (by decide) ?_
      refine g_iconst C (v := (nI 0)) (by decide) dX0_numbersOf_100 ?_
      exact g_iret C E dX0_numbersOf_101 (by decide) Sq.rf rfl
    ·
      refine g_tabIn C (tgt := 102) dX0_numbersOf_1 (by decide) (by decide) rfl (by decide) ?_
      refine g_iconst C (v := (nI 1)) (by decide) dX0_numbersOf_102 ?_
      exact g_iret C E dX0_numbersOf_103 (by decide) Sq.rf rfl
    ·
      refine g_tabIn C (tgt := 106) dX0_numbersOf_1 (by decide) (by decide) rfl (by decide) ?_
      refine g_iconst C (v := (-1)) (by decide) dX0_numbersOf_106 ?_
      exact g_iret C E dX0_numbersOf_107 (by decide) Sq.rf rfl
    ·
      refine g_tabIn C (tgt := 106) dX0_numbersOf_1 (by decide) (by decide) rfl (by decide) ?_
      refine g_iconst C (v := (-1)) (by decide) dX0_numbersOf_106 ?_
      exact g_iret C E dX0_numbersOf_107 (by decide) Sq.rf rfl
    ·
      refine g_tabIn C (tgt := 106) dX0_numbersOf_1 (by decide) (by decide) rfl (by decide) ?_
      refine g_iconst C (v := (-1)) (by decide) dX0_numbersOf_106 ?_
      exact g_iret C E dX0_numbersOf_107 (by decide) Sq.rf rfl
    ·
      refine g_tabIn C (tgt := 106) dX0_numbersOf_1 (by decide) (by decide) rfl (by decide) ?_
      refine g_iconst C (v := (-1)) (by decide) dX0_numbersOf_106 ?_
      exact g_iret C E dX0_numbersOf_107 (by decide) Sq.rf rfl
    ·
      refine g_tabIn C (tgt := 104) dX0_numbersOf_1 (by decide) (by decide) rfl (by decide) ?_
      refine g_iconst C (v := (nI 2)) (by decide) dX0_numbersOf_104 ?_
      exact g_iret C E dX0_numbersOf_105 (by decide) Sq.rf rfl
    ·
      refine g_tabIn C (tgt := 106) dX0_numbersOf_1 (by decide) (by decide) rfl (by decide) ?_
      refine g_iconst C (v := (-1)) (by decide) dX0_numbersOf_106 ?_
      exact g_iret C E dX0_numbersOf_107 (by decide) Sq.rf rfl
    ·
      refine g_tabIn C (tgt := 106) dX0_numbersOf_1 (by decide) (by decide) rfl (by decide) ?_
      refine g_iconst C (v := (-1)) (by decide) dX0_numbersOf_106 ?_
      exact g_iret C E dX0_numbersOf_107 (by decide) Sq.rf rfl
    ·
      refine g_tabIn C (tgt := 106) dX0_numbersOf_1 (by decide) (by decide) rfl (by decide) ?_
      refine g_iconst C (v := (-1)) (by decide) dX0_numbersOf_106 ?_
      exact g_iret C E dX0_numbersOf_107 (by decide) Sq.rf rfl
    ·
      refine g_tabIn C (tgt := 106) dX0_numbersOf_1 (by decide) (by decide) rfl (by decide) ?_
      refine g_iconst C (v := (-1)) (by decide) dX0_numbersOf_106 ?_
      exact g_iret C E dX0_numbersOf_107 (by decide) Sq.rf rfl
    ·
      refine g_tabIn C (tgt := 106) dX0_numbersOf_1 (by decide) (by decide) rfl (by decide) ?_
      refine g_iconst C (v := (-1)) (by decide) dX0_numbersOf_106 ?_
      exact g_iret C E dX0_numbersOf_107 (by decide) Sq.rf rfl
    ·
      refine g_tabIn C (tgt := 106) dX0_numbersOf_1 (by decide) (by decide) rfl (by decide) ?_
      refine g_iconst C (v := (-1)) (by decide) dX0_numbersOf_106 ?_
      exact g_iret C E dX0_numbersOf_107 (by decide) Sq.rf rfl
    ·
      refine g_tabIn C (tgt := 106) dX0_numbersOf_1 (by decide) (by decide) rfl (by decide) ?_
      refine g_iconst C (v := (-1)) (by decide) dX0_numbersOf_106 ?_
      exact g_iret C E dX0_numbersOf_107 (by decide) Sq.rf rfl
    ·
      refine g_tabIn C (tgt := 106) dX0_numbersOf_1 (by decide) (by decide) rfl (by decide) ?_
      refine g_iconst C (v := (-1)) (by decide) dX0_numbersOf_106 ?_
      exact g_iret C E dX0_numbersOf_107 (by decide) Sq.rf rfl
    ·
      refine g_tabIn C (tgt := 102) dX0_numbersOf_1 (by decide) (by decide) rfl (by decide) ?_
      refine g_iconst C (v := (nI 1)) (by decide) dX0_numbersOf_102 ?_
      exact g_iret C E dX0_numbersOf_103 (by decide) Sq.rf rfl
    ·
      refine g_tabIn C (tgt := 102) dX0_numbersOf_1 (by decide) (by decide) rfl (by decide) ?_
      refine g_iconst C (v := (nI 1)) (by decide) dX0_numbersOf_102 ?_
      exact g_iret C E dX0_numbersOf_103 (by decide) Sq.rf rfl
    ·
      refine g_tabIn C (tgt := 104) dX0_numbersOf_1 (by decide) (by decide) rfl (by decide) ?_
      refine g_iconst C (v := (nI 2)) (by decide) dX0_numbersOf_104 ?_
      exact g_iret C E dX0_numbersOf_105 (by decide) Sq.rf rfl
    ·
      refine g_tabIn C (tgt := 102) dX0_numbersOf_1 (by decide) (by decide) rfl (by decide) ?_
      refine g_iconst C (v := (nI 1)) (by decide) dX0_numbersOf_102 ?_
      exact g_iret C E dX0_numbersOf_103 (by decide) Sq.rf rfl
    ·
      refine g_tabIn C (tgt := 100) dX0_numbersOf_1 (by decide) (by decide) rfl (by decide) ?_
      refine g_iconst C (v := (nI 0)) (by decide) dX0_numbersOf_100 ?_
      exact g_iret C E dX0_numbersOf_101 (by decide) Sq.rf rfl
    ·
      refine g_tabIn C (tgt := 104) dX0_numbersOf_1 (by decide) (by decide) rfl (by decide) ?_
      refine g_iconst C (v := (nI 2)) (by decide) dX0_numbersOf_104 ?_
      exact g_iret C E dX0_numbersOf_105 (by decide) Sq.rf rfl
  ·
    refine g_tabOut C (tgt := 106) dX0_numbersOf_1 (by rw [nI_toInt (by omega)]; omega) (by decide) ?_
    refine g_iconst C (v := (-1)) (by decide) dX0_numbersOf_106 ?_
    exact g_iret C E dX0_numbersOf_107 (by unfold mnI; rw [if_neg (by omega), if_neg (by omega), if_neg (by omega)]) Sq.rf rfl
set_option maxRecDepth 100000 in
set_option maxHeartbeats 400000 in
theorem c_X0_numbersOf_none (w : GW) (tu : Int64) (sg : Sg) : Kt w yX0_numbersOf cX0_numbersOf 1 (some .int) 0 [.int (-1)] sg tu (some (.int (-1))) sg tu := by
  refine Kt.of2 RX0 rfl [(0, .int (-1))] (by decide) rfl (Nat.le_of_ble_eq_true rfl) (fun z C E => ?_)
  refine g_iload_n C 0 rfl rfl dX0_numbersOf_0 ?_
  refine g_tabOut C (tgt := 106) dX0_numbersOf_1 (Or.inl (by decide)) (by decide) ?_
  refine g_iconst C (v := (-1)) (by decide) dX0_numbersOf_106 ?_
  exact g_iret C E dX0_numbersOf_107 rfl Sq.rf rfl
set_option maxRecDepth 100000 in
set_option maxHeartbeats 400000 in
theorem c_X0_readNumber (w : GW) (tu : Int64) (sg : Sg) (tx : Nat → Nat) (len sp : Nat) (htl : sg 38 1 = nI len) (hl : len ≤ 120) (htx : ∀ j, j < len → sg 39 j = nI (tx j) ∧ tx j ≤ 127) (hpl : sg 40 4 = nI sp) (hsp : sp ≤ len) : Kt w yX0_readNumber cX0_readNumber 3 (some .boolean) 3 [.ref (ad w 40), .ref (ad w 38)] sg tu (some (.int (bI (nuOk tx len sp)))) (us sg 40 (upd (upd (sg 40) 4 (nI ((rdn tx len 6 (sk tx len sp) 0).1))) 5 (nI ((rdn tx len 6 (sk tx len sp) 0).2)))) tu := by
  refine Kt.of2 RX0 rfl [(0, .ref (ad w 40)), (1, .ref (ad w 38))] (by decide) rfl (Nat.le_of_ble_eq_true rfl) (fun z C E => ?_)
  refine g_aload_n C 0 rfl rfl dX0_readNumber_0 ?_
  refine g_aload_n C 1 rfl rfl dX0_readNumber_1 ?_
  refine g_callV0 [] C (c_X0_skipBlanks w tu sg  tx len sp htl hl htx hpl hsp) mt_X0_skipBlanks e_40 rfl ml_X0_32 im_X0_skipBlanks se_X0_skipBlanks (by decide) rfl (Nat.le_of_ble_eq_true rfl) dX0_readNumber_2 ?_
  refine g_eq (sg' := (us sg 40 (upd (sg 40) 4 (nI (sk tx len sp))))) (L' := [(0, .ref (ad w 40)), (1, .ref (ad w 38))]) (S' := []) rfl rfl rfl rfl ?_
  refine g_aload_n C 0 rfl rfl dX0_readNumber_5 ?_
  refine g_iconst C (v := (nI 0)) (by decide) dX0_readNumber_6 ?_
  refine g_putI C (j := 5) cls0 e_40 rfl (by decide) rfl rfl fl_X0_52 dX0_readNumber_7 ?_
  refine g_sgE (sg' := (us sg 40 (upd (upd (sg 40) 4 (nI (sk tx len sp))) 5 (nI 0)))) us_us ?_
  refine g_iconst C (v := (nI 0)) (by decide) dX0_readNumber_10 ?_
  refine g_istore_n C (L' := [(2, .int (nI 0)), (0, .ref (ad w 40)), (1, .ref (ad w 38))]) rfl (by decide) rfl dX0_readNumber_11 ?_
  have hp0 : (sk tx len sp) ≤ len := sk_le hsp
  have lp : ∀ (r k p v : Nat), k + r = 6 → p = (sk tx len sp) + k → p ≤ len → rdn tx len r p v = (rdn tx len 6 (sk tx len sp) 0) → G z w 3 (us sg 40 (upd (upd (sg 40) 4 (nI p)) 5 (nI v))) tu 12 [(2, .int (nI k)), (0, .ref (ad w 40)), (1, .ref (ad w 38))] [] := by
    intro r
    induction r with
    | zero =>
      intro k p v hk hp hpb hrd
      have hep : (rdn tx len 6 (sk tx len sp) 0).1 = p := (congrArg Prod.fst hrd).symm
      have hev : (rdn tx len 6 (sk tx len sp) 0).2 = v := (congrArg Prod.snd hrd).symm
      refine g_iload_n C 0 rfl rfl dX0_readNumber_12 ?_
      refine g_bipush C (v := (nI 6)) (by decide) dX0_readNumber_13 ?_
      refine g_icmpN_ge C k 6 (by omega) (by omega) (tgt := 71) (by decide) dX0_readNumber_15 (fun h15 => ?_) (fun h15 => absurd h15 (by omega))
      refine g_iload_n C 0 rfl rfl dX0_readNumber_71 ?_
      refine g_if_le C (tgt := 93) (by decide) dX0_readNumber_72 (fun h72 => absurd h72 (nI_ge (a := 0) (by omega) (by omega))) (fun h72 => ?_)
      refine g_aload_n C 2 rfl rfl dX0_readNumber_75 ?_
      refine g_aload_n C 1 rfl rfl dX0_readNumber_76 ?_
      refine g_getI C (j := 4) cls0 e_40 rfl (by decide) fl_X0_25 dX0_readNumber_77 ?_
      refine g_top (y := (nI p)) rfl ?_
      refine g_callV1 [] C (c_X2_at w tu (us sg 40 (upd (upd (sg 40) 4 (nI p)) 5 (nI v))) p tx len htl hl htx (by omega)) mt_X2_at e_38 rfl ml_X0_41 im_X2_at se_X2_at (by decide) rfl (Nat.le_of_ble_eq_true rfl) dX0_readNumber_80 ?_
      refine g_eq (L' := [(2, .int (nI k)), (0, .ref (ad w 40)), (1, .ref (ad w 38))]) (S' := [.int (atI tx len p)]) rfl rfl rfl rfl ?_
      refine g_callS1 [] C (c_X0_isFigure w tu (us sg 40 (upd (upd (sg 40) 4 (nI p)) 5 (nI v))) (atI tx len p) tx len p rfl (fun q => (htx p q).2)) mt_X0_isFigure ml_X0_55 st_X0_isFigure (by decide) rfl (Nat.le_of_ble_eq_true rfl) dX0_readNumber_83 ?_
      refine g_eq (L' := [(2, .int (nI k)), (0, .ref (ad w 40)), (1, .ref (ad w 38))]) (S' := [.int (bI (atP tx len 48 57 p))]) rfl rfl rfl rfl ?_
      refine g_bif_ne C (tgt := 93) (by decide) dX0_readNumber_86 (fun h86 => ?_) (fun h86 => ?_)
      ·
        refine g_iconst C (v := (nI 0)) (by decide) dX0_readNumber_93 ?_
        exact g_zret C E dX0_readNumber_94 (by decide +kernel) (bI_f (fun q => by have q1 := q.1; rw [hep] at q1; exact q1 h86)).symm (Sq.of (by rw [hep, hev])) rfl
      ·
        refine g_iconst C (v := (nI 1)) (by decide) dX0_readNumber_89 ?_
        refine g_goto C (tgt := 94) (by decide) dX0_readNumber_90 ?_
        exact g_zret C E dX0_readNumber_94 (by decide +kernel) (bI_t ⟨by rw [hep]; exact h86, by rw [hep]; exact (show (sk tx len sp) < p by omega)⟩).symm (Sq.of (by rw [hep, hev])) rfl
    | succ r ih =>
      intro k p v hk hp hpb hrd
      refine g_iload_n C 0 rfl rfl dX0_readNumber_12 ?_
      refine g_bipush C (v := (nI 6)) (by decide) dX0_readNumber_13 ?_
      refine g_icmpN_ge C k 6 (by omega) (by omega) (tgt := 71) (by decide) dX0_readNumber_15 (fun h15 => absurd h15 (by omega)) (fun h15 => ?_)
      refine g_aload_n C 2 rfl rfl dX0_readNumber_18 ?_
      refine g_aload_n C 1 rfl rfl dX0_readNumber_19 ?_
      refine g_getI C (j := 4) cls0 e_40 rfl (by decide) fl_X0_25 dX0_readNumber_20 ?_
      refine g_top (y := (nI p)) rfl ?_
      refine g_callV1 [] C (c_X2_at w tu (us sg 40 (upd (upd (sg 40) 4 (nI p)) 5 (nI v))) p tx len htl hl htx (by omega)) mt_X2_at e_38 rfl ml_X0_41 im_X2_at se_X2_at (by decide) rfl (Nat.le_of_ble_eq_true rfl) dX0_readNumber_23 ?_
      refine g_eq (L' := [(2, .int (nI k)), (0, .ref (ad w 40)), (1, .ref (ad w 38))]) (S' := [.int (atI tx len p)]) rfl rfl rfl rfl ?_
      refine g_callS1 [] C (c_X0_isFigure w tu (us sg 40 (upd (upd (sg 40) 4 (nI p)) 5 (nI v))) (atI tx len p) tx len p rfl (fun q => (htx p q).2)) mt_X0_isFigure ml_X0_55 st_X0_isFigure (by decide) rfl (Nat.le_of_ble_eq_true rfl) dX0_readNumber_26 ?_
      refine g_eq (L' := [(2, .int (nI k)), (0, .ref (ad w 40)), (1, .ref (ad w 38))]) (S' := [.int (bI (atP tx len 48 57 p))]) rfl rfl rfl rfl ?_
      refine g_bif_eq C (tgt := 71) (by decide) dX0_readNumber_29 (fun h29 => ?_) (fun h29 => ?_)
      ·
        have he : (p, v) = (rdn tx len 6 (sk tx len sp) 0) := by rw [← hrd]; exact (rdn_f h29).symm
        have hep : (rdn tx len 6 (sk tx len sp) 0).1 = p := (congrArg Prod.fst he).symm
        have hev : (rdn tx len 6 (sk tx len sp) 0).2 = v := (congrArg Prod.snd he).symm
        refine g_iload_n C 0 rfl rfl dX0_readNumber_71 ?_
        refine g_if_le C (tgt := 93) (by decide) dX0_readNumber_72 (fun h72 => ?_) (fun h72 => ?_)
        ·
          refine g_iconst C (v := (nI 0)) (by decide) dX0_readNumber_93 ?_
          exact g_zret C E dX0_readNumber_94 (by decide +kernel) (bI_f (fun q => by have q2 := q.2; rw [hep] at q2; have : k = 0 := Nat.eq_zero_of_not_pos (fun h9 => nI_ge (a := 0) h9 (by omega) h72); omega)).symm (Sq.of (by rw [hep, hev])) rfl
        ·
          refine g_aload_n C 2 rfl rfl dX0_readNumber_75 ?_
          refine g_aload_n C 1 rfl rfl dX0_readNumber_76 ?_
          refine g_getI C (j := 4) cls0 e_40 rfl (by decide) fl_X0_25 dX0_readNumber_77 ?_
          refine g_top (y := (nI p)) rfl ?_
          refine g_callV1 [] C (c_X2_at w tu (us sg 40 (upd (upd (sg 40) 4 (nI p)) 5 (nI v))) p tx len htl hl htx (by omega)) mt_X2_at e_38 rfl ml_X0_41 im_X2_at se_X2_at (by decide) rfl (Nat.le_of_ble_eq_true rfl) dX0_readNumber_80 ?_
          refine g_eq (L' := [(2, .int (nI k)), (0, .ref (ad w 40)), (1, .ref (ad w 38))]) (S' := [.int (atI tx len p)]) rfl rfl rfl rfl ?_
          refine g_callS1 [] C (c_X0_isFigure w tu (us sg 40 (upd (upd (sg 40) 4 (nI p)) 5 (nI v))) (atI tx len p) tx len p rfl (fun q => (htx p q).2)) mt_X0_isFigure ml_X0_55 st_X0_isFigure (by decide) rfl (Nat.le_of_ble_eq_true rfl) dX0_readNumber_83 ?_
          refine g_eq (L' := [(2, .int (nI k)), (0, .ref (ad w 40)), (1, .ref (ad w 38))]) (S' := [.int (bI (atP tx len 48 57 p))]) rfl rfl rfl rfl ?_
          refine g_bif_ne C (tgt := 93) (by decide) dX0_readNumber_86 (fun h86 => absurd h86 h29) (fun h86 => ?_)
          refine g_iconst C (v := (nI 1)) (by decide) dX0_readNumber_89 ?_
          refine g_goto C (tgt := 94) (by decide) dX0_readNumber_90 ?_
          exact g_zret C E dX0_readNumber_94 (by decide +kernel) (bI_t ⟨by rw [hep]; exact h86, by rw [hep]; exact (show (sk tx len sp) < p by have : 0 < k := Nat.pos_of_ne_zero (fun q => by rw [q] at h72; exact h72 (by decide)); omega)⟩).symm (Sq.of (by rw [hep, hev])) rfl
      ·
        refine g_aload_n C 1 rfl rfl dX0_readNumber_32 ?_
        refine g_aload_n C 1 rfl rfl dX0_readNumber_33 ?_
        refine g_getI C (j := 5) cls0 e_40 rfl (by decide) fl_X0_52 dX0_readNumber_34 ?_
        refine g_top (y := (nI v)) rfl ?_
        refine g_bipush C (v := (nI 10)) (by decide) dX0_readNumber_37 ?_
        refine g_imul C dX0_readNumber_39 ?_
        refine g_top (y := (nI (v * 10))) (pk_mul v 10) ?_
        refine g_aload_n C 2 rfl rfl dX0_readNumber_40 ?_
        refine g_aload_n C 1 rfl rfl dX0_readNumber_41 ?_
        refine g_getI C (j := 4) cls0 e_40 rfl (by decide) fl_X0_25 dX0_readNumber_42 ?_
        refine g_top (y := (nI p)) rfl ?_
        refine g_callV1 [.int (nI (v * 10)), .ref (ad w 40)] C (c_X2_at w tu (us sg 40 (upd (upd (sg 40) 4 (nI p)) 5 (nI v))) p tx len htl hl htx (by omega)) mt_X2_at e_38 rfl ml_X0_41 im_X2_at se_X2_at (by decide) rfl (Nat.le_of_ble_eq_true rfl) dX0_readNumber_45 ?_
        refine g_eq (L' := [(2, .int (nI k)), (0, .ref (ad w 40)), (1, .ref (ad w 38))]) (S' := [.int (atI tx len p), .int (nI (v * 10)), .ref (ad w 40)]) rfl rfl rfl rfl ?_
        refine g_top (y := (nI (tx p))) (if_pos h29.1) ?_
        refine g_iadd C dX0_readNumber_48 ?_
        refine g_top (y := (nI ((v * 10) + (tx p)))) (nI_add (v * 10) (tx p)) ?_
        refine g_bipush C (v := (nI 48)) (by decide) dX0_readNumber_49 ?_
        refine g_isub C dX0_readNumber_51 ?_
        refine g_top (y := nI (10 * v + tx p - 48)) (by rw [Nat.mul_comm v 10]; exact pk_sub (by have := h29.2.1; omega)) ?_
        refine g_putI C (j := 5) cls0 e_40 rfl (by decide) rfl rfl fl_X0_52 dX0_readNumber_52 ?_
        refine g_sgE (sg' := (us sg 40 (upd (upd (upd (sg 40) 4 (nI p)) 5 (nI v)) 5 (nI (10 * v + tx p - 48))))) us_us ?_
        refine g_aload_n C 1 rfl rfl dX0_readNumber_55 ?_
        refine g_dup C rfl dX0_readNumber_56 ?_
        refine g_getI C (j := 4) cls0 e_40 rfl (by decide) fl_X0_25 dX0_readNumber_57 ?_
        refine g_top (y := (nI p)) rfl ?_
        refine g_iconst C (v := (nI 1)) (by decide) dX0_readNumber_60 ?_
        refine g_iadd C dX0_readNumber_61 ?_
        refine g_top (y := (nI (p + 1))) (nI_add p 1) ?_
        refine g_putI C (j := 4) cls0 e_40 rfl (by decide) rfl rfl fl_X0_25 dX0_readNumber_62 ?_
        refine g_sgE (sg' := (us sg 40 (upd (upd (upd (upd (sg 40) 4 (nI p)) 5 (nI v)) 5 (nI (10 * v + tx p - 48))) 4 (nI (p + 1))))) us_us ?_
        refine g_iinc C (n := 1) (v := (nI (k + 1))) (L' := [(2, .int (nI (k + 1))), (0, .ref (ad w 40)), (1, .ref (ad w 38))]) 0 rfl (nI_add k 1) (by decide) rfl dX0_readNumber_65 ?_
        refine g_goto C (tgt := 12) (by decide) dX0_readNumber_68 ?_
        refine g_sub (L' := [(2, .int (nI (k + 1))), (0, .ref (ad w 40)), (1, .ref (ad w 38))]) [0, 1, 2] rfl ?_
        refine g_sgE (sg' := (us sg 40 (upd (upd (sg 40) 4 (nI (p + 1))) 5 (nI (10 * v + tx p - 48))))) (by rw [upd45]) ?_
        exact ih (k + 1) (p + 1) (10 * v + tx p - 48) (by omega) (by omega) h29.1 (by rw [← hrd, rdn_t h29])
  exact lp 6 0 (sk tx len sp) 0 rfl rfl hp0 rfl
