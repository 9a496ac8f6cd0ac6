theorem sk_sk {tx : Nat → Nat} {len p : Nat} (hp : p ≤ len) : sk tx len (sk tx len p) = sk tx len p := by
  have key : ∀ r q, q + r = len → sk tx len (sk tx len q) = sk tx len q := by
    intro r
    induction r with
    | zero =>
      intro q hq
      have h : sk tx len q = q := sk_f (fun h => absurd h.1 (by omega))
      rw [h, h]
    | succ r ih =>
      intro q hq
      by_cases h : atP tx len 32 32 q
      · rw [sk_t h]; exact ih (q + 1) (by omega)
      · rw [sk_f h, sk_f h]
  exact key (len - p) p (by omega)
/-- behind an order that stands -/
def otC (sg : Sg) (tx : Nat → Nat) (len q o : Nat) (s2 : Sg) : Prop := s2 40 4 = nI (odR tx len q).2.1 ∧ s2 41 = upd (sg 41) o (nI (tx q)) ∧ (∀ j, j ≠ o → s2 42 j = sg 42 j ∧ s2 43 j = sg 43 j) ∧ (¬ mnI (tx q) = nI 0 → s2 42 o = nI (odR tx len q).2.2.1) ∧ (mnI (tx q) = nI 2 → s2 43 o = nI (odR tx len q).2.2.2) ∧ ∀ k, k < 40 ∨ 43 < k → s2 k = sg k
def onC (sg : Sg) (tx : Nat → Nat) (len q : Nat) (s2 : Sg) : Prop := s2 40 4 = nI (if q < len then (odR tx len q).2.1 else len) ∧ ∀ k, k < 40 ∨ 43 < k → s2 k = sg k
def roC (sg : Sg) (tu : Int64) (tx : Nat → Nat) (len q o : Nat) (r : Option Value) (s2 : Sg) (t2 : Int64) : Prop := tu = t2 ∧ (((q < len ∧ (odR tx len q).1 = true) ∧ r = some (.int (nI 1)) ∧ otC sg tx len q o s2) ∨ (¬ (q < len ∧ (odR tx len q).1 = true) ∧ r = some (.int (nI 0)) ∧ onC sg tx len q s2))
theorem ne59 {tx : Nat → Nat} {len p : Nat} (h9 : p < len → tx p ≤ 127) (h : ¬ atP tx len 59 59 p) : ¬ atI tx len p = nI 59 := by
  unfold atI
  by_cases hp : p < len
  · rw [if_pos hp]
    intro q
    have h2 := h9 hp
    have h3 := (nI_eq (by omega) (by omega)).mp q
    exact h ⟨hp, by omega, by omega⟩
  · rw [if_neg hp]
    decide
set_option maxRecDepth 100000 in
set_option maxHeartbeats 1000000 in
theorem c_X0_readOrder (w : GW) (tu : Int64) (sg : Sg) (o : Nat) (tx : Nat → Nat) (len sp : Nat) (ho : o < 60) (htl : sg 38 1 = nI len) (hl : len ≤ 120) (htx : ∀ j, j < len → sg 39 j = nI (tx j) ∧ tx j ≤ 127) (hpl : sg 40 4 = nI sp) (hsp : sp ≤ len) : KtP w yX0_readOrder cX0_readOrder 5 (some .boolean) 4 [.ref (ad w 40), .ref (ad w 38), .int (nI o)] sg tu (roC sg tu tx len (sk tx len sp) o) := by
  refine KtP.of RX0 rfl [(0, .ref (ad w 40)), (1, .ref (ad w 38)), (2, .int (nI o))] (by decide) rfl (Nat.le_of_ble_eq_true rfl) (fun z C E => ?_)
  refine g_aload_n C 0 rfl rfl dX0_readOrder_0 ?_
  refine g_aload_n C 1 rfl rfl dX0_readOrder_1 ?_
  refine g_callV0 [] C (c_X0_skipBlanks w tu sg  tx len sp htl hl htx hpl hsp) mt_X0_skipBlanks e_40 rfl ml_X0_32 im_X0_skipBlanks se_X0_skipBlanks (by decide) rfl (Nat.le_of_ble_eq_true rfl) dX0_readOrder_2 ?_
  refine g_eq (sg' := (us sg 40 (upd (sg 40) 4 (nI (sk tx len sp))))) (L' := [(0, .ref (ad w 40)), (1, .ref (ad w 38)), (2, .int (nI o))]) (S' := []) rfl rfl rfl rfl ?_
  refine g_aload_n C 1 rfl rfl dX0_readOrder_5 ?_
  refine g_aload_n C 0 rfl rfl dX0_readOrder_6 ?_
  refine g_getI C (j := 4) cls0 e_40 rfl (by decide) fl_X0_25 dX0_readOrder_7 ?_
  refine g_top (y := (nI (sk tx len sp))) rfl ?_
  refine g_callV1 [] C (c_X2_at w tu (us sg 40 (upd (sg 40) 4 (nI (sk tx len sp)))) (sk tx len sp) tx len htl hl htx (sk_le hsp)) mt_X2_at e_38 rfl ml_X0_41 im_X2_at se_X2_at (by decide) rfl (Nat.le_of_ble_eq_true rfl) dX0_readOrder_10 ?_
  refine g_eq (L' := [(0, .ref (ad w 40)), (1, .ref (ad w 38)), (2, .int (nI o))]) (S' := [.int (atI tx len (sk tx len sp))]) rfl rfl rfl rfl ?_
  by_cases hq : (sk tx len sp) < len
  ·
    have hq9 := (htx (sk tx len sp) hq).2
    have hq0 : (sk tx len sp) + 1 ≤ len := hq
    refine g_top (y := (nI (tx (sk tx len sp)))) (if_pos hq) ?_
    refine g_istore_n C (L' := [(3, .int (nI (tx (sk tx len sp)))), (0, .ref (ad w 40)), (1, .ref (ad w 38)), (2, .int (nI o))]) rfl (by decide) rfl dX0_readOrder_13 ?_
    refine g_iload_n C 0 rfl rfl dX0_readOrder_14 ?_
    refine g_callS1 [] C (c_X0_numbersOf_c w tu (us sg 40 (upd (sg 40) 4 (nI (sk tx len sp)))) (tx (sk tx len sp)) hq9) mt_X0_numbersOf ml_X0_45 st_X0_numbersOf (by decide) rfl (Nat.le_of_ble_eq_true rfl) dX0_readOrder_15 ?_
    refine g_eq (L' := [(3, .int (nI (tx (sk tx len sp)))), (0, .ref (ad w 40)), (1, .ref (ad w 38)), (2, .int (nI o))]) (S' := [.int (mnI (tx (sk tx len sp)))]) rfl rfl rfl rfl ?_
    rcases mnI_4 (tx (sk tx len sp)) with hc | hc | hc | hc
    ·
      refine g_top (y := (-1)) hc ?_
      refine g_istore C (L' := [(4, .int (-1)), (3, .int (nI (tx (sk tx len sp)))), (0, .ref (ad w 40)), (1, .ref (ad w 38)), (2, .int (nI o))]) (by decide) rfl dX0_readOrder_18 ?_
      refine g_iload C 0 rfl dX0_readOrder_20 ?_
      refine g_iconst C (v := (-1)) (by decide) dX0_readOrder_22 ?_
      refine g_icmp_ne C (tgt := 28) (by decide) dX0_readOrder_23 (fun h23 => absurd rfl h23) (fun h23 => ?_)
      refine g_iconst C (v := (nI 0)) (by decide) dX0_readOrder_26 ?_
      exact g_zretP C E dX0_readOrder_27 (by decide +kernel) (by
                                                            have hod : odR tx len (sk tx len sp) = (false, (sk tx len sp), 0, 0) := by unfold odR; rw [if_pos hc]
                                                            exact ⟨rfl, Or.inr ⟨fun q => absurd q.2 (by rw [hod]; exact Bool.false_ne_true), rfl, by rw [if_pos hq, hod]; rfl, (fun k hk => by simp [us, show k ≠ 40 by omega, show k ≠ 41 by omega, show k ≠ 42 by omega, show k ≠ 43 by omega])⟩⟩)
    ·
      refine g_top (y := (nI 0)) hc ?_
      refine g_istore C (L' := [(4, .int (nI 0)), (3, .int (nI (tx (sk tx len sp)))), (0, .ref (ad w 40)), (1, .ref (ad w 38)), (2, .int (nI o))]) (by decide) rfl dX0_readOrder_18 ?_
      refine g_iload C 0 rfl dX0_readOrder_20 ?_
      refine g_iconst C (v := (-1)) (by decide) dX0_readOrder_22 ?_
      refine g_icmp_ne C (tgt := 28) (by decide) dX0_readOrder_23 (fun h23 => ?_) (fun h23 => absurd h23 (by decide))
      refine g_aload_n C 2 rfl rfl dX0_readOrder_28 ?_
      refine g_dup C rfl dX0_readOrder_29 ?_
      refine g_getI C (j := 4) cls0 e_40 rfl (by decide) fl_X0_25 dX0_readOrder_30 ?_
      refine g_top (y := (nI (sk tx len sp))) rfl ?_
      refine g_iconst C (v := (nI 1)) (by decide) dX0_readOrder_33 ?_
      refine g_iadd C dX0_readOrder_34 ?_
      refine g_top (y := (nI ((sk tx len sp) + 1))) (nI_add (sk tx len sp) 1) ?_
      refine g_putI C (j := 4) cls0 e_40 rfl (by decide) rfl rfl fl_X0_25 dX0_readOrder_35 ?_
      refine g_sgE (sg' := (us sg 40 (upd (upd (sg 40) 4 (nI (sk tx len sp))) 4 (nI ((sk tx len sp) + 1))))) us_us ?_
      refine g_aload_n C 2 rfl rfl dX0_readOrder_38 ?_
      refine g_getR C (j := 0) cls0 e_40 rfl (by decide) fl_X0_9 dX0_readOrder_39 ?_
      refine g_iload_n C 4 rfl rfl dX0_readOrder_42 ?_
      refine g_iload_n C 1 rfl rfl dX0_readOrder_43 ?_
      refine g_iastN C o e_41 (by omega) (by decide) dX0_readOrder_44 ?_
      refine g_sgE (sg' := (us (us sg 40 (upd (upd (sg 40) 4 (nI (sk tx len sp))) 4 (nI ((sk tx len sp) + 1)))) 41 (upd (sg 41) o (nI (tx (sk tx len sp)))))) rfl ?_
      refine g_iload C 0 rfl dX0_readOrder_45 ?_
      refine g_iconst C (v := (nI 1)) (by decide) dX0_readOrder_47 ?_
      refine g_icmpN_lt C 0 1 (by omega) (by omega) (tgt := 71) (by decide) dX0_readOrder_48 (fun h48 => ?_) (fun h48 => absurd h48 (by decide))
      refine g_iload C 0 rfl dX0_readOrder_71 ?_
      refine g_iconst C (v := (nI 2)) (by decide) dX0_readOrder_73 ?_
      refine g_icmpN_lt C 0 2 (by omega) (by omega) (tgt := 97) (by decide) dX0_readOrder_74 (fun h74 => ?_) (fun h74 => absurd h74 (by decide))
      refine g_aload_n C 2 rfl rfl dX0_readOrder_97 ?_
      refine g_aload_n C 3 rfl rfl dX0_readOrder_98 ?_
      refine g_callV0 [] C (c_X0_skipBlanks w tu (us (us sg 40 (upd (upd (sg 40) 4 (nI (sk tx len sp))) 4 (nI ((sk tx len sp) + 1)))) 41 (upd (sg 41) o (nI (tx (sk tx len sp)))))  tx len ((sk tx len sp) + 1) htl hl htx rfl hq0) mt_X0_skipBlanks e_40 rfl ml_X0_32 im_X0_skipBlanks se_X0_skipBlanks (by decide) rfl (Nat.le_of_ble_eq_true rfl) dX0_readOrder_99 ?_
      refine g_eq (sg' := (us (us (us sg 40 (upd (upd (sg 40) 4 (nI (sk tx len sp))) 4 (nI ((sk tx len sp) + 1)))) 41 (upd (sg 41) o (nI (tx (sk tx len sp))))) 40 (upd (upd (upd (sg 40) 4 (nI (sk tx len sp))) 4 (nI ((sk tx len sp) + 1))) 4 (nI (sk tx len ((sk tx len sp) + 1)))))) (L' := [(4, .int (nI 0)), (3, .int (nI (tx (sk tx len sp)))), (0, .ref (ad w 40)), (1, .ref (ad w 38)), (2, .int (nI o))]) (S' := []) rfl rfl rfl rfl ?_
      refine g_aload_n C 3 rfl rfl dX0_readOrder_102 ?_
      refine g_aload_n C 2 rfl rfl dX0_readOrder_103 ?_
      refine g_getI C (j := 4) cls0 e_40 rfl (by decide) fl_X0_25 dX0_readOrder_104 ?_
      refine g_top (y := (nI (sk tx len ((sk tx len sp) + 1)))) rfl ?_
      refine g_callV1 [] C (c_X2_at w tu (us (us (us sg 40 (upd (upd (sg 40) 4 (nI (sk tx len sp))) 4 (nI ((sk tx len sp) + 1)))) 41 (upd (sg 41) o (nI (tx (sk tx len sp))))) 40 (upd (upd (upd (sg 40) 4 (nI (sk tx len sp))) 4 (nI ((sk tx len sp) + 1))) 4 (nI (sk tx len ((sk tx len sp) + 1))))) (sk tx len ((sk tx len sp) + 1)) tx len htl hl htx (sk_le hq0)) mt_X2_at e_38 rfl ml_X0_41 im_X2_at se_X2_at (by decide) rfl (Nat.le_of_ble_eq_true rfl) dX0_readOrder_107 ?_
      refine g_eq (L' := [(4, .int (nI 0)), (3, .int (nI (tx (sk tx len sp)))), (0, .ref (ad w 40)), (1, .ref (ad w 38)), (2, .int (nI o))]) (S' := [.int (atI tx len (sk tx len ((sk tx len sp) + 1)))]) rfl rfl rfl rfl ?_
      by_cases hse : atP tx len 59 59 (sk tx len ((sk tx len sp) + 1))
      ·
        refine g_top (y := nI 59) ((if_pos hse.1).trans (congrArg nI (Nat.le_antisymm hse.2.2 hse.2.1))) ?_
        refine g_bipush C (v := (nI 59)) (by decide) dX0_readOrder_110 ?_
        refine g_icmpN_eq C 59 59 (by omega) (by omega) (tgt := 117) (by decide) dX0_readOrder_112 (fun h112 => ?_) (fun h112 => absurd h112 (by decide))
        refine g_aload_n C 2 rfl rfl dX0_readOrder_117 ?_
        refine g_dup C rfl dX0_readOrder_118 ?_
        refine g_getI C (j := 4) cls0 e_40 rfl (by decide) fl_X0_25 dX0_readOrder_119 ?_
        refine g_top (y := (nI (sk tx len ((sk tx len sp) + 1)))) rfl ?_
        refine g_iconst C (v := (nI 1)) (by decide) dX0_readOrder_122 ?_
        refine g_iadd C dX0_readOrder_123 ?_
        refine g_top (y := (nI ((sk tx len ((sk tx len sp) + 1)) + 1))) (nI_add (sk tx len ((sk tx len sp) + 1)) 1) ?_
        refine g_putI C (j := 4) cls0 e_40 rfl (by decide) rfl rfl fl_X0_25 dX0_readOrder_124 ?_
        refine g_sgE (sg' := (us (us (us sg 40 (upd (upd (sg 40) 4 (nI (sk tx len sp))) 4 (nI ((sk tx len sp) + 1)))) 41 (upd (sg 41) o (nI (tx (sk tx len sp))))) 40 (upd (upd (upd (upd (sg 40) 4 (nI (sk tx len sp))) 4 (nI ((sk tx len sp) + 1))) 4 (nI (sk tx len ((sk tx len sp) + 1)))) 4 (nI ((sk tx len ((sk tx len sp) + 1)) + 1))))) us_us ?_
        refine g_iconst C (v := (nI 1)) (by decide) dX0_readOrder_127 ?_
        exact g_zretP C E dX0_readOrder_128 (by decide +kernel) (by
                                                            have hod : odR tx len (sk tx len sp) = (true, sk tx len ((sk tx len sp) + 1) + 1, 0, 0) := by unfold odR; rw [if_neg (by rw [hc]; decide), if_pos hc]; unfold enR; rw [if_pos hse]
                                                            exact ⟨rfl, Or.inl ⟨⟨hq, by rw [hod]⟩, rfl, by rw [hod]; rfl, rfl, fun j hj => ⟨rfl, rfl⟩, fun q => absurd hc q, fun q => absurd (q.symm.trans hc) (by decide), (fun k hk => by simp [us, show k ≠ 40 by omega, show k ≠ 41 by omega, show k ≠ 42 by omega, show k ≠ 43 by omega])⟩⟩)
      ·
        refine g_bipush C (v := (nI 59)) (by decide) dX0_readOrder_110 ?_
        refine g_icmp_eq C (tgt := 117) (by decide) dX0_readOrder_112 (fun h112 => absurd h112 (ne59 (fun q => (htx _ q).2) hse)) (fun h112 => ?_)
        refine g_iconst C (v := (nI 0)) (by decide) dX0_readOrder_115 ?_
        exact g_zretP C E dX0_readOrder_116 (by decide +kernel) (by
                                                            have hod : odR tx len (sk tx len sp) = (false, sk tx len ((sk tx len sp) + 1), 0, 0) := by unfold odR; rw [if_neg (by rw [hc]; decide), if_pos hc]; unfold enR; rw [if_neg hse]
                                                            exact ⟨rfl, Or.inr ⟨fun q => absurd q.2 (by rw [hod]; exact Bool.false_ne_true), rfl, by rw [if_pos hq, hod]; rfl, (fun k hk => by simp [us, show k ≠ 40 by omega, show k ≠ 41 by omega, show k ≠ 42 by omega, show k ≠ 43 by omega])⟩⟩)
    ·
      refine g_top (y := (nI 1)) hc ?_
      refine g_istore C (L' := [(4, .int (nI 1)), (3, .int (nI (tx (sk tx len sp)))), (0, .ref (ad w 40)), (1, .ref (ad w 38)), (2, .int (nI o))]) (by decide) rfl dX0_readOrder_18 ?_
      refine g_iload C 0 rfl dX0_readOrder_20 ?_
      refine g_iconst C (v := (-1)) (by decide) dX0_readOrder_22 ?_
      refine g_icmp_ne C (tgt := 28) (by decide) dX0_readOrder_23 (fun h23 => ?_) (fun h23 => absurd h23 (by decide))
      refine g_aload_n C 2 rfl rfl dX0_readOrder_28 ?_
      refine g_dup C rfl dX0_readOrder_29 ?_
      refine g_getI C (j := 4) cls0 e_40 rfl (by decide) fl_X0_25 dX0_readOrder_30 ?_
      refine g_top (y := (nI (sk tx len sp))) rfl ?_
      refine g_iconst C (v := (nI 1)) (by decide) dX0_readOrder_33 ?_
      refine g_iadd C dX0_readOrder_34 ?_
      refine g_top (y := (nI ((sk tx len sp) + 1))) (nI_add (sk tx len sp) 1) ?_
      refine g_putI C (j := 4) cls0 e_40 rfl (by decide) rfl rfl fl_X0_25 dX0_readOrder_35 ?_
      refine g_sgE (sg' := (us sg 40 (upd (upd (sg 40) 4 (nI (sk tx len sp))) 4 (nI ((sk tx len sp) + 1))))) us_us ?_
      refine g_aload_n C 2 rfl rfl dX0_readOrder_38 ?_
      refine g_getR C (j := 0) cls0 e_40 rfl (by decide) fl_X0_9 dX0_readOrder_39 ?_
      refine g_iload_n C 4 rfl rfl dX0_readOrder_42 ?_
      refine g_iload_n C 1 rfl rfl dX0_readOrder_43 ?_
      refine g_iastN C o e_41 (by omega) (by decide) dX0_readOrder_44 ?_
      refine g_sgE (sg' := (us (us sg 40 (upd (upd (sg 40) 4 (nI (sk tx len sp))) 4 (nI ((sk tx len sp) + 1)))) 41 (upd (sg 41) o (nI (tx (sk tx len sp)))))) rfl ?_
      refine g_iload C 0 rfl dX0_readOrder_45 ?_
      refine g_iconst C (v := (nI 1)) (by decide) dX0_readOrder_47 ?_
      refine g_icmpN_lt C 1 1 (by omega) (by omega) (tgt := 71) (by decide) dX0_readOrder_48 (fun h48 => absurd h48 (by decide)) (fun h48 => ?_)
      refine g_aload_n C 2 rfl rfl dX0_readOrder_51 ?_
      refine g_aload_n C 3 rfl rfl dX0_readOrder_52 ?_
      refine g_callV1 [] C (c_X0_readNumber w tu (us (us sg 40 (upd (upd (sg 40) 4 (nI (sk tx len sp))) 4 (nI ((sk tx len sp) + 1)))) 41 (upd (sg 41) o (nI (tx (sk tx len sp)))))  tx len ((sk tx len sp) + 1) htl hl htx rfl hq0) mt_X0_readNumber e_40 rfl ml_X0_48 im_X0_readNumber se_X0_readNumber (by decide) rfl (Nat.le_of_ble_eq_true rfl) dX0_readOrder_53 ?_
      refine g_eq (sg' := (us (us (us sg 40 (upd (upd (sg 40) 4 (nI (sk tx len sp))) 4 (nI ((sk tx len sp) + 1)))) 41 (upd (sg 41) o (nI (tx (sk tx len sp))))) 40 (upd (upd (upd (upd (sg 40) 4 (nI (sk tx len sp))) 4 (nI ((sk tx len sp) + 1))) 4 (nI ((rdn tx len 6 (sk tx len ((sk tx len sp) + 1)) 0).1))) 5 (nI ((rdn tx len 6 (sk tx len ((sk tx len sp) + 1)) 0).2))))) (L' := [(4, .int (nI 1)), (3, .int (nI (tx (sk tx len sp)))), (0, .ref (ad w 40)), (1, .ref (ad w 38)), (2, .int (nI o))]) (S' := [.int (bI (nuOk tx len ((sk tx len sp) + 1)))]) rfl rfl rfl rfl ?_
      refine g_bif_ne C (tgt := 61) (by decide) dX0_readOrder_56 (fun h56 => ?_) (fun h56 => ?_)
      ·
        refine g_aload_n C 2 rfl rfl dX0_readOrder_61 ?_
        refine g_getR C (j := 1) cls0 e_40 rfl (by decide) fl_X0_15 dX0_readOrder_62 ?_
        refine g_iload_n C 4 rfl rfl dX0_readOrder_65 ?_
        refine g_aload_n C 2 rfl rfl dX0_readOrder_66 ?_
        refine g_getI C (j := 5) cls0 e_40 rfl (by decide) fl_X0_52 dX0_readOrder_67 ?_
        refine g_top (y := (nI ((rdn tx len 6 (sk tx len ((sk tx len sp) + 1)) 0).2))) rfl ?_
        refine g_iastN C o e_42 (by omega) (by decide) dX0_readOrder_70 ?_
        refine g_sgE (sg' := (us (us (us (us sg 40 (upd (upd (sg 40) 4 (nI (sk tx len sp))) 4 (nI ((sk tx len sp) + 1)))) 41 (upd (sg 41) o (nI (tx (sk tx len sp))))) 40 (upd (upd (upd (upd (sg 40) 4 (nI (sk tx len sp))) 4 (nI ((sk tx len sp) + 1))) 4 (nI ((rdn tx len 6 (sk tx len ((sk tx len sp) + 1)) 0).1))) 5 (nI ((rdn tx len 6 (sk tx len ((sk tx len sp) + 1)) 0).2)))) 42 (upd (sg 42) o (nI ((rdn tx len 6 (sk tx len ((sk tx len sp) + 1)) 0).2))))) rfl ?_
        refine g_iload C 0 rfl dX0_readOrder_71 ?_
        refine g_iconst C (v := (nI 2)) (by decide) dX0_readOrder_73 ?_
        refine g_icmpN_lt C 1 2 (by omega) (by omega) (tgt := 97) (by decide) dX0_readOrder_74 (fun h74 => ?_) (fun h74 => absurd h74 (by decide))
        refine g_aload_n C 2 rfl rfl dX0_readOrder_97 ?_
        refine g_aload_n C 3 rfl rfl dX0_readOrder_98 ?_
        refine g_callV0 [] C (c_X0_skipBlanks w tu (us (us (us (us sg 40 (upd (upd (sg 40) 4 (nI (sk tx len sp))) 4 (nI ((sk tx len sp) + 1)))) 41 (upd (sg 41) o (nI (tx (sk tx len sp))))) 40 (upd (upd (upd (upd (sg 40) 4 (nI (sk tx len sp))) 4 (nI ((sk tx len sp) + 1))) 4 (nI ((rdn tx len 6 (sk tx len ((sk tx len sp) + 1)) 0).1))) 5 (nI ((rdn tx len 6 (sk tx len ((sk tx len sp) + 1)) 0).2)))) 42 (upd (sg 42) o (nI ((rdn tx len 6 (sk tx len ((sk tx len sp) + 1)) 0).2))))  tx len ((nuP tx len ((sk tx len sp) + 1)).1) htl hl htx rfl (nuP_le hq0)) mt_X0_skipBlanks e_40 rfl ml_X0_32 im_X0_skipBlanks se_X0_skipBlanks (by decide) rfl (Nat.le_of_ble_eq_true rfl) dX0_readOrder_99 ?_
        refine g_eq (sg' := (us (us (us (us (us sg 40 (upd (upd (sg 40) 4 (nI (sk tx len sp))) 4 (nI ((sk tx len sp) + 1)))) 41 (upd (sg 41) o (nI (tx (sk tx len sp))))) 40 (upd (upd (upd (upd (sg 40) 4 (nI (sk tx len sp))) 4 (nI ((sk tx len sp) + 1))) 4 (nI ((rdn tx len 6 (sk tx len ((sk tx len sp) + 1)) 0).1))) 5 (nI ((rdn tx len 6 (sk tx len ((sk tx len sp) + 1)) 0).2)))) 42 (upd (sg 42) o (nI ((rdn tx len 6 (sk tx len ((sk tx len sp) + 1)) 0).2)))) 40 (upd (upd (upd (upd (upd (sg 40) 4 (nI (sk tx len sp))) 4 (nI ((sk tx len sp) + 1))) 4 (nI ((rdn tx len 6 (sk tx len ((sk tx len sp) + 1)) 0).1))) 5 (nI ((rdn tx len 6 (sk tx len ((sk tx len sp) + 1)) 0).2))) 4 (nI (sk tx len ((nuP tx len ((sk tx len sp) + 1)).1)))))) (L' := [(4, .int (nI 1)), (3, .int (nI (tx (sk tx len sp)))), (0, .ref (ad w 40)), (1, .ref (ad w 38)), (2, .int (nI o))]) (S' := []) rfl rfl rfl rfl ?_
        refine g_aload_n C 3 rfl rfl dX0_readOrder_102 ?_
        refine g_aload_n C 2 rfl rfl dX0_readOrder_103 ?_
        refine g_getI C (j := 4) cls0 e_40 rfl (by decide) fl_X0_25 dX0_readOrder_104 ?_
        refine g_top (y := (nI (sk tx len ((nuP tx len ((sk tx len sp) + 1)).1)))) rfl ?_
        refine g_callV1 [] C (c_X2_at w tu (us (us (us (us (us sg 40 (upd (upd (sg 40) 4 (nI (sk tx len sp))) 4 (nI ((sk tx len sp) + 1)))) 41 (upd (sg 41) o (nI (tx (sk tx len sp))))) 40 (upd (upd (upd (upd (sg 40) 4 (nI (sk tx len sp))) 4 (nI ((sk tx len sp) + 1))) 4 (nI ((rdn tx len 6 (sk tx len ((sk tx len sp) + 1)) 0).1))) 5 (nI ((rdn tx len 6 (sk tx len ((sk tx len sp) + 1)) 0).2)))) 42 (upd (sg 42) o (nI ((rdn tx len 6 (sk tx len ((sk tx len sp) + 1)) 0).2)))) 40 (upd (upd (upd (upd (upd (sg 40) 4 (nI (sk tx len sp))) 4 (nI ((sk tx len sp) + 1))) 4 (nI ((rdn tx len 6 (sk tx len ((sk tx len sp) + 1)) 0).1))) 5 (nI ((rdn tx len 6 (sk tx len ((sk tx len sp) + 1)) 0).2))) 4 (nI (sk tx len ((nuP tx len ((sk tx len sp) + 1)).1))))) (sk tx len ((nuP tx len ((sk tx len sp) + 1)).1)) tx len htl hl htx (sk_le (nuP_le hq0))) mt_X2_at e_38 rfl ml_X0_41 im_X2_at se_X2_at (by decide) rfl (Nat.le_of_ble_eq_true rfl) dX0_readOrder_107 ?_
        refine g_eq (L' := [(4, .int (nI 1)), (3, .int (nI (tx (sk tx len sp)))), (0, .ref (ad w 40)), (1, .ref (ad w 38)), (2, .int (nI o))]) (S' := [.int (atI tx len (sk tx len ((nuP tx len ((sk tx len sp) + 1)).1)))]) rfl rfl rfl rfl ?_
        by_cases hse : atP tx len 59 59 (sk tx len (nuP tx len ((sk tx len sp) + 1)).1)
        ·
          refine g_top (y := nI 59) ((if_pos hse.1).trans (congrArg nI (Nat.le_antisymm hse.2.2 hse.2.1))) ?_
          refine g_bipush C (v := (nI 59)) (by decide) dX0_readOrder_110 ?_
          refine g_icmpN_eq C 59 59 (by omega) (by omega) (tgt := 117) (by decide) dX0_readOrder_112 (fun h112 => ?_) (fun h112 => absurd h112 (by decide))
          refine g_aload_n C 2 rfl rfl dX0_readOrder_117 ?_
          refine g_dup C rfl dX0_readOrder_118 ?_
          refine g_getI C (j := 4) cls0 e_40 rfl (by decide) fl_X0_25 dX0_readOrder_119 ?_
          refine g_top (y := (nI (sk tx len ((nuP tx len ((sk tx len sp) + 1)).1)))) rfl ?_
          refine g_iconst C (v := (nI 1)) (by decide) dX0_readOrder_122 ?_
          refine g_iadd C dX0_readOrder_123 ?_
          refine g_top (y := (nI ((sk tx len ((nuP tx len ((sk tx len sp) + 1)).1)) + 1))) (nI_add (sk tx len ((nuP tx len ((sk tx len sp) + 1)).1)) 1) ?_
          refine g_putI C (j := 4) cls0 e_40 rfl (by decide) rfl rfl fl_X0_25 dX0_readOrder_124 ?_
          refine g_sgE (sg' := (us (us (us (us (us sg 40 (upd (upd (sg 40) 4 (nI (sk tx len sp))) 4 (nI ((sk tx len sp) + 1)))) 41 (upd (sg 41) o (nI (tx (sk tx len sp))))) 40 (upd (upd (upd (upd (sg 40) 4 (nI (sk tx len sp))) 4 (nI ((sk tx len sp) + 1))) 4 (nI ((rdn tx len 6 (sk tx len ((sk tx len sp) + 1)) 0).1))) 5 (nI ((rdn tx len 6 (sk tx len ((sk tx len sp) + 1)) 0).2)))) 42 (upd (sg 42) o (nI ((rdn tx len 6 (sk tx len ((sk tx len sp) + 1)) 0).2)))) 40 (upd (upd (upd (upd (upd (upd (sg 40) 4 (nI (sk tx len sp))) 4 (nI ((sk tx len sp) + 1))) 4 (nI ((rdn tx len 6 (sk tx len ((sk tx len sp) + 1)) 0).1))) 5 (nI ((rdn tx len 6 (sk tx len ((sk tx len sp) + 1)) 0).2))) 4 (nI (sk tx len ((nuP tx len ((sk tx len sp) + 1)).1)))) 4 (nI ((sk tx len ((nuP tx len ((sk tx len sp) + 1)).1)) + 1))))) us_us ?_
          refine g_iconst C (v := (nI 1)) (by decide) dX0_readOrder_127 ?_
          exact g_zretP C E dX0_readOrder_128 (by decide +kernel) (by
                                                            have hod : odR tx len (sk tx len sp) = (true, sk tx len (nuP tx len ((sk tx len sp) + 1)).1 + 1, (nuP tx len ((sk tx len sp) + 1)).2, 0) := by unfold odR; rw [if_neg (by rw [hc]; decide), if_neg (by rw [hc]; decide), if_pos h56, if_pos hc]; unfold enR; rw [if_pos hse]
                                                            exact ⟨rfl, Or.inl ⟨⟨hq, by rw [hod]⟩, rfl, by rw [hod]; rfl, rfl, fun j hj => ⟨by show upd (sg 42) o _ j = _; rw [upd_ne hj], rfl⟩, fun _ => by rw [hod]; show upd (sg 42) o _ o = _; rw [upd_same], fun q => absurd (q.symm.trans hc) (by decide), (fun k hk => by simp [us, show k ≠ 40 by omega, show k ≠ 41 by omega, show k ≠ 42 by omega, show k ≠ 43 by omega])⟩⟩)
        ·
          refine g_bipush C (v := (nI 59)) (by decide) dX0_readOrder_110 ?_
          refine g_icmp_eq C (tgt := 117) (by decide) dX0_readOrder_112 (fun h112 => absurd h112 (ne59 (fun q => (htx _ q).2) hse)) (fun h112 => ?_)
          refine g_iconst C (v := (nI 0)) (by decide) dX0_readOrder_115 ?_
          exact g_zretP C E dX0_readOrder_116 (by decide +kernel) (by
                                                            have hod : odR tx len (sk tx len sp) = (false, sk tx len (nuP tx len ((sk tx len sp) + 1)).1, 0, 0) := by unfold odR; rw [if_neg (by rw [hc]; decide), if_neg (by rw [hc]; decide), if_pos h56, if_pos hc]; unfold enR; rw [if_neg hse]
                                                            exact ⟨rfl, Or.inr ⟨fun q => absurd q.2 (by rw [hod]; exact Bool.false_ne_true), rfl, by rw [if_pos hq, hod]; rfl, (fun k hk => by simp [us, show k ≠ 40 by omega, show k ≠ 41 by omega, show k ≠ 42 by omega, show k ≠ 43 by omega])⟩⟩)
      ·
        refine g_iconst C (v := (nI 0)) (by decide) dX0_readOrder_59 ?_
        exact g_zretP C E dX0_readOrder_60 (by decide +kernel) (by
                                                            have hod : odR tx len (sk tx len sp) = (false, (nuP tx len ((sk tx len sp) + 1)).1, 0, 0) := by unfold odR; rw [if_neg (by rw [hc]; decide), if_neg (by rw [hc]; decide), if_neg h56]
                                                            exact ⟨rfl, Or.inr ⟨fun q => absurd q.2 (by rw [hod]; exact Bool.false_ne_true), rfl, by rw [if_pos hq, hod]; rfl, (fun k hk => by simp [us, show k ≠ 40 by omega, show k ≠ 41 by omega, show k ≠ 42 by omega, show k ≠ 43 by omega])⟩⟩)
    ·
      refine g_top (y := (nI 2)) hc ?_
      refine g_istore C (L' := [(4, .int (nI 2)), (3, .int (nI (tx (sk tx len sp)))), (0, .ref (ad w 40)), (1, .ref (ad w 38)), (2, .int (nI o))]) (by decide) rfl dX0_readOrder_18 ?_
      refine g_iload C 0 rfl dX0_readOrder_20 ?_
      refine g_iconst C (v := (-1)) (by decide) dX0_readOrder_22 ?_
      refine g_icmp_ne C (tgt := 28) (by decide) dX0_readOrder_23 (fun h23 => ?_) (fun h23 => absurd h23 (by decide))
      refine g_aload_n C 2 rfl rfl dX0_readOrder_28 ?_
      refine g_dup C rfl dX0_readOrder_29 ?_
      refine g_getI C (j := 4) cls0 e_40 rfl (by decide) fl_X0_25 dX0_readOrder_30 ?_
      refine g_top (y := (nI (sk tx len sp))) rfl ?_
      refine g_iconst C (v := (nI 1)) (by decide) dX0_readOrder_33 ?_
      refine g_iadd C dX0_readOrder_34 ?_
      refine g_top (y := (nI ((sk tx len sp) + 1))) (nI_add (sk tx len sp) 1) ?_
      refine g_putI C (j := 4) cls0 e_40 rfl (by decide) rfl rfl fl_X0_25 dX0_readOrder_35 ?_
      refine g_sgE (sg' := (us sg 40 (upd (upd (sg 40) 4 (nI (sk tx len sp))) 4 (nI ((sk tx len sp) + 1))))) us_us ?_
      refine g_aload_n C 2 rfl rfl dX0_readOrder_38 ?_
      refine g_getR C (j := 0) cls0 e_40 rfl (by decide) fl_X0_9 dX0_readOrder_39 ?_
      refine g_iload_n C 4 rfl rfl dX0_readOrder_42 ?_
      refine g_iload_n C 1 rfl rfl dX0_readOrder_43 ?_
      refine g_iastN C o e_41 (by omega) (by decide) dX0_readOrder_44 ?_
      refine g_sgE (sg' := (us (us sg 40 (upd (upd (sg 40) 4 (nI (sk tx len sp))) 4 (nI ((sk tx len sp) + 1)))) 41 (upd (sg 41) o (nI (tx (sk tx len sp)))))) rfl ?_
      refine g_iload C 0 rfl dX0_readOrder_45 ?_
      refine g_iconst C (v := (nI 1)) (by decide) dX0_readOrder_47 ?_
      refine g_icmpN_lt C 2 1 (by omega) (by omega) (tgt := 71) (by decide) dX0_readOrder_48 (fun h48 => absurd h48 (by decide)) (fun h48 => ?_)
      refine g_aload_n C 2 rfl rfl dX0_readOrder_51 ?_
      refine g_aload_n C 3 rfl rfl dX0_readOrder_52 ?_
      refine g_callV1 [] C (c_X0_readNumber w tu (us (us sg 40 (upd (upd (sg 40) 4 (nI (sk tx len sp))) 4 (nI ((sk tx len sp) + 1)))) 41 (upd (sg 41) o (nI (tx (sk tx len sp)))))  tx len ((sk tx len sp) + 1) htl hl htx rfl hq0) mt_X0_readNumber e_40 rfl ml_X0_48 im_X0_readNumber se_X0_readNumber (by decide) rfl (Nat.le_of_ble_eq_true rfl) dX0_readOrder_53 ?_
      refine g_eq (sg' := (us (us (us sg 40 (upd (upd (sg 40) 4 (nI (sk tx len sp))) 4 (nI ((sk tx len sp) + 1)))) 41 (upd (sg 41) o (nI (tx (sk tx len sp))))) 40 (upd (upd (upd (upd (sg 40) 4 (nI (sk tx len sp))) 4 (nI ((sk tx len sp) + 1))) 4 (nI ((rdn tx len 6 (sk tx len ((sk tx len sp) + 1)) 0).1))) 5 (nI ((rdn tx len 6 (sk tx len ((sk tx len sp) + 1)) 0).2))))) (L' := [(4, .int (nI 2)), (3, .int (nI (tx (sk tx len sp)))), (0, .ref (ad w 40)), (1, .ref (ad w 38)), (2, .int (nI o))]) (S' := [.int (bI (nuOk tx len ((sk tx len sp) + 1)))]) rfl rfl rfl rfl ?_
      refine g_bif_ne C (tgt := 61) (by decide) dX0_readOrder_56 (fun h56 => ?_) (fun h56 => ?_)
      ·
        refine g_aload_n C 2 rfl rfl dX0_readOrder_61 ?_
        refine g_getR C (j := 1) cls0 e_40 rfl (by decide) fl_X0_15 dX0_readOrder_62 ?_
        refine g_iload_n C 4 rfl rfl dX0_readOrder_65 ?_
        refine g_aload_n C 2 rfl rfl dX0_readOrder_66 ?_
        refine g_getI C (j := 5) cls0 e_40 rfl (by decide) fl_X0_52 dX0_readOrder_67 ?_
        refine g_top (y := (nI ((rdn tx len 6 (sk tx len ((sk tx len sp) + 1)) 0).2))) rfl ?_
        refine g_iastN C o e_42 (by omega) (by decide) dX0_readOrder_70 ?_
        refine g_sgE (sg' := (us (us (us (us sg 40 (upd (upd (sg 40) 4 (nI (sk tx len sp))) 4 (nI ((sk tx len sp) + 1)))) 41 (upd (sg 41) o (nI (tx (sk tx len sp))))) 40 (upd (upd (upd (upd (sg 40) 4 (nI (sk tx len sp))) 4 (nI ((sk tx len sp) + 1))) 4 (nI ((rdn tx len 6 (sk tx len ((sk tx len sp) + 1)) 0).1))) 5 (nI ((rdn tx len 6 (sk tx len ((sk tx len sp) + 1)) 0).2)))) 42 (upd (sg 42) o (nI ((rdn tx len 6 (sk tx len ((sk tx len sp) + 1)) 0).2))))) rfl ?_
        refine g_iload C 0 rfl dX0_readOrder_71 ?_
        refine g_iconst C (v := (nI 2)) (by decide) dX0_readOrder_73 ?_
        refine g_icmpN_lt C 2 2 (by omega) (by omega) (tgt := 97) (by decide) dX0_readOrder_74 (fun h74 => absurd h74 (by decide)) (fun h74 => ?_)
        refine g_aload_n C 2 rfl rfl dX0_readOrder_77 ?_
        refine g_aload_n C 3 rfl rfl dX0_readOrder_78 ?_
        refine g_callV1 [] C (c_X0_readNumber w tu (us (us (us (us sg 40 (upd (upd (sg 40) 4 (nI (sk tx len sp))) 4 (nI ((sk tx len sp) + 1)))) 41 (upd (sg 41) o (nI (tx (sk tx len sp))))) 40 (upd (upd (upd (upd (sg 40) 4 (nI (sk tx len sp))) 4 (nI ((sk tx len sp) + 1))) 4 (nI ((rdn tx len 6 (sk tx len ((sk tx len sp) + 1)) 0).1))) 5 (nI ((rdn tx len 6 (sk tx len ((sk tx len sp) + 1)) 0).2)))) 42 (upd (sg 42) o (nI ((rdn tx len 6 (sk tx len ((sk tx len sp) + 1)) 0).2))))  tx len ((nuP tx len ((sk tx len sp) + 1)).1) htl hl htx rfl (nuP_le hq0)) mt_X0_readNumber e_40 rfl ml_X0_48 im_X0_readNumber se_X0_readNumber (by decide) rfl (Nat.le_of_ble_eq_true rfl) dX0_readOrder_79 ?_
        refine g_eq (sg' := (us (us (us (us (us sg 40 (upd (upd (sg 40) 4 (nI (sk tx len sp))) 4 (nI ((sk tx len sp) + 1)))) 41 (upd (sg 41) o (nI (tx (sk tx len sp))))) 40 (upd (upd (upd (upd (sg 40) 4 (nI (sk tx len sp))) 4 (nI ((sk tx len sp) + 1))) 4 (nI ((rdn tx len 6 (sk tx len ((sk tx len sp) + 1)) 0).1))) 5 (nI ((rdn tx len 6 (sk tx len ((sk tx len sp) + 1)) 0).2)))) 42 (upd (sg 42) o (nI ((rdn tx len 6 (sk tx len ((sk tx len sp) + 1)) 0).2)))) 40 (upd (upd (upd (upd (upd (upd (sg 40) 4 (nI (sk tx len sp))) 4 (nI ((sk tx len sp) + 1))) 4 (nI ((rdn tx len 6 (sk tx len ((sk tx len sp) + 1)) 0).1))) 5 (nI ((rdn tx len 6 (sk tx len ((sk tx len sp) + 1)) 0).2))) 4 (nI ((rdn tx len 6 (sk tx len ((nuP tx len ((sk tx len sp) + 1)).1)) 0).1))) 5 (nI ((rdn tx len 6 (sk tx len ((nuP tx len ((sk tx len sp) + 1)).1)) 0).2))))) (L' := [(4, .int (nI 2)), (3, .int (nI (tx (sk tx len sp)))), (0, .ref (ad w 40)), (1, .ref (ad w 38)), (2, .int (nI o))]) (S' := [.int (bI (nuOk tx len ((nuP tx len ((sk tx len sp) + 1)).1)))]) rfl rfl rfl rfl ?_
        refine g_bif_ne C (tgt := 87) (by decide) dX0_readOrder_82 (fun h82 => ?_) (fun h82 => ?_)
        ·
          refine g_aload_n C 2 rfl rfl dX0_readOrder_87 ?_
          refine g_getR C (j := 2) cls0 e_40 rfl (by decide) fl_X0_18 dX0_readOrder_88 ?_
          refine g_iload_n C 4 rfl rfl dX0_readOrder_91 ?_
          refine g_aload_n C 2 rfl rfl dX0_readOrder_92 ?_
          refine g_getI C (j := 5) cls0 e_40 rfl (by decide) fl_X0_52 dX0_readOrder_93 ?_
          refine g_top (y := (nI ((rdn tx len 6 (sk tx len ((nuP tx len ((sk tx len sp) + 1)).1)) 0).2))) rfl ?_
          refine g_iastN C o e_43 (by omega) (by decide) dX0_readOrder_96 ?_
          refine g_sgE (sg' := (us (us (us (us (us (us sg 40 (upd (upd (sg 40) 4 (nI (sk tx len sp))) 4 (nI ((sk tx len sp) + 1)))) 41 (upd (sg 41) o (nI (tx (sk tx len sp))))) 40 (upd (upd (upd (upd (sg 40) 4 (nI (sk tx len sp))) 4 (nI ((sk tx len sp) + 1))) 4 (nI ((rdn tx len 6 (sk tx len ((sk tx len sp) + 1)) 0).1))) 5 (nI ((rdn tx len 6 (sk tx len ((sk tx len sp) + 1)) 0).2)))) 42 (upd (sg 42) o (nI ((rdn tx len 6 (sk tx len ((sk tx len sp) + 1)) 0).2)))) 40 (upd (upd (upd (upd (upd (upd (sg 40) 4 (nI (sk tx len sp))) 4 (nI ((sk tx len sp) + 1))) 4 (nI ((rdn tx len 6 (sk tx len ((sk tx len sp) + 1)) 0).1))) 5 (nI ((rdn tx len 6 (sk tx len ((sk tx len sp) + 1)) 0).2))) 4 (nI ((rdn tx len 6 (sk tx len ((nuP tx len ((sk tx len sp) + 1)).1)) 0).1))) 5 (nI ((rdn tx len 6 (sk tx len ((nuP tx len ((sk tx len sp) + 1)).1)) 0).2)))) 43 (upd (sg 43) o (nI ((rdn tx len 6 (sk tx len ((nuP tx len ((sk tx len sp) + 1)).1)) 0).2))))) rfl ?_
          refine g_aload_n C 2 rfl rfl dX0_readOrder_97 ?_
          refine g_aload_n C 3 rfl rfl dX0_readOrder_98 ?_
          refine g_callV0 [] C (c_X0_skipBlanks w tu (us (us (us (us (us (us sg 40 (upd (upd (sg 40) 4 (nI (sk tx len sp))) 4 (nI ((sk tx len sp) + 1)))) 41 (upd (sg 41) o (nI (tx (sk tx len sp))))) 40 (upd (upd (upd (upd (sg 40) 4 (nI (sk tx len sp))) 4 (nI ((sk tx len sp) + 1))) 4 (nI ((rdn tx len 6 (sk tx len ((sk tx len sp) + 1)) 0).1))) 5 (nI ((rdn tx len 6 (sk tx len ((sk tx len sp) + 1)) 0).2)))) 42 (upd (sg 42) o (nI ((rdn tx len 6 (sk tx len ((sk tx len sp) + 1)) 0).2)))) 40 (upd (upd (upd (upd (upd (upd (sg 40) 4 (nI (sk tx len sp))) 4 (nI ((sk tx len sp) + 1))) 4 (nI ((rdn tx len 6 (sk tx len ((sk tx len sp) + 1)) 0).1))) 5 (nI ((rdn tx len 6 (sk tx len ((sk tx len sp) + 1)) 0).2))) 4 (nI ((rdn tx len 6 (sk tx len ((nuP tx len ((sk tx len sp) + 1)).1)) 0).1))) 5 (nI ((rdn tx len 6 (sk tx len ((nuP tx len ((sk tx len sp) + 1)).1)) 0).2)))) 43 (upd (sg 43) o (nI ((rdn tx len 6 (sk tx len ((nuP tx len ((sk tx len sp) + 1)).1)) 0).2))))  tx len ((nuP tx len (nuP tx len ((sk tx len sp) + 1)).1).1) htl hl htx rfl (nuP_le (nuP_le hq0))) mt_X0_skipBlanks e_40 rfl ml_X0_32 im_X0_skipBlanks se_X0_skipBlanks (by decide) rfl (Nat.le_of_ble_eq_true rfl) dX0_readOrder_99 ?_
          refine g_eq (sg' := (us (us (us (us (us (us (us sg 40 (upd (upd (sg 40) 4 (nI (sk tx len sp))) 4 (nI ((sk tx len sp) + 1)))) 41 (upd (sg 41) o (nI (tx (sk tx len sp))))) 40 (upd (upd (upd (upd (sg 40) 4 (nI (sk tx len sp))) 4 (nI ((sk tx len sp) + 1))) 4 (nI ((rdn tx len 6 (sk tx len ((sk tx len sp) + 1)) 0).1))) 5 (nI ((rdn tx len 6 (sk tx len ((sk tx len sp) + 1)) 0).2)))) 42 (upd (sg 42) o (nI ((rdn tx len 6 (sk tx len ((sk tx len sp) + 1)) 0).2)))) 40 (upd (upd (upd (upd (upd (upd (sg 40) 4 (nI (sk tx len sp))) 4 (nI ((sk tx len sp) + 1))) 4 (nI ((rdn tx len 6 (sk tx len ((sk tx len sp) + 1)) 0).1))) 5 (nI ((rdn tx len 6 (sk tx len ((sk tx len sp) + 1)) 0).2))) 4 (nI ((rdn tx len 6 (sk tx len ((nuP tx len ((sk tx len sp) + 1)).1)) 0).1))) 5 (nI ((rdn tx len 6 (sk tx len ((nuP tx len ((sk tx len sp) + 1)).1)) 0).2)))) 43 (upd (sg 43) o (nI ((rdn tx len 6 (sk tx len ((nuP tx len ((sk tx len sp) + 1)).1)) 0).2)))) 40 (upd (upd (upd (upd (upd (upd (upd (sg 40) 4 (nI (sk tx len sp))) 4 (nI ((sk tx len sp) + 1))) 4 (nI ((rdn tx len 6 (sk tx len ((sk tx len sp) + 1)) 0).1))) 5 (nI ((rdn tx len 6 (sk tx len ((sk tx len sp) + 1)) 0).2))) 4 (nI ((rdn tx len 6 (sk tx len ((nuP tx len ((sk tx len sp) + 1)).1)) 0).1))) 5 (nI ((rdn tx len 6 (sk tx len ((nuP tx len ((sk tx len sp) + 1)).1)) 0).2))) 4 (nI (sk tx len ((nuP tx len (nuP tx len ((sk tx len sp) + 1)).1).1)))))) (L' := [(4, .int (nI 2)), (3, .int (nI (tx (sk tx len sp)))), (0, .ref (ad w 40)), (1, .ref (ad w 38)), (2, .int (nI o))]) (S' := []) rfl rfl rfl rfl ?_
          refine g_aload_n C 3 rfl rfl dX0_readOrder_102 ?_
          refine g_aload_n C 2 rfl rfl dX0_readOrder_103 ?_
          refine g_getI C (j := 4) cls0 e_40 rfl (by decide) fl_X0_25 dX0_readOrder_104 ?_
          refine g_top (y := (nI (sk tx len ((nuP tx len (nuP tx len ((sk tx len sp) + 1)).1).1)))) rfl ?_
          refine g_callV1 [] C (c_X2_at w tu (us (us (us (us (us (us (us sg 40 (upd (upd (sg 40) 4 (nI (sk tx len sp))) 4 (nI ((sk tx len sp) + 1)))) 41 (upd (sg 41) o (nI (tx (sk tx len sp))))) 40 (upd (upd (upd (upd (sg 40) 4 (nI (sk tx len sp))) 4 (nI ((sk tx len sp) + 1))) 4 (nI ((rdn tx len 6 (sk tx len ((sk tx len sp) + 1)) 0).1))) 5 (nI ((rdn tx len 6 (sk tx len ((sk tx len sp) + 1)) 0).2)))) 42 (upd (sg 42) o (nI ((rdn tx len 6 (sk tx len ((sk tx len sp) + 1)) 0).2)))) 40 (upd (upd (upd (upd (upd (upd (sg 40) 4 (nI (sk tx len sp))) 4 (nI ((sk tx len sp) + 1))) 4 (nI ((rdn tx len 6 (sk tx len ((sk tx len sp) + 1)) 0).1))) 5 (nI ((rdn tx len 6 (sk tx len ((sk tx len sp) + 1)) 0).2))) 4 (nI ((rdn tx len 6 (sk tx len ((nuP tx len ((sk tx len sp) + 1)).1)) 0).1))) 5 (nI ((rdn tx len 6 (sk tx len ((nuP tx len ((sk tx len sp) + 1)).1)) 0).2)))) 43 (upd (sg 43) o (nI ((rdn tx len 6 (sk tx len ((nuP tx len ((sk tx len sp) + 1)).1)) 0).2)))) 40 (upd (upd (upd (upd (upd (upd (upd (sg 40) 4 (nI (sk tx len sp))) 4 (nI ((sk tx len sp) + 1))) 4 (nI ((rdn tx len 6 (sk tx len ((sk tx len sp) + 1)) 0).1))) 5 (nI ((rdn tx len 6 (sk tx len ((sk tx len sp) + 1)) 0).2))) 4 (nI ((rdn tx len 6 (sk tx len ((nuP tx len ((sk tx len sp) + 1)).1)) 0).1))) 5 (nI ((rdn tx len 6 (sk tx len ((nuP tx len ((sk tx len sp) + 1)).1)) 0).2))) 4 (nI (sk tx len ((nuP tx len (nuP tx len ((sk tx len sp) + 1)).1).1))))) (sk tx len ((nuP tx len (nuP tx len ((sk tx len sp) + 1)).1).1)) tx len htl hl htx (sk_le (nuP_le (nuP_le hq0)))) mt_X2_at e_38 rfl ml_X0_41 im_X2_at se_X2_at (by decide) rfl (Nat.le_of_ble_eq_true rfl) dX0_readOrder_107 ?_
          refine g_eq (L' := [(4, .int (nI 2)), (3, .int (nI (tx (sk tx len sp)))), (0, .ref (ad w 40)), (1, .ref (ad w 38)), (2, .int (nI o))]) (S' := [.int (atI tx len (sk tx len ((nuP tx len (nuP tx len ((sk tx len sp) + 1)).1).1)))]) rfl rfl rfl rfl ?_
          by_cases hse : atP tx len 59 59 (sk tx len (nuP tx len (nuP tx len ((sk tx len sp) + 1)).1).1)
          ·
            refine g_top (y := nI 59) ((if_pos hse.1).trans (congrArg nI (Nat.le_antisymm hse.2.2 hse.2.1))) ?_
            refine g_bipush C (v := (nI 59)) (by decide) dX0_readOrder_110 ?_
            refine g_icmpN_eq C 59 59 (by omega) (by omega) (tgt := 117) (by decide) dX0_readOrder_112 (fun h112 => ?_) (fun h112 => absurd h112 (by decide))
            refine g_aload_n C 2 rfl rfl dX0_readOrder_117 ?_
            refine g_dup C rfl dX0_readOrder_118 ?_
            refine g_getI C (j := 4) cls0 e_40 rfl (by decide) fl_X0_25 dX0_readOrder_119 ?_
            refine g_top (y := (nI (sk tx len ((nuP tx len (nuP tx len ((sk tx len sp) + 1)).1).1)))) rfl ?_
            refine g_iconst C (v := (nI 1)) (by decide) dX0_readOrder_122 ?_
            refine g_iadd C dX0_readOrder_123 ?_
            refine g_top (y := (nI ((sk tx len ((nuP tx len (nuP tx len ((sk tx len sp) + 1)).1).1)) + 1))) (nI_add (sk tx len ((nuP tx len (nuP tx len ((sk tx len sp) + 1)).1).1)) 1) ?_
            refine g_putI C (j := 4) cls0 e_40 rfl (by decide) rfl rfl fl_X0_25 dX0_readOrder_124 ?_
            refine g_sgE (sg' := (us (us (us (us (us (us (us sg 40 (upd (upd (sg 40) 4 (nI (sk tx len sp))) 4 (nI ((sk tx len sp) + 1)))) 41 (upd (sg 41) o (nI (tx (sk tx len sp))))) 40 (upd (upd (upd (upd (sg 40) 4 (nI (sk tx len sp))) 4 (nI ((sk tx len sp) + 1))) 4 (nI ((rdn tx len 6 (sk tx len ((sk tx len sp) + 1)) 0).1))) 5 (nI ((rdn tx len 6 (sk tx len ((sk tx len sp) + 1)) 0).2)))) 42 (upd (sg 42) o (nI ((rdn tx len 6 (sk tx len ((sk tx len sp) + 1)) 0).2)))) 40 (upd (upd (upd (upd (upd (upd (sg 40) 4 (nI (sk tx len sp))) 4 (nI ((sk tx len sp) + 1))) 4 (nI ((rdn tx len 6 (sk tx len ((sk tx len sp) + 1)) 0).1))) 5 (nI ((rdn tx len 6 (sk tx len ((sk tx len sp) + 1)) 0).2))) 4 (nI ((rdn tx len 6 (sk tx len ((nuP tx len ((sk tx len sp) + 1)).1)) 0).1))) 5 (nI ((rdn tx len 6 (sk tx len ((nuP tx len ((sk tx len sp) + 1)).1)) 0).2)))) 43 (upd (sg 43) o (nI ((rdn tx len 6 (sk tx len ((nuP tx len ((sk tx len sp) + 1)).1)) 0).2)))) 40 (upd (upd (upd (upd (upd (upd (upd (upd (sg 40) 4 (nI (sk tx len sp))) 4 (nI ((sk tx len sp) + 1))) 4 (nI ((rdn tx len 6 (sk tx len ((sk tx len sp) + 1)) 0).1))) 5 (nI ((rdn tx len 6 (sk tx len ((sk tx len sp) + 1)) 0).2))) 4 (nI ((rdn tx len 6 (sk tx len ((nuP tx len ((sk tx len sp) + 1)).1)) 0).1))) 5 (nI ((rdn tx len 6 (sk tx len ((nuP tx len ((sk tx len sp) + 1)).1)) 0).2))) 4 (nI (sk tx len ((nuP tx len (nuP tx len ((sk tx len sp) + 1)).1).1)))) 4 (nI ((sk tx len ((nuP tx len (nuP tx len ((sk tx len sp) + 1)).1).1)) + 1))))) us_us ?_
            refine g_iconst C (v := (nI 1)) (by decide) dX0_readOrder_127 ?_
            exact g_zretP C E dX0_readOrder_128 (by decide +kernel) (by
                                                            have hod : odR tx len (sk tx len sp) = (true, sk tx len (nuP tx len (nuP tx len ((sk tx len sp) + 1)).1).1 + 1, (nuP tx len ((sk tx len sp) + 1)).2, (nuP tx len (nuP tx len ((sk tx len sp) + 1)).1).2) := by unfold odR; rw [if_neg (by rw [hc]; decide), if_neg (by rw [hc]; decide), if_pos h56, if_neg (by rw [hc]; decide), if_pos h82]; unfold enR; rw [if_pos hse]
                                                            exact ⟨rfl, Or.inl ⟨⟨hq, by rw [hod]⟩, rfl, by rw [hod]; rfl, rfl, fun j hj => ⟨by show upd (sg 42) o _ j = _; rw [upd_ne hj], by show upd (sg 43) o _ j = _; rw [upd_ne hj]⟩, fun _ => by rw [hod]; show upd (sg 42) o _ o = _; rw [upd_same], fun _ => by rw [hod]; show upd (sg 43) o _ o = _; rw [upd_same], (fun k hk => by simp [us, show k ≠ 40 by omega, show k ≠ 41 by omega, show k ≠ 42 by omega, show k ≠ 43 by omega])⟩⟩)
          ·
            refine g_bipush C (v := (nI 59)) (by decide) dX0_readOrder_110 ?_
            refine g_icmp_eq C (tgt := 117) (by decide) dX0_readOrder_112 (fun h112 => absurd h112 (ne59 (fun q => (htx _ q).2) hse)) (fun h112 => ?_)
            refine g_iconst C (v := (nI 0)) (by decide) dX0_readOrder_115 ?_
            exact g_zretP C E dX0_readOrder_116 (by decide +kernel) (by
                                                            have hod : odR tx len (sk tx len sp) = (false, sk tx len (nuP tx len (nuP tx len ((sk tx len sp) + 1)).1).1, 0, 0) := by unfold odR; rw [if_neg (by rw [hc]; decide), if_neg (by rw [hc]; decide), if_pos h56, if_neg (by rw [hc]; decide), if_pos h82]; unfold enR; rw [if_neg hse]
                                                            exact ⟨rfl, Or.inr ⟨fun q => absurd q.2 (by rw [hod]; exact Bool.false_ne_true), rfl, by rw [if_pos hq, hod]; rfl, (fun k hk => by simp [us, show k ≠ 40 by omega, show k ≠ 41 by omega, show k ≠ 42 by omega, show k ≠ 43 by omega])⟩⟩)
        ·
          refine g_iconst C (v := (nI 0)) (by decide) dX0_readOrder_85 ?_
          exact g_zretP C E dX0_readOrder_86 (by decide +kernel) (by
                                                            have hod : odR tx len (sk tx len sp) = (false, (nuP tx len (nuP tx len ((sk tx len sp) + 1)).1).1, 0, 0) := by unfold odR; rw [if_neg (by rw [hc]; decide), if_neg (by rw [hc]; decide), if_pos h56, if_neg (by rw [hc]; decide), if_neg h82]
                                                            exact ⟨rfl, Or.inr ⟨fun q => absurd q.2 (by rw [hod]; exact Bool.false_ne_true), rfl, by rw [if_pos hq, hod]; rfl, (fun k hk => by simp [us, show k ≠ 40 by omega, show k ≠ 41 by omega, show k ≠ 42 by omega, show k ≠ 43 by omega])⟩⟩)
      ·
        refine g_iconst C (v := (nI 0)) (by decide) dX0_readOrder_59 ?_
        exact g_zretP C E dX0_readOrder_60 (by decide +kernel) (by
                                                            have hod : odR tx len (sk tx len sp) = (false, (nuP tx len ((sk tx len sp) + 1)).1, 0, 0) := by unfold odR; rw [if_neg (by rw [hc]; decide), if_neg (by rw [hc]; decide), if_neg h56]
                                                            exact ⟨rfl, Or.inr ⟨fun q => absurd q.2 (by rw [hod]; exact Bool.false_ne_true), rfl, by rw [if_pos hq, hod]; rfl, (fun k hk => by simp [us, show k ≠ 40 by omega, show k ≠ 41 by omega, show k ≠ 42 by omega, show k ≠ 43 by omega])⟩⟩)
  ·
    refine g_top (y := (-1)) (if_neg hq) ?_
    refine g_istore_n C (L' := [(3, .int (-1)), (0, .ref (ad w 40)), (1, .ref (ad w 38)), (2, .int (nI o))]) rfl (by decide) rfl dX0_readOrder_13 ?_
    refine g_iload_n C 0 rfl rfl dX0_readOrder_14 ?_
    refine g_callS1 [] C (c_X0_numbersOf_none w tu (us sg 40 (upd (sg 40) 4 (nI (sk tx len sp))))  ) mt_X0_numbersOf ml_X0_45 st_X0_numbersOf (by decide) rfl (Nat.le_of_ble_eq_true rfl) dX0_readOrder_15 ?_
    refine g_eq (L' := [(3, .int (-1)), (0, .ref (ad w 40)), (1, .ref (ad w 38)), (2, .int (nI o))]) (S' := [.int (-1)]) rfl rfl rfl rfl ?_
    refine g_istore C (L' := [(4, .int (-1)), (3, .int (-1)), (0, .ref (ad w 40)), (1, .ref (ad w 38)), (2, .int (nI o))]) (by decide) rfl dX0_readOrder_18 ?_
    refine g_iload C 0 rfl dX0_readOrder_20 ?_
    refine g_iconst C (v := (-1)) (by decide) dX0_readOrder_22 ?_
    refine g_icmp_ne C (tgt := 28) (by decide) dX0_readOrder_23 (fun h23 => absurd rfl h23) (fun h23 => ?_)
    refine g_iconst C (v := (nI 0)) (by decide) dX0_readOrder_26 ?_
    exact g_zretP C E dX0_readOrder_27 (by decide +kernel) (⟨rfl, Or.inr ⟨fun q => hq q.1, rfl, by rw [if_neg hq]; have h9 : (sk tx len sp) = len := Nat.le_antisymm (sk_le hsp) (Nat.le_of_not_lt hq); exact congrArg nI h9, (fun k hk => by simp [us, show k ≠ 40 by omega, show k ≠ 41 by omega, show k ≠ 42 by omega, show k ≠ 43 by omega])⟩⟩)
