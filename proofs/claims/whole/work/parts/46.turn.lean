theorem q3_k {up : Bool} {wh g : Nat → Nat} {s last k : Nat} : q3 up wh g s last (k + 1) k = tw up wh g s last k := by unfold q3; rw [if_pos (by omega)]
theorem tR_cn {up : Bool} {cts : Int32} {g : Nat → Nat} {sg : Sg} {j : Nat} (hj : j < 7) : upd (sg 5) (sN (rowC sg 1)) (ctI (sg 5 (sN (rowC sg 1))) cts) j = tR up cts g (rowC sg 1) (24 + j) := by
  unfold tR
  rw [upd_ne (show 24 + j ≠ 34 by omega)]
  by_cases h : j = sN (rowC sg 1)
  · have e : rowC sg 1 (24 + sN (rowC sg 1)) = sg 5 (sN (rowC sg 1)) := rowC_c (sg := sg) (w := 1) (by omega)
    rw [← h] at e ⊢
    rw [upd_same, upd_same, e]
  · rw [upd_ne h, upd_ne (by omega), upd_ne (by omega), emb_out (by omega)]
    exact (rowC_c (sg := sg) (w := 1) hj).symm
theorem tR_fl {up : Bool} {cts : Int32} {g : Nat → Nat} {sg : Sg} (hs : sN (rowC sg 1) ≤ 6) {C : Nat → Int32} (h0 : ∀ j, j < 6 → C j = sg 1 j) (h6 : C 6 = sg 1 6 + bI (blP up (wN (rowC sg 1)) g (sN (rowC sg 1)) (sN (rowC sg 1) + 5 + reN (rowC sg 1)))) (h7 : C 7 = sg 1 7 + nI 1) (j : Nat) (hj : j < 8) : C j = if j < 4 then sg 1 j else tR up cts g (rowC sg 1) (27 + j) := by
  by_cases h4 : j < 4
  · rw [if_pos h4, h0 j (by omega)]
  · rw [if_neg h4]
    have h : j = 4 ∨ j = 5 ∨ j = 6 ∨ j = 7 := by omega
    rcases h with rfl | rfl | rfl | rfl
    · rw [h0 4 (by omega)]; exact ((tR_31 hs).trans (rowC_f (sg := sg) (w := 1) (j := 4) (by omega))).symm
    · rw [h0 5 (by omega)]; exact ((tR_32 hs).trans (rowC_f (sg := sg) (w := 1) (j := 5) (by omega))).symm
    · rw [h6]; refine ((tR_33 hs).trans ?_).symm; rw [show rowC sg 1 33 = sg 1 6 from rowC_f (sg := sg) (w := 1) (j := 6) (by omega)]
    · rw [h7]; refine (tR_34.trans ?_).symm; rw [show rowC sg 1 34 = sg 1 7 from rowC_f (sg := sg) (w := 1) (j := 7) (by omega)]
theorem sq_tR {up : Bool} {cts : Int32} {g : Nat → Nat} {S sg : Sg} (hs : sN (rowC sg 1) ≤ 6) (h0 : ∀ j, j < 6 → S 1 j = sg 1 j) (h6 : S 1 6 = sg 1 6 + bI (blP up (wN (rowC sg 1)) g (sN (rowC sg 1)) (sN (rowC sg 1) + 5 + reN (rowC sg 1)))) (h7 : S 1 7 = sg 1 7 + nI 1) (h2 : S 2 = sg 2) (h3 : S 3 = sg 3) (h4 : S 4 = emb 0 (tw up (wN (rowC sg 1)) g (sN (rowC sg 1)) (sN (rowC sg 1) + 5 + reN (rowC sg 1))) (sg 4)) (h5 : S 5 = upd (sg 5) (sN (rowC sg 1)) (ctI (sg 5 (sN (rowC sg 1))) cts)) (ho : ∀ k, k < 1 ∨ 5 < k → S k = sg k) : Sq S (wrR sg 1 (tR up cts g (rowC sg 1))) :=
  Sq.wr isW_1 (tR_fl hs h0 h6 h7) (fun j hj => by rw [show S (1 + 1) = sg 2 from h2, tR_lo (by omega)]; exact (rowC_d (sg := sg) (w := 1) hj).symm) (fun j hj => by rw [show S (1 + 2) = sg 3 from h3, tR_lo (by omega)]; exact (rowC_o (sg := sg) (w := 1) hj).symm) (fun j hj => by
    rw [show S (1 + 3) = _ from h4, tR_wh hj]
    have h9 := emb_in (b := 0) (v := tw up (wN (rowC sg 1)) g (sN (rowC sg 1)) (sN (rowC sg 1) + 5 + reN (rowC sg 1))) (old := sg 4) (k := j) hj
    rw [Nat.zero_add] at h9
    exact h9) (fun j hj => by rw [show S (1 + 4) = _ from h5]; exact tR_cn hj) (fun k hk => ho k (by omega))
set_option maxRecDepth 100000 in
set_option maxHeartbeats 400000 in
theorem c_X3_turnOnce_up (w : GW) (tu : Int64) (sg : Sg) (cts : Int32) (hok : ROk (rowC sg 1)) : Kt w yX3_turnOnce cX3_turnOnce 8 (some .boolean) 2 [.ref (ad w 1), .int (nI 1), .int cts] sg tu (some (.int (bI (blP true (wN (rowC sg 1)) (gN (rowC sg 1)) (sN (rowC sg 1)) (sN (rowC sg 1) + 5 + reN (rowC sg 1)))))) (wrR sg 1 (tR true cts (gN (rowC sg 1)) (rowC sg 1))) tu := by
  refine Kt.of2 RX3 rfl [(0, .ref (ad w 1)), (1, .int (nI 1)), (2, .int cts)] (by decide) rfl (Nat.le_of_ble_eq_true rfl) (fun z C E => ?_)
  have hs : sg 1 4 = nI (sN (rowC sg 1)) := (rowC_f (sg := sg) (w := 1) (j := 4) (by omega)).symm.trans hok.2.2.2.1.1
  have hre : sg 1 5 = nI (reN (rowC sg 1)) := (rowC_f (sg := sg) (w := 1) (j := 5) (by omega)).symm.trans hok.2.2.2.2.1
  have hs6 : sN (rowC sg 1) ≤ 6 := hok.2.2.2.1.2
  have hr12 : reN (rowC sg 1) ≤ 12 := hok.2.2.2.2.2
  have hw9 : ∀ k, k < 12 → wN (rowC sg 1) k ≤ 9 := fun k hk => (hok.2.2.1 k hk).2
  have hg9 : ∀ k, k < 6 → gN (rowC sg 1) k ≤ 9 := fun k hk => (gN_ok hok hk).2
  have hemb0 : emb 0 (q3 true (wN (rowC sg 1)) (gN (rowC sg 1)) (sN (rowC sg 1)) (sN (rowC sg 1) + 5 + reN (rowC sg 1)) (sN (rowC sg 1))) (sg 4) = sg 4 := by
    funext j
    unfold emb
    split
    · rename_i hj
      rw [q3_0, Nat.sub_zero, ← (hok.2.2.1 j (by omega)).1]
      exact rowC_w (sg := sg) (w := 1) (by omega)
    · rfl
  refine g_aload_n C 0 rfl rfl dX3_turnOnce_0 ?_
  refine g_getI C (j := 4) cls3 e_1 rfl (by decide) fl_X3_24 dX3_turnOnce_1 ?_
  refine g_top (y := (nI (sN (rowC sg 1)))) hs ?_
  refine g_bipush C (v := (nI 6)) (by decide) dX3_turnOnce_4 ?_
  refine g_iadd C dX3_turnOnce_6 ?_
  refine g_top (y := (nI ((sN (rowC sg 1)) + 6))) (nI_add (sN (rowC sg 1)) 6) ?_
  refine g_iconst C (v := (nI 1)) (by decide) dX3_turnOnce_7 ?_
  refine g_isub C dX3_turnOnce_8 ?_
  refine g_aload_n C 0 rfl rfl dX3_turnOnce_9 ?_
  refine g_getI C (j := 5) cls3 e_1 rfl (by decide) fl_X3_28 dX3_turnOnce_10 ?_
  refine g_top (y := (nI (reN (rowC sg 1)))) hre ?_
  refine g_iadd C dX3_turnOnce_13 ?_
  refine g_top (y := (nI (sN (rowC sg 1) + 5 + reN (rowC sg 1)))) (by first | rfl | exact congrArg nI (by omega) | (rw [pk_sub (by omega), nI_add]; exact congrArg nI (by omega))) ?_
  refine g_istore_n C (L' := [(3, .int (nI (sN (rowC sg 1) + 5 + reN (rowC sg 1)))), (0, .ref (ad w 1)), (1, .int (nI 1)), (2, .int cts)]) rfl (by decide) rfl dX3_turnOnce_14 ?_
  refine g_iconst C (v := (nI 0)) (by decide) dX3_turnOnce_15 ?_
  refine g_istore C (L' := [(4, .int (nI 0)), (3, .int (nI (sN (rowC sg 1) + 5 + reN (rowC sg 1)))), (0, .ref (ad w 1)), (1, .int (nI 1)), (2, .int cts)]) (by decide) rfl dX3_turnOnce_16 ?_
  refine g_aload_n C 2 rfl rfl dX3_turnOnce_18 ?_
  refine g_getI C (j := 4) cls3 e_1 rfl (by decide) fl_X3_24 dX3_turnOnce_19 ?_
  refine g_top (y := (nI (sN (rowC sg 1)))) hs ?_
  refine g_istore C (L' := [(5, .int (nI (sN (rowC sg 1)))), (4, .int (nI 0)), (3, .int (nI (sN (rowC sg 1) + 5 + reN (rowC sg 1)))), (0, .ref (ad w 1)), (1, .int (nI 1)), (2, .int cts)]) (by decide) rfl dX3_turnOnce_22 ?_
  have lp : ∀ (nf k : Nat), 12 < k + nf → k ≤ 12 → sN (rowC sg 1) ≤ k → G z w 8 (us sg 4 (emb 0 (q3 true (wN (rowC sg 1)) (gN (rowC sg 1)) (sN (rowC sg 1)) (sN (rowC sg 1) + 5 + reN (rowC sg 1)) k) (sg 4))) tu 24 [(5, .int (nI k)), (4, .int (nI (crj true (wN (rowC sg 1)) (gN (rowC sg 1)) (sN (rowC sg 1)) (sN (rowC sg 1) + 5 + reN (rowC sg 1)) (k - sN (rowC sg 1))))), (3, .int (nI (sN (rowC sg 1) + 5 + reN (rowC sg 1)))), (0, .ref (ad w 1)), (1, .int (nI 1)), (2, .int cts)] [] := by
    intro nf
    induction nf with
    | zero => intro k h1 h2 h3; exact absurd h1 (by omega)
    | succ nf ih =>
      intro k h1 h2 h3
      have hcl := crj_le (up := true) (wh := wN (rowC sg 1)) (g := gN (rowC sg 1)) (s := sN (rowC sg 1)) (last := (sN (rowC sg 1) + 5 + reN (rowC sg 1))) (j := k - sN (rowC sg 1))
      refine g_iload C 0 rfl dX3_turnOnce_24 ?_
      refine g_bipush C (v := (nI 12)) (by decide) dX3_turnOnce_26 ?_
      refine g_icmpN_ge C k 12 (by omega) (by omega) (tgt := 146) (by decide) dX3_turnOnce_28 (fun h28 => ?_) (fun h28 => ?_)
      ·
        have hkN : 12 = k := by omega
        subst hkN
        refine g_sgE (sg' := (us sg 4 (emb 0 (tw true (wN (rowC sg 1)) (gN (rowC sg 1)) (sN (rowC sg 1)) (sN (rowC sg 1) + 5 + reN (rowC sg 1))) (sg 4)))) (congrArg (us sg 4) (emb_eq (fun m hm => q3_12 hm))) ?_
        refine g_aload_n C 3 rfl rfl dX3_turnOnce_146 ?_
        refine g_getR C (j := 3) cls3 e_1 rfl (by decide) fl_X3_21 dX3_turnOnce_147 ?_
        refine g_aload_n C 3 rfl rfl dX3_turnOnce_150 ?_
        refine g_getI C (j := 4) cls3 e_1 rfl (by decide) fl_X3_24 dX3_turnOnce_151 ?_
        refine g_top (y := (nI (sN (rowC sg 1)))) hs ?_
        refine g_aload_n C 3 rfl rfl dX3_turnOnce_154 ?_
        refine g_getR C (j := 3) cls3 e_1 rfl (by decide) fl_X3_21 dX3_turnOnce_155 ?_
        refine g_aload_n C 3 rfl rfl dX3_turnOnce_158 ?_
        refine g_getI C (j := 4) cls3 e_1 rfl (by decide) fl_X3_24 dX3_turnOnce_159 ?_
        refine g_top (y := (nI (sN (rowC sg 1)))) hs ?_
        refine g_ialdN C (sN (rowC sg 1)) e_5 (by omega) (by decide) dX3_turnOnce_162 ?_
        refine g_top (y := (sg 5 (sN (rowC sg 1)))) rfl ?_
        refine g_iload_n C 5 rfl rfl dX3_turnOnce_163 ?_
        refine g_iadd C dX3_turnOnce_164 ?_
        refine g_bipush C (v := (nI 10)) (by decide) dX3_turnOnce_165 ?_
        refine g_iadd C dX3_turnOnce_167 ?_
        refine g_bipush C (v := (nI 10)) (by decide) dX3_turnOnce_168 ?_
        refine g_irem C (by decide) dX3_turnOnce_170 ?_
        refine g_top (y := ctI (sg 5 (sN (rowC sg 1))) cts) rfl ?_
        refine g_iastN C (sN (rowC sg 1)) e_5 (by omega) (by decide) dX3_turnOnce_171 ?_
        refine g_sgE (sg' := (us (us sg 4 (emb 0 (tw true (wN (rowC sg 1)) (gN (rowC sg 1)) (sN (rowC sg 1)) (sN (rowC sg 1) + 5 + reN (rowC sg 1))) (sg 4))) 5 (upd (sg 5) (sN (rowC sg 1)) (ctI (sg 5 (sN (rowC sg 1))) cts)))) rfl ?_
        refine g_aload_n C 3 rfl rfl dX3_turnOnce_172 ?_
        refine g_dup C rfl dX3_turnOnce_173 ?_
        refine g_getI C (j := 7) cls3 e_1 rfl (by decide) fl_X3_34 dX3_turnOnce_174 ?_
        refine g_top (y := (sg 1 7)) rfl ?_
        refine g_iconst C (v := (nI 1)) (by decide) dX3_turnOnce_177 ?_
        refine g_iadd C dX3_turnOnce_178 ?_
        refine g_putI C (j := 7) cls3 e_1 rfl (by decide) rfl rfl fl_X3_34 dX3_turnOnce_179 ?_
        refine g_sgE (sg' := (us (us (us sg 4 (emb 0 (tw true (wN (rowC sg 1)) (gN (rowC sg 1)) (sN (rowC sg 1)) (sN (rowC sg 1) + 5 + reN (rowC sg 1))) (sg 4))) 5 (upd (sg 5) (sN (rowC sg 1)) (ctI (sg 5 (sN (rowC sg 1))) cts))) 1 (upd (sg 1) 7 ((sg 1 7) + (nI 1))))) rfl ?_
        refine g_iload C 1 rfl dX3_turnOnce_182 ?_
        refine g_iconst C (v := (nI 1)) (by decide) dX3_turnOnce_184 ?_
        refine g_icmpN_ne C (crj true (wN (rowC sg 1)) (gN (rowC sg 1)) (sN (rowC sg 1)) (sN (rowC sg 1) + 5 + reN (rowC sg 1)) (12 - sN (rowC sg 1))) 1 (by omega) (by omega) (tgt := 198) (by decide) dX3_turnOnce_185 (fun h185 => ?_) (fun h185 => ?_)
        ·
          refine g_iconst C (v := (nI 0)) (by decide) dX3_turnOnce_198 ?_
          refine g_istore C (L' := [(5, .int (nI 0)), (4, .int (nI (crj true (wN (rowC sg 1)) (gN (rowC sg 1)) (sN (rowC sg 1)) (sN (rowC sg 1) + 5 + reN (rowC sg 1)) (12 - sN (rowC sg 1))))), (3, .int (nI (sN (rowC sg 1) + 5 + reN (rowC sg 1)))), (0, .ref (ad w 1)), (1, .int (nI 1)), (2, .int cts)]) (by decide) rfl dX3_turnOnce_199 ?_
          refine g_iload C 0 rfl dX3_turnOnce_201 ?_
          refine g_if_eq C (tgt := 216) (by decide) dX3_turnOnce_203 (fun h203 => ?_) (fun h203 => absurd h203 (by decide))
          refine g_iload C 0 rfl dX3_turnOnce_216 ?_
          exact g_zret C E dX3_turnOnce_218 (by decide +kernel) (bI_f (fun q => h185 q.1)).symm (sq_tR hs6 (fun j hj => by first | exact upd_ne (by omega) | exact (upd_ne (by omega)).trans (upd_ne (by omega))) (by rw [bI_f (fun q => h185 q.1)]; exact (Int32.add_zero _).symm) rfl rfl rfl rfl rfl (fun k hk => by rw [us_ne (by omega), us_ne (by omega), us_ne (by omega)])) rfl
        ·
          refine g_bipush C (v := (nI 12)) (by decide) dX3_turnOnce_188 ?_
          refine g_iload_n C 2 rfl rfl dX3_turnOnce_190 ?_
          refine g_icmpN_gt C 12 (sN (rowC sg 1) + 5 + reN (rowC sg 1)) (by omega) (by omega) (tgt := 198) (by decide) dX3_turnOnce_191 (fun h191 => ?_) (fun h191 => ?_)
          ·
            refine g_iconst C (v := (nI 0)) (by decide) dX3_turnOnce_198 ?_
            refine g_istore C (L' := [(5, .int (nI 0)), (4, .int (nI (crj true (wN (rowC sg 1)) (gN (rowC sg 1)) (sN (rowC sg 1)) (sN (rowC sg 1) + 5 + reN (rowC sg 1)) (12 - sN (rowC sg 1))))), (3, .int (nI (sN (rowC sg 1) + 5 + reN (rowC sg 1)))), (0, .ref (ad w 1)), (1, .int (nI 1)), (2, .int cts)]) (by decide) rfl dX3_turnOnce_199 ?_
            refine g_iload C 0 rfl dX3_turnOnce_201 ?_
            refine g_if_eq C (tgt := 216) (by decide) dX3_turnOnce_203 (fun h203 => ?_) (fun h203 => absurd h203 (by decide))
            refine g_iload C 0 rfl dX3_turnOnce_216 ?_
            exact g_zret C E dX3_turnOnce_218 (by decide +kernel) (bI_f (fun q => absurd q.2 (by omega))).symm (sq_tR hs6 (fun j hj => by first | exact upd_ne (by omega) | exact (upd_ne (by omega)).trans (upd_ne (by omega))) (by rw [bI_f (fun q => absurd q.2 (by omega))]; exact (Int32.add_zero _).symm) rfl rfl rfl rfl rfl (fun k hk => by rw [us_ne (by omega), us_ne (by omega), us_ne (by omega)])) rfl
          ·
            refine g_iconst C (v := (nI 1)) (by decide) dX3_turnOnce_194 ?_
            refine g_goto C (tgt := 199) (by decide) dX3_turnOnce_195 ?_
            refine g_istore C (L' := [(5, .int (nI 1)), (4, .int (nI (crj true (wN (rowC sg 1)) (gN (rowC sg 1)) (sN (rowC sg 1)) (sN (rowC sg 1) + 5 + reN (rowC sg 1)) (12 - sN (rowC sg 1))))), (3, .int (nI (sN (rowC sg 1) + 5 + reN (rowC sg 1)))), (0, .ref (ad w 1)), (1, .int (nI 1)), (2, .int cts)]) (by decide) rfl dX3_turnOnce_199 ?_
            refine g_iload C 0 rfl dX3_turnOnce_201 ?_
            refine g_if_eq C (tgt := 216) (by decide) dX3_turnOnce_203 (fun h203 => absurd h203 (by decide)) (fun h203 => ?_)
            refine g_aload_n C 3 rfl rfl dX3_turnOnce_206 ?_
            refine g_dup C rfl dX3_turnOnce_207 ?_
            refine g_getI C (j := 6) cls3 e_1 rfl (by decide) fl_X3_31 dX3_turnOnce_208 ?_
            refine g_top (y := (sg 1 6)) rfl ?_
            refine g_iconst C (v := (nI 1)) (by decide) dX3_turnOnce_211 ?_
            refine g_iadd C dX3_turnOnce_212 ?_
            refine g_putI C (j := 6) cls3 e_1 rfl (by decide) rfl rfl fl_X3_31 dX3_turnOnce_213 ?_
            refine g_sgE (sg' := (us (us (us sg 4 (emb 0 (tw true (wN (rowC sg 1)) (gN (rowC sg 1)) (sN (rowC sg 1)) (sN (rowC sg 1) + 5 + reN (rowC sg 1))) (sg 4))) 5 (upd (sg 5) (sN (rowC sg 1)) (ctI (sg 5 (sN (rowC sg 1))) cts))) 1 (upd (upd (sg 1) 7 ((sg 1 7) + (nI 1))) 6 ((sg 1 6) + (nI 1))))) us_us ?_
            refine g_iload C 0 rfl dX3_turnOnce_216 ?_
            exact g_zret C E dX3_turnOnce_218 (by decide +kernel) (bI_t ⟨h185, h191⟩).symm (sq_tR hs6 (fun j hj => by first | exact upd_ne (by omega) | exact (upd_ne (by omega)).trans (upd_ne (by omega))) (by rw [bI_t ⟨h185, h191⟩]; rfl) rfl rfl rfl rfl rfl (fun k hk => by rw [us_ne (by omega), us_ne (by omega), us_ne (by omega)])) rfl
      ·
        refine g_iload C 0 rfl dX3_turnOnce_31 ?_
        refine g_aload_n C 3 rfl rfl dX3_turnOnce_33 ?_
        refine g_getI C (j := 4) cls3 e_1 rfl (by decide) fl_X3_24 dX3_turnOnce_34 ?_
        refine g_top (y := (nI (sN (rowC sg 1)))) hs ?_
        refine g_bipush C (v := (nI 6)) (by decide) dX3_turnOnce_37 ?_
        refine g_iadd C dX3_turnOnce_39 ?_
        refine g_top (y := (nI ((sN (rowC sg 1)) + 6))) (nI_add (sN (rowC sg 1)) 6) ?_
        refine g_icmpN_ge C k ((sN (rowC sg 1)) + 6) (by omega) (by omega) (tgt := 47) (by decide) dX3_turnOnce_40 (fun h40 => ?_) (fun h40 => ?_)
        ·
          refine g_iconst C (v := (nI 0)) (by decide) dX3_turnOnce_47 ?_
          refine g_istore C (L' := [(6, .int (nI 0)), (5, .int (nI k)), (4, .int (nI (crj true (wN (rowC sg 1)) (gN (rowC sg 1)) (sN (rowC sg 1)) (sN (rowC sg 1) + 5 + reN (rowC sg 1)) (k - sN (rowC sg 1))))), (3, .int (nI (sN (rowC sg 1) + 5 + reN (rowC sg 1)))), (0, .ref (ad w 1)), (1, .int (nI 1)), (2, .int cts)]) (by decide) rfl dX3_turnOnce_48 ?_
          refine g_iload C 0 rfl dX3_turnOnce_50 ?_
          refine g_if_ne C (tgt := 69) (by decide) dX3_turnOnce_52 (fun h52 => absurd h52 (by decide)) (fun h52 => ?_)
          refine g_iload C 2 rfl dX3_turnOnce_55 ?_
          refine g_ifN_eq C (crj true (wN (rowC sg 1)) (gN (rowC sg 1)) (sN (rowC sg 1)) (sN (rowC sg 1) + 5 + reN (rowC sg 1)) (k - sN (rowC sg 1))) (by omega) (tgt := 146) (by decide) dX3_turnOnce_57 (fun h57 => ?_) (fun h57 => ?_)
          ·
            refine g_sgE (sg' := (us sg 4 (emb 0 (tw true (wN (rowC sg 1)) (gN (rowC sg 1)) (sN (rowC sg 1)) (sN (rowC sg 1) + 5 + reN (rowC sg 1))) (sg 4)))) (congrArg (us sg 4) (emb_eq (fun m hm => q3_end hw9 (by omega) (.inl (by omega)) hm))) ?_
            have hnb := bl_tail (up := true) (g := gN (rowC sg 1)) (s := sN (rowC sg 1)) (last := (sN (rowC sg 1) + 5 + reN (rowC sg 1))) (k := k) hw9 (by omega) (by omega) (.inl (by omega))
            refine g_aload_n C 4 rfl rfl dX3_turnOnce_146 ?_
            refine g_getR C (j := 3) cls3 e_1 rfl (by decide) fl_X3_21 dX3_turnOnce_147 ?_
            refine g_aload_n C 4 rfl rfl dX3_turnOnce_150 ?_
            refine g_getI C (j := 4) cls3 e_1 rfl (by decide) fl_X3_24 dX3_turnOnce_151 ?_
            refine g_top (y := (nI (sN (rowC sg 1)))) hs ?_
            refine g_aload_n C 4 rfl rfl dX3_turnOnce_154 ?_
            refine g_getR C (j := 3) cls3 e_1 rfl (by decide) fl_X3_21 dX3_turnOnce_155 ?_
            refine g_aload_n C 4 rfl rfl dX3_turnOnce_158 ?_
            refine g_getI C (j := 4) cls3 e_1 rfl (by decide) fl_X3_24 dX3_turnOnce_159 ?_
            refine g_top (y := (nI (sN (rowC sg 1)))) hs ?_
            refine g_ialdN C (sN (rowC sg 1)) e_5 (by omega) (by decide) dX3_turnOnce_162 ?_
            refine g_top (y := (sg 5 (sN (rowC sg 1)))) rfl ?_
            refine g_iload_n C 6 rfl rfl dX3_turnOnce_163 ?_
            refine g_iadd C dX3_turnOnce_164 ?_
            refine g_bipush C (v := (nI 10)) (by decide) dX3_turnOnce_165 ?_
            refine g_iadd C dX3_turnOnce_167 ?_
            refine g_bipush C (v := (nI 10)) (by decide) dX3_turnOnce_168 ?_
            refine g_irem C (by decide) dX3_turnOnce_170 ?_
            refine g_top (y := ctI (sg 5 (sN (rowC sg 1))) cts) rfl ?_
            refine g_iastN C (sN (rowC sg 1)) e_5 (by omega) (by decide) dX3_turnOnce_171 ?_
            refine g_sgE (sg' := (us (us sg 4 (emb 0 (tw true (wN (rowC sg 1)) (gN (rowC sg 1)) (sN (rowC sg 1)) (sN (rowC sg 1) + 5 + reN (rowC sg 1))) (sg 4))) 5 (upd (sg 5) (sN (rowC sg 1)) (ctI (sg 5 (sN (rowC sg 1))) cts)))) rfl ?_
            refine g_aload_n C 4 rfl rfl dX3_turnOnce_172 ?_
            refine g_dup C rfl dX3_turnOnce_173 ?_
            refine g_getI C (j := 7) cls3 e_1 rfl (by decide) fl_X3_34 dX3_turnOnce_174 ?_
            refine g_top (y := (sg 1 7)) rfl ?_
            refine g_iconst C (v := (nI 1)) (by decide) dX3_turnOnce_177 ?_
            refine g_iadd C dX3_turnOnce_178 ?_
            refine g_putI C (j := 7) cls3 e_1 rfl (by decide) rfl rfl fl_X3_34 dX3_turnOnce_179 ?_
            refine g_sgE (sg' := (us (us (us sg 4 (emb 0 (tw true (wN (rowC sg 1)) (gN (rowC sg 1)) (sN (rowC sg 1)) (sN (rowC sg 1) + 5 + reN (rowC sg 1))) (sg 4))) 5 (upd (sg 5) (sN (rowC sg 1)) (ctI (sg 5 (sN (rowC sg 1))) cts))) 1 (upd (sg 1) 7 ((sg 1 7) + (nI 1))))) rfl ?_
            refine g_iload C 2 rfl dX3_turnOnce_182 ?_
            refine g_iconst C (v := (nI 1)) (by decide) dX3_turnOnce_184 ?_
            refine g_icmpN_ne C (crj true (wN (rowC sg 1)) (gN (rowC sg 1)) (sN (rowC sg 1)) (sN (rowC sg 1) + 5 + reN (rowC sg 1)) (k - sN (rowC sg 1))) 1 (by omega) (by omega) (tgt := 198) (by decide) dX3_turnOnce_185 (fun h185 => ?_) (fun h185 => ?_)
            ·
              refine g_iconst C (v := (nI 0)) (by decide) dX3_turnOnce_198 ?_
              refine g_istore C (L' := [(5, .int (nI 0)), (6, .int (nI 0)), (4, .int (nI (crj true (wN (rowC sg 1)) (gN (rowC sg 1)) (sN (rowC sg 1)) (sN (rowC sg 1) + 5 + reN (rowC sg 1)) (k - sN (rowC sg 1))))), (3, .int (nI (sN (rowC sg 1) + 5 + reN (rowC sg 1)))), (0, .ref (ad w 1)), (1, .int (nI 1)), (2, .int cts)]) (by decide) rfl dX3_turnOnce_199 ?_
              refine g_iload C 0 rfl dX3_turnOnce_201 ?_
              refine g_if_eq C (tgt := 216) (by decide) dX3_turnOnce_203 (fun h203 => ?_) (fun h203 => absurd h203 (by decide))
              refine g_iload C 0 rfl dX3_turnOnce_216 ?_
              exact g_zret C E dX3_turnOnce_218 (by decide +kernel) (bI_f hnb).symm (sq_tR hs6 (fun j hj => by first | exact upd_ne (by omega) | exact (upd_ne (by omega)).trans (upd_ne (by omega))) (by rw [bI_f hnb]; exact (Int32.add_zero _).symm) rfl rfl rfl rfl rfl (fun k hk => by rw [us_ne (by omega), us_ne (by omega), us_ne (by omega)])) rfl
            ·
              refine g_bipush C (v := (nI 12)) (by decide) dX3_turnOnce_188 ?_
              refine g_iload_n C 3 rfl rfl dX3_turnOnce_190 ?_
              refine g_icmpN_gt C 12 (sN (rowC sg 1) + 5 + reN (rowC sg 1)) (by omega) (by omega) (tgt := 198) (by decide) dX3_turnOnce_191 (fun h191 => ?_) (fun h191 => ?_)
              ·
                refine g_iconst C (v := (nI 0)) (by decide) dX3_turnOnce_198 ?_
                refine g_istore C (L' := [(5, .int (nI 0)), (6, .int (nI 0)), (4, .int (nI (crj true (wN (rowC sg 1)) (gN (rowC sg 1)) (sN (rowC sg 1)) (sN (rowC sg 1) + 5 + reN (rowC sg 1)) (k - sN (rowC sg 1))))), (3, .int (nI (sN (rowC sg 1) + 5 + reN (rowC sg 1)))), (0, .ref (ad w 1)), (1, .int (nI 1)), (2, .int cts)]) (by decide) rfl dX3_turnOnce_199 ?_
                refine g_iload C 0 rfl dX3_turnOnce_201 ?_
                refine g_if_eq C (tgt := 216) (by decide) dX3_turnOnce_203 (fun h203 => ?_) (fun h203 => absurd h203 (by decide))
                refine g_iload C 0 rfl dX3_turnOnce_216 ?_
                exact g_zret C E dX3_turnOnce_218 (by decide +kernel) (bI_f hnb).symm (sq_tR hs6 (fun j hj => by first | exact upd_ne (by omega) | exact (upd_ne (by omega)).trans (upd_ne (by omega))) (by rw [bI_f hnb]; exact (Int32.add_zero _).symm) rfl rfl rfl rfl rfl (fun k hk => by rw [us_ne (by omega), us_ne (by omega), us_ne (by omega)])) rfl
              ·
                refine g_iconst C (v := (nI 1)) (by decide) dX3_turnOnce_194 ?_
                refine g_goto C (tgt := 199) (by decide) dX3_turnOnce_195 ?_
                refine g_istore C (L' := [(5, .int (nI 1)), (6, .int (nI 0)), (4, .int (nI (crj true (wN (rowC sg 1)) (gN (rowC sg 1)) (sN (rowC sg 1)) (sN (rowC sg 1) + 5 + reN (rowC sg 1)) (k - sN (rowC sg 1))))), (3, .int (nI (sN (rowC sg 1) + 5 + reN (rowC sg 1)))), (0, .ref (ad w 1)), (1, .int (nI 1)), (2, .int cts)]) (by decide) rfl dX3_turnOnce_199 ?_
                refine g_iload C 0 rfl dX3_turnOnce_201 ?_
                refine g_if_eq C (tgt := 216) (by decide) dX3_turnOnce_203 (fun h203 => absurd h203 (by decide)) (fun h203 => ?_)
                refine g_aload_n C 4 rfl rfl dX3_turnOnce_206 ?_
                refine g_dup C rfl dX3_turnOnce_207 ?_
                refine g_getI C (j := 6) cls3 e_1 rfl (by decide) fl_X3_31 dX3_turnOnce_208 ?_
                refine g_top (y := (sg 1 6)) rfl ?_
                refine g_iconst C (v := (nI 1)) (by decide) dX3_turnOnce_211 ?_
                refine g_iadd C dX3_turnOnce_212 ?_
                refine g_putI C (j := 6) cls3 e_1 rfl (by decide) rfl rfl fl_X3_31 dX3_turnOnce_213 ?_
                refine g_sgE (sg' := (us (us (us sg 4 (emb 0 (tw true (wN (rowC sg 1)) (gN (rowC sg 1)) (sN (rowC sg 1)) (sN (rowC sg 1) + 5 + reN (rowC sg 1))) (sg 4))) 5 (upd (sg 5) (sN (rowC sg 1)) (ctI (sg 5 (sN (rowC sg 1))) cts))) 1 (upd (upd (sg 1) 7 ((sg 1 7) + (nI 1))) 6 ((sg 1 6) + (nI 1))))) us_us ?_
                refine g_iload C 0 rfl dX3_turnOnce_216 ?_
                exact g_zret C E dX3_turnOnce_218 (by decide +kernel) (absurd h185 (by omega)) (absurd h185 (by omega)) rfl
          ·
            refine g_iload C 1 rfl dX3_turnOnce_60 ?_
            refine g_iload_n C 3 rfl rfl dX3_turnOnce_62 ?_
            refine g_icmpN_le C k (sN (rowC sg 1) + 5 + reN (rowC sg 1)) (by omega) (by omega) (tgt := 69) (by decide) dX3_turnOnce_63 (fun h63 => ?_) (fun h63 => ?_)
            ·
              refine g_aload_n C 4 rfl rfl dX3_turnOnce_69 ?_
              refine g_getR C (j := 2) cls3 e_1 rfl (by decide) fl_X3_18 dX3_turnOnce_70 ?_
              refine g_iload C 1 rfl dX3_turnOnce_73 ?_
              refine g_ialdN C k e_4 (by omega) (by decide) dX3_turnOnce_75 ?_
              refine g_top (y := ((emb 0 (q3 true (wN (rowC sg 1)) (gN (rowC sg 1)) (sN (rowC sg 1)) (sN (rowC sg 1) + 5 + reN (rowC sg 1)) k) (sg 4)) k)) rfl ?_
              have h9 := emb_in (b := 0) (v := q3 true (wN (rowC sg 1)) (gN (rowC sg 1)) (sN (rowC sg 1)) (sN (rowC sg 1) + 5 + reN (rowC sg 1)) k) (old := sg 4) (k := k) (by omega)
              rw [Nat.zero_add, q3_at] at h9
              have hwk := hw9 k (by omega)
              refine g_top (y := nI (wN (rowC sg 1) k)) h9 ?_
              refine g_iload_n C 5 rfl rfl dX3_turnOnce_76 ?_
              refine g_iload C 0 rfl dX3_turnOnce_77 ?_
              refine g_if_eq C (tgt := 96) (by decide) dX3_turnOnce_79 (fun h79 => ?_) (fun h79 => absurd h79 (by decide))
              refine g_iconst C (v := (nI 0)) (by decide) dX3_turnOnce_96 ?_
              refine g_iload C 2 rfl dX3_turnOnce_97 ?_
              refine g_iadd C dX3_turnOnce_99 ?_
              refine g_top (y := (nI (crj true (wN (rowC sg 1)) (gN (rowC sg 1)) (sN (rowC sg 1)) (sN (rowC sg 1) + 5 + reN (rowC sg 1)) (k - sN (rowC sg 1))))) (by rw [nI_add, Nat.zero_add]) ?_
              refine g_top (y := (nI (0 + crj true (wN (rowC sg 1)) (gN (rowC sg 1)) (sN (rowC sg 1)) (sN (rowC sg 1) + 5 + reN (rowC sg 1)) (k - sN (rowC sg 1))))) (by first | rfl | exact congrArg nI (by omega) | exact nI_add _ _) ?_
              refine g_imul C dX3_turnOnce_100 ?_
              refine g_top (y := (nI (0 + crj true (wN (rowC sg 1)) (gN (rowC sg 1)) (sN (rowC sg 1)) (sN (rowC sg 1) + 5 + reN (rowC sg 1)) (k - sN (rowC sg 1))))) (by rw [pk_mul, Nat.one_mul]) ?_
              refine g_iadd C dX3_turnOnce_101 ?_
              refine g_top (y := (nI ((wN (rowC sg 1) k) + (0 + crj true (wN (rowC sg 1)) (gN (rowC sg 1)) (sN (rowC sg 1)) (sN (rowC sg 1) + 5 + reN (rowC sg 1)) (k - sN (rowC sg 1)))))) (nI_add (wN (rowC sg 1) k) (0 + crj true (wN (rowC sg 1)) (gN (rowC sg 1)) (sN (rowC sg 1)) (sN (rowC sg 1) + 5 + reN (rowC sg 1)) (k - sN (rowC sg 1)))) ?_
              refine g_top (y := (nI (wN (rowC sg 1) k + (0 + crj true (wN (rowC sg 1)) (gN (rowC sg 1)) (sN (rowC sg 1)) (sN (rowC sg 1) + 5 + reN (rowC sg 1)) (k - sN (rowC sg 1)))))) (congrArg nI (by omega)) ?_
              refine g_istore C (L' := [(7, .int (nI (wN (rowC sg 1) k + (0 + crj true (wN (rowC sg 1)) (gN (rowC sg 1)) (sN (rowC sg 1)) (sN (rowC sg 1) + 5 + reN (rowC sg 1)) (k - sN (rowC sg 1)))))), (6, .int (nI 0)), (5, .int (nI k)), (4, .int (nI (crj true (wN (rowC sg 1)) (gN (rowC sg 1)) (sN (rowC sg 1)) (sN (rowC sg 1) + 5 + reN (rowC sg 1)) (k - sN (rowC sg 1))))), (3, .int (nI (sN (rowC sg 1) + 5 + reN (rowC sg 1)))), (0, .ref (ad w 1)), (1, .int (nI 1)), (2, .int cts)]) (by decide) rfl dX3_turnOnce_102 ?_
              refine g_iload C 0 rfl dX3_turnOnce_104 ?_
              refine g_if_lt C (tgt := 116) (by decide) dX3_turnOnce_106 (fun h106 => absurd h106 (Int32.not_lt.mpr (nI_pos' (by omega)))) (fun h106 => ?_)
              refine g_iload C 0 rfl dX3_turnOnce_109 ?_
              refine g_bipush C (v := (nI 9)) (by decide) dX3_turnOnce_111 ?_
              refine g_icmpN_le C (wN (rowC sg 1) k + (0 + crj true (wN (rowC sg 1)) (gN (rowC sg 1)) (sN (rowC sg 1)) (sN (rowC sg 1) + 5 + reN (rowC sg 1)) (k - sN (rowC sg 1)))) 9 (by omega) (by omega) (tgt := 120) (by decide) dX3_turnOnce_113 (fun h113 => ?_) (fun h113 => ?_)
              ·
                refine g_iconst C (v := (nI 0)) (by decide) dX3_turnOnce_120 ?_
                refine g_istore C (L' := [(4, .int (nI 0)), (7, .int (nI (wN (rowC sg 1) k + (0 + crj true (wN (rowC sg 1)) (gN (rowC sg 1)) (sN (rowC sg 1)) (sN (rowC sg 1) + 5 + reN (rowC sg 1)) (k - sN (rowC sg 1)))))), (6, .int (nI 0)), (5, .int (nI k)), (3, .int (nI (sN (rowC sg 1) + 5 + reN (rowC sg 1)))), (0, .ref (ad w 1)), (1, .int (nI 1)), (2, .int cts)]) (by decide) rfl dX3_turnOnce_121 ?_
                refine g_aload_n C 5 rfl rfl dX3_turnOnce_123 ?_
                refine g_getR C (j := 2) cls3 e_1 rfl (by decide) fl_X3_18 dX3_turnOnce_124 ?_
                refine g_iload C 3 rfl dX3_turnOnce_127 ?_
                refine g_iload C 1 rfl dX3_turnOnce_129 ?_
                refine g_iload_n C 6 rfl rfl dX3_turnOnce_131 ?_
                refine g_bipush C (v := (nI 10)) (by decide) dX3_turnOnce_132 ?_
                refine g_imul C dX3_turnOnce_134 ?_
                refine g_top (y := (nI 10)) (pk_mul 1 10) ?_
                refine g_iload C 0 rfl dX3_turnOnce_135 ?_
                refine g_imul C dX3_turnOnce_137 ?_
                refine g_top (y := (nI 0)) (pk_mul 10 0) ?_
                refine g_isub C dX3_turnOnce_138 ?_
                refine g_top (y := (nI (stp true (wN (rowC sg 1) k) (0 + crj true (wN (rowC sg 1)) (gN (rowC sg 1)) (sN (rowC sg 1)) (sN (rowC sg 1) + 5 + reN (rowC sg 1)) (k - sN (rowC sg 1)))))) (by simp only [stp, if_true]; rw [if_neg (by omega)]; first | rfl | exact pk_sub (by omega)) ?_
                refine g_iastN C k e_4 (by omega) (by decide) dX3_turnOnce_139 ?_
                refine g_sgE (sg' := (us sg 4 (upd (emb 0 (q3 true (wN (rowC sg 1)) (gN (rowC sg 1)) (sN (rowC sg 1)) (sN (rowC sg 1) + 5 + reN (rowC sg 1)) k) (sg 4)) k (nI (stp true (wN (rowC sg 1) k) (0 + crj true (wN (rowC sg 1)) (gN (rowC sg 1)) (sN (rowC sg 1)) (sN (rowC sg 1) + 5 + reN (rowC sg 1)) (k - sN (rowC sg 1)))))))) us_us ?_
                refine g_iinc C (n := 1) (v := (nI (k + 1))) (L' := [(5, .int (nI (k + 1))), (4, .int (nI 0)), (7, .int (nI (wN (rowC sg 1) k + (0 + crj true (wN (rowC sg 1)) (gN (rowC sg 1)) (sN (rowC sg 1)) (sN (rowC sg 1) + 5 + reN (rowC sg 1)) (k - sN (rowC sg 1)))))), (6, .int (nI 0)), (3, .int (nI (sN (rowC sg 1) + 5 + reN (rowC sg 1)))), (0, .ref (ad w 1)), (1, .int (nI 1)), (2, .int cts)]) 3 rfl (nI_add k 1) (by decide) rfl dX3_turnOnce_140 ?_
                refine g_goto C (tgt := 24) (by decide) dX3_turnOnce_143 ?_
                have hcr : crj true (wN (rowC sg 1)) (gN (rowC sg 1)) (sN (rowC sg 1)) (sN (rowC sg 1) + 5 + reN (rowC sg 1)) (k + 1 - sN (rowC sg 1)) = 0 := (crj_a (by omega) (by omega)).trans (by simp only [cry, if_true]; exact if_neg (by omega))
                refine g_sub (L' := [(5, .int (nI (k + 1))), (4, .int (nI 0)), (3, .int (nI (sN (rowC sg 1) + 5 + reN (rowC sg 1)))), (0, .ref (ad w 1)), (1, .int (nI 1)), (2, .int cts)]) [0, 1, 4, 5, 6, 7] rfl ?_
                refine g_eq (L' := [(5, .int (nI (k + 1))), (4, .int (nI (crj true (wN (rowC sg 1)) (gN (rowC sg 1)) (sN (rowC sg 1)) (sN (rowC sg 1) + 5 + reN (rowC sg 1)) ((k + 1) - sN (rowC sg 1))))), (3, .int (nI (sN (rowC sg 1) + 5 + reN (rowC sg 1)))), (0, .ref (ad w 1)), (1, .int (nI 1)), (2, .int cts)]) rfl rfl (by rw [hcr]) rfl ?_
                refine g_sgE (sg' := (us sg 4 (emb 0 (q3 true (wN (rowC sg 1)) (gN (rowC sg 1)) (sN (rowC sg 1)) (sN (rowC sg 1) + 5 + reN (rowC sg 1)) (k + 1)) (sg 4)))) (congrArg (us sg 4) (emb_upd0 (by omega) (q3_k.trans (tw_a (by omega) (by omega))) (fun m _ hm => q3_n hm))) ?_
                exact ih (k + 1) (by omega) (by omega) (by omega)
              ·
                refine g_iconst C (v := (nI 1)) (by decide) dX3_turnOnce_116 ?_
                refine g_goto C (tgt := 121) (by decide) dX3_turnOnce_117 ?_
                refine g_istore C (L' := [(4, .int (nI 1)), (7, .int (nI (wN (rowC sg 1) k + (0 + crj true (wN (rowC sg 1)) (gN (rowC sg 1)) (sN (rowC sg 1)) (sN (rowC sg 1) + 5 + reN (rowC sg 1)) (k - sN (rowC sg 1)))))), (6, .int (nI 0)), (5, .int (nI k)), (3, .int (nI (sN (rowC sg 1) + 5 + reN (rowC sg 1)))), (0, .ref (ad w 1)), (1, .int (nI 1)), (2, .int cts)]) (by decide) rfl dX3_turnOnce_121 ?_
                refine g_aload_n C 5 rfl rfl dX3_turnOnce_123 ?_
                refine g_getR C (j := 2) cls3 e_1 rfl (by decide) fl_X3_18 dX3_turnOnce_124 ?_
                refine g_iload C 3 rfl dX3_turnOnce_127 ?_
                refine g_iload C 1 rfl dX3_turnOnce_129 ?_
                refine g_iload_n C 6 rfl rfl dX3_turnOnce_131 ?_
                refine g_bipush C (v := (nI 10)) (by decide) dX3_turnOnce_132 ?_
                refine g_imul C dX3_turnOnce_134 ?_
                refine g_top (y := (nI 10)) (pk_mul 1 10) ?_
                refine g_iload C 0 rfl dX3_turnOnce_135 ?_
                refine g_imul C dX3_turnOnce_137 ?_
                refine g_top (y := (nI 10)) (pk_mul 10 1) ?_
                refine g_isub C dX3_turnOnce_138 ?_
                refine g_top (y := (nI (stp true (wN (rowC sg 1) k) (0 + crj true (wN (rowC sg 1)) (gN (rowC sg 1)) (sN (rowC sg 1)) (sN (rowC sg 1) + 5 + reN (rowC sg 1)) (k - sN (rowC sg 1)))))) (by simp only [stp, if_true]; rw [if_pos (by omega)]; exact pk_sub (by omega)) ?_
                refine g_iastN C k e_4 (by omega) (by decide) dX3_turnOnce_139 ?_
                refine g_sgE (sg' := (us sg 4 (upd (emb 0 (q3 true (wN (rowC sg 1)) (gN (rowC sg 1)) (sN (rowC sg 1)) (sN (rowC sg 1) + 5 + reN (rowC sg 1)) k) (sg 4)) k (nI (stp true (wN (rowC sg 1) k) (0 + crj true (wN (rowC sg 1)) (gN (rowC sg 1)) (sN (rowC sg 1)) (sN (rowC sg 1) + 5 + reN (rowC sg 1)) (k - sN (rowC sg 1)))))))) us_us ?_
                refine g_iinc C (n := 1) (v := (nI (k + 1))) (L' := [(5, .int (nI (k + 1))), (4, .int (nI 1)), (7, .int (nI (wN (rowC sg 1) k + (0 + crj true (wN (rowC sg 1)) (gN (rowC sg 1)) (sN (rowC sg 1)) (sN (rowC sg 1) + 5 + reN (rowC sg 1)) (k - sN (rowC sg 1)))))), (6, .int (nI 0)), (3, .int (nI (sN (rowC sg 1) + 5 + reN (rowC sg 1)))), (0, .ref (ad w 1)), (1, .int (nI 1)), (2, .int cts)]) 3 rfl (nI_add k 1) (by decide) rfl dX3_turnOnce_140 ?_
                refine g_goto C (tgt := 24) (by decide) dX3_turnOnce_143 ?_
                have hcr : crj true (wN (rowC sg 1)) (gN (rowC sg 1)) (sN (rowC sg 1)) (sN (rowC sg 1) + 5 + reN (rowC sg 1)) (k + 1 - sN (rowC sg 1)) = 1 := (crj_a (by omega) (by omega)).trans (by simp only [cry, if_true]; exact if_pos (by omega))
                refine g_sub (L' := [(5, .int (nI (k + 1))), (4, .int (nI 1)), (3, .int (nI (sN (rowC sg 1) + 5 + reN (rowC sg 1)))), (0, .ref (ad w 1)), (1, .int (nI 1)), (2, .int cts)]) [0, 1, 4, 5, 6, 7] rfl ?_
                refine g_eq (L' := [(5, .int (nI (k + 1))), (4, .int (nI (crj true (wN (rowC sg 1)) (gN (rowC sg 1)) (sN (rowC sg 1)) (sN (rowC sg 1) + 5 + reN (rowC sg 1)) ((k + 1) - sN (rowC sg 1))))), (3, .int (nI (sN (rowC sg 1) + 5 + reN (rowC sg 1)))), (0, .ref (ad w 1)), (1, .int (nI 1)), (2, .int cts)]) rfl rfl (by rw [hcr]) rfl ?_
                refine g_sgE (sg' := (us sg 4 (emb 0 (q3 true (wN (rowC sg 1)) (gN (rowC sg 1)) (sN (rowC sg 1)) (sN (rowC sg 1) + 5 + reN (rowC sg 1)) (k + 1)) (sg 4)))) (congrArg (us sg 4) (emb_upd0 (by omega) (q3_k.trans (tw_a (by omega) (by omega))) (fun m _ hm => q3_n hm))) ?_
                exact ih (k + 1) (by omega) (by omega) (by omega)
            ·
              refine g_sgE (sg' := (us sg 4 (emb 0 (tw true (wN (rowC sg 1)) (gN (rowC sg 1)) (sN (rowC sg 1)) (sN (rowC sg 1) + 5 + reN (rowC sg 1))) (sg 4)))) (congrArg (us sg 4) (emb_eq (fun m hm => q3_end hw9 (by omega) (.inr (by omega)) hm))) ?_
              have hnb := bl_tail (up := true) (g := gN (rowC sg 1)) (s := sN (rowC sg 1)) (last := (sN (rowC sg 1) + 5 + reN (rowC sg 1))) (k := k) hw9 (by omega) (by omega) (.inr (by omega))
              refine g_goto C (tgt := 146) (by decide) dX3_turnOnce_66 ?_
              refine g_aload_n C 4 rfl rfl dX3_turnOnce_146 ?_
              refine g_getR C (j := 3) cls3 e_1 rfl (by decide) fl_X3_21 dX3_turnOnce_147 ?_
              refine g_aload_n C 4 rfl rfl dX3_turnOnce_150 ?_
              refine g_getI C (j := 4) cls3 e_1 rfl (by decide) fl_X3_24 dX3_turnOnce_151 ?_
              refine g_top (y := (nI (sN (rowC sg 1)))) hs ?_
              refine g_aload_n C 4 rfl rfl dX3_turnOnce_154 ?_
              refine g_getR C (j := 3) cls3 e_1 rfl (by decide) fl_X3_21 dX3_turnOnce_155 ?_
              refine g_aload_n C 4 rfl rfl dX3_turnOnce_158 ?_
              refine g_getI C (j := 4) cls3 e_1 rfl (by decide) fl_X3_24 dX3_turnOnce_159 ?_
              refine g_top (y := (nI (sN (rowC sg 1)))) hs ?_
              refine g_ialdN C (sN (rowC sg 1)) e_5 (by omega) (by decide) dX3_turnOnce_162 ?_
              refine g_top (y := (sg 5 (sN (rowC sg 1)))) rfl ?_
              refine g_iload_n C 6 rfl rfl dX3_turnOnce_163 ?_
              refine g_iadd C dX3_turnOnce_164 ?_
              refine g_bipush C (v := (nI 10)) (by decide) dX3_turnOnce_165 ?_
              refine g_iadd C dX3_turnOnce_167 ?_
              refine g_bipush C (v := (nI 10)) (by decide) dX3_turnOnce_168 ?_
              refine g_irem C (by decide) dX3_turnOnce_170 ?_
              refine g_top (y := ctI (sg 5 (sN (rowC sg 1))) cts) rfl ?_
              refine g_iastN C (sN (rowC sg 1)) e_5 (by omega) (by decide) dX3_turnOnce_171 ?_
              refine g_sgE (sg' := (us (us sg 4 (emb 0 (tw true (wN (rowC sg 1)) (gN (rowC sg 1)) (sN (rowC sg 1)) (sN (rowC sg 1) + 5 + reN (rowC sg 1))) (sg 4))) 5 (upd (sg 5) (sN (rowC sg 1)) (ctI (sg 5 (sN (rowC sg 1))) cts)))) rfl ?_
              refine g_aload_n C 4 rfl rfl dX3_turnOnce_172 ?_
              refine g_dup C rfl dX3_turnOnce_173 ?_
              refine g_getI C (j := 7) cls3 e_1 rfl (by decide) fl_X3_34 dX3_turnOnce_174 ?_
              refine g_top (y := (sg 1 7)) rfl ?_
              refine g_iconst C (v := (nI 1)) (by decide) dX3_turnOnce_177 ?_
              refine g_iadd C dX3_turnOnce_178 ?_
              refine g_putI C (j := 7) cls3 e_1 rfl (by decide) rfl rfl fl_X3_34 dX3_turnOnce_179 ?_
              refine g_sgE (sg' := (us (us (us sg 4 (emb 0 (tw true (wN (rowC sg 1)) (gN (rowC sg 1)) (sN (rowC sg 1)) (sN (rowC sg 1) + 5 + reN (rowC sg 1))) (sg 4))) 5 (upd (sg 5) (sN (rowC sg 1)) (ctI (sg 5 (sN (rowC sg 1))) cts))) 1 (upd (sg 1) 7 ((sg 1 7) + (nI 1))))) rfl ?_
              refine g_iload C 2 rfl dX3_turnOnce_182 ?_
              refine g_iconst C (v := (nI 1)) (by decide) dX3_turnOnce_184 ?_
              refine g_icmpN_ne C (crj true (wN (rowC sg 1)) (gN (rowC sg 1)) (sN (rowC sg 1)) (sN (rowC sg 1) + 5 + reN (rowC sg 1)) (k - sN (rowC sg 1))) 1 (by omega) (by omega) (tgt := 198) (by decide) dX3_turnOnce_185 (fun h185 => ?_) (fun h185 => ?_)
              ·
                refine g_iconst C (v := (nI 0)) (by decide) dX3_turnOnce_198 ?_
                refine g_istore C (L' := [(5, .int (nI 0)), (6, .int (nI 0)), (4, .int (nI (crj true (wN (rowC sg 1)) (gN (rowC sg 1)) (sN (rowC sg 1)) (sN (rowC sg 1) + 5 + reN (rowC sg 1)) (k - sN (rowC sg 1))))), (3, .int (nI (sN (rowC sg 1) + 5 + reN (rowC sg 1)))), (0, .ref (ad w 1)), (1, .int (nI 1)), (2, .int cts)]) (by decide) rfl dX3_turnOnce_199 ?_
                refine g_iload C 0 rfl dX3_turnOnce_201 ?_
                refine g_if_eq C (tgt := 216) (by decide) dX3_turnOnce_203 (fun h203 => ?_) (fun h203 => absurd h203 (by decide))
                refine g_iload C 0 rfl dX3_turnOnce_216 ?_
                exact g_zret C E dX3_turnOnce_218 (by decide +kernel) (bI_f hnb).symm (sq_tR hs6 (fun j hj => by first | exact upd_ne (by omega) | exact (upd_ne (by omega)).trans (upd_ne (by omega))) (by rw [bI_f hnb]; exact (Int32.add_zero _).symm) rfl rfl rfl rfl rfl (fun k hk => by rw [us_ne (by omega), us_ne (by omega), us_ne (by omega)])) rfl
              ·
                refine g_bipush C (v := (nI 12)) (by decide) dX3_turnOnce_188 ?_
                refine g_iload_n C 3 rfl rfl dX3_turnOnce_190 ?_
                refine g_icmpN_gt C 12 (sN (rowC sg 1) + 5 + reN (rowC sg 1)) (by omega) (by omega) (tgt := 198) (by decide) dX3_turnOnce_191 (fun h191 => ?_) (fun h191 => ?_)
                ·
                  refine g_iconst C (v := (nI 0)) (by decide) dX3_turnOnce_198 ?_
                  refine g_istore C (L' := [(5, .int (nI 0)), (6, .int (nI 0)), (4, .int (nI (crj true (wN (rowC sg 1)) (gN (rowC sg 1)) (sN (rowC sg 1)) (sN (rowC sg 1) + 5 + reN (rowC sg 1)) (k - sN (rowC sg 1))))), (3, .int (nI (sN (rowC sg 1) + 5 + reN (rowC sg 1)))), (0, .ref (ad w 1)), (1, .int (nI 1)), (2, .int cts)]) (by decide) rfl dX3_turnOnce_199 ?_
                  refine g_iload C 0 rfl dX3_turnOnce_201 ?_
                  refine g_if_eq C (tgt := 216) (by decide) dX3_turnOnce_203 (fun h203 => ?_) (fun h203 => absurd h203 (by decide))
                  refine g_iload C 0 rfl dX3_turnOnce_216 ?_
                  exact g_zret C E dX3_turnOnce_218 (by decide +kernel) (bI_f hnb).symm (sq_tR hs6 (fun j hj => by first | exact upd_ne (by omega) | exact (upd_ne (by omega)).trans (upd_ne (by omega))) (by rw [bI_f hnb]; exact (Int32.add_zero _).symm) rfl rfl rfl rfl rfl (fun k hk => by rw [us_ne (by omega), us_ne (by omega), us_ne (by omega)])) rfl
                ·
                  refine g_iconst C (v := (nI 1)) (by decide) dX3_turnOnce_194 ?_
                  refine g_goto C (tgt := 199) (by decide) dX3_turnOnce_195 ?_
                  refine g_istore C (L' := [(5, .int (nI 1)), (6, .int (nI 0)), (4, .int (nI (crj true (wN (rowC sg 1)) (gN (rowC sg 1)) (sN (rowC sg 1)) (sN (rowC sg 1) + 5 + reN (rowC sg 1)) (k - sN (rowC sg 1))))), (3, .int (nI (sN (rowC sg 1) + 5 + reN (rowC sg 1)))), (0, .ref (ad w 1)), (1, .int (nI 1)), (2, .int cts)]) (by decide) rfl dX3_turnOnce_199 ?_
                  refine g_iload C 0 rfl dX3_turnOnce_201 ?_
                  refine g_if_eq C (tgt := 216) (by decide) dX3_turnOnce_203 (fun h203 => absurd h203 (by decide)) (fun h203 => ?_)
                  refine g_aload_n C 4 rfl rfl dX3_turnOnce_206 ?_
                  refine g_dup C rfl dX3_turnOnce_207 ?_
                  refine g_getI C (j := 6) cls3 e_1 rfl (by decide) fl_X3_31 dX3_turnOnce_208 ?_
                  refine g_top (y := (sg 1 6)) rfl ?_
                  refine g_iconst C (v := (nI 1)) (by decide) dX3_turnOnce_211 ?_
                  refine g_iadd C dX3_turnOnce_212 ?_
                  refine g_putI C (j := 6) cls3 e_1 rfl (by decide) rfl rfl fl_X3_31 dX3_turnOnce_213 ?_
                  refine g_sgE (sg' := (us (us (us sg 4 (emb 0 (tw true (wN (rowC sg 1)) (gN (rowC sg 1)) (sN (rowC sg 1)) (sN (rowC sg 1) + 5 + reN (rowC sg 1))) (sg 4))) 5 (upd (sg 5) (sN (rowC sg 1)) (ctI (sg 5 (sN (rowC sg 1))) cts))) 1 (upd (upd (sg 1) 7 ((sg 1 7) + (nI 1))) 6 ((sg 1 6) + (nI 1))))) us_us ?_
                  refine g_iload C 0 rfl dX3_turnOnce_216 ?_
                  exact g_zret C E dX3_turnOnce_218 (by decide +kernel) (absurd h185 (by omega)) (absurd h185 (by omega)) rfl
        ·
          refine g_iconst C (v := (nI 1)) (by decide) dX3_turnOnce_43 ?_
          refine g_goto C (tgt := 48) (by decide) dX3_turnOnce_44 ?_
          refine g_istore C (L' := [(6, .int (nI 1)), (5, .int (nI k)), (4, .int (nI (crj true (wN (rowC sg 1)) (gN (rowC sg 1)) (sN (rowC sg 1)) (sN (rowC sg 1) + 5 + reN (rowC sg 1)) (k - sN (rowC sg 1))))), (3, .int (nI (sN (rowC sg 1) + 5 + reN (rowC sg 1)))), (0, .ref (ad w 1)), (1, .int (nI 1)), (2, .int cts)]) (by decide) rfl dX3_turnOnce_48 ?_
          refine g_iload C 0 rfl dX3_turnOnce_50 ?_
          refine g_if_ne C (tgt := 69) (by decide) dX3_turnOnce_52 (fun h52 => ?_) (fun h52 => absurd h52 (by decide))
          refine g_aload_n C 4 rfl rfl dX3_turnOnce_69 ?_
          refine g_getR C (j := 2) cls3 e_1 rfl (by decide) fl_X3_18 dX3_turnOnce_70 ?_
          refine g_iload C 1 rfl dX3_turnOnce_73 ?_
          refine g_ialdN C k e_4 (by omega) (by decide) dX3_turnOnce_75 ?_
          refine g_top (y := ((emb 0 (q3 true (wN (rowC sg 1)) (gN (rowC sg 1)) (sN (rowC sg 1)) (sN (rowC sg 1) + 5 + reN (rowC sg 1)) k) (sg 4)) k)) rfl ?_
          have h9 := emb_in (b := 0) (v := q3 true (wN (rowC sg 1)) (gN (rowC sg 1)) (sN (rowC sg 1)) (sN (rowC sg 1) + 5 + reN (rowC sg 1)) k) (old := sg 4) (k := k) (by omega)
          rw [Nat.zero_add, q3_at] at h9
          have hwk := hw9 k (by omega)
          refine g_top (y := nI (wN (rowC sg 1) k)) h9 ?_
          refine g_iload_n C 5 rfl rfl dX3_turnOnce_76 ?_
          refine g_iload C 0 rfl dX3_turnOnce_77 ?_
          refine g_if_eq C (tgt := 96) (by decide) dX3_turnOnce_79 (fun h79 => absurd h79 (by decide)) (fun h79 => ?_)
          refine g_aload_n C 4 rfl rfl dX3_turnOnce_82 ?_
          refine g_iload C 1 rfl dX3_turnOnce_83 ?_
          refine g_aload_n C 4 rfl rfl dX3_turnOnce_85 ?_
          refine g_getI C (j := 4) cls3 e_1 rfl (by decide) fl_X3_24 dX3_turnOnce_86 ?_
          refine g_top (y := (nI (sN (rowC sg 1)))) hs ?_
          refine g_isub C dX3_turnOnce_89 ?_
          refine g_top (y := (nI (k - sN (rowC sg 1)))) (by first | rfl | exact pk_sub (by omega)) ?_
          refine g_callV1 [.int (nI 1), .int (nI (wN (rowC sg 1) k))] C (c_X3_given w tu (us sg 4 (emb 0 (q3 true (wN (rowC sg 1)) (gN (rowC sg 1)) (sN (rowC sg 1)) (sN (rowC sg 1) + 5 + reN (rowC sg 1)) k) (sg 4))) (k - sN (rowC sg 1)) (dN (rowC sg 1) (k - sN (rowC sg 1))) (oN (rowC sg 1) (k - sN (rowC sg 1))) (by omega) ((rowC_d (sg := sg) (w := 1) (by omega)).symm.trans (hok.1 (k - sN (rowC sg 1)) (by omega)).1) (hok.1 (k - sN (rowC sg 1)) (by omega)).2 ((rowC_o (sg := sg) (w := 1) (by omega)).symm.trans (hok.2.1 (k - sN (rowC sg 1)) (by omega)).1) (hok.2.1 (k - sN (rowC sg 1)) (by omega)).2.1 (hok.2.1 (k - sN (rowC sg 1)) (by omega)).2.2) mt_X3_given e_1 rfl ml_X3_114 im_X3_given se_X3_given (by decide) rfl (Nat.le_of_ble_eq_true rfl) dX3_turnOnce_90 ?_
          refine g_eq (L' := [(6, .int (nI 1)), (5, .int (nI k)), (4, .int (nI (crj true (wN (rowC sg 1)) (gN (rowC sg 1)) (sN (rowC sg 1)) (sN (rowC sg 1) + 5 + reN (rowC sg 1)) (k - sN (rowC sg 1))))), (3, .int (nI (sN (rowC sg 1) + 5 + reN (rowC sg 1)))), (0, .ref (ad w 1)), (1, .int (nI 1)), (2, .int cts)]) (S' := [.int (whX (nI (oN (rowC sg 1) (k - sN (rowC sg 1)))) ((dN (rowC sg 1) (k - sN (rowC sg 1))) + 1)), .int (nI 1), .int (nI (wN (rowC sg 1) k))]) rfl rfl rfl rfl ?_
          have hgk := hg9 (k - sN (rowC sg 1)) (by omega)
          refine g_top (y := (nI (gN (rowC sg 1) (k - sN (rowC sg 1))))) (gN_C hok (by omega)) ?_
          refine g_goto C (tgt := 97) (by decide) dX3_turnOnce_93 ?_
          refine g_iload C 2 rfl dX3_turnOnce_97 ?_
          refine g_iadd C dX3_turnOnce_99 ?_
          refine g_top (y := (nI ((gN (rowC sg 1) (k - sN (rowC sg 1))) + (crj true (wN (rowC sg 1)) (gN (rowC sg 1)) (sN (rowC sg 1)) (sN (rowC sg 1) + 5 + reN (rowC sg 1)) (k - sN (rowC sg 1)))))) (nI_add (gN (rowC sg 1) (k - sN (rowC sg 1))) (crj true (wN (rowC sg 1)) (gN (rowC sg 1)) (sN (rowC sg 1)) (sN (rowC sg 1) + 5 + reN (rowC sg 1)) (k - sN (rowC sg 1)))) ?_
          refine g_top (y := (nI (gN (rowC sg 1) (k - sN (rowC sg 1)) + crj true (wN (rowC sg 1)) (gN (rowC sg 1)) (sN (rowC sg 1)) (sN (rowC sg 1) + 5 + reN (rowC sg 1)) (k - sN (rowC sg 1))))) (by first | rfl | exact congrArg nI (by omega) | exact nI_add _ _) ?_
          refine g_imul C dX3_turnOnce_100 ?_
          refine g_top (y := (nI (gN (rowC sg 1) (k - sN (rowC sg 1)) + crj true (wN (rowC sg 1)) (gN (rowC sg 1)) (sN (rowC sg 1)) (sN (rowC sg 1) + 5 + reN (rowC sg 1)) (k - sN (rowC sg 1))))) (by rw [pk_mul, Nat.one_mul]) ?_
          refine g_iadd C dX3_turnOnce_101 ?_
          refine g_top (y := (nI ((wN (rowC sg 1) k) + (gN (rowC sg 1) (k - sN (rowC sg 1)) + crj true (wN (rowC sg 1)) (gN (rowC sg 1)) (sN (rowC sg 1)) (sN (rowC sg 1) + 5 + reN (rowC sg 1)) (k - sN (rowC sg 1)))))) (nI_add (wN (rowC sg 1) k) (gN (rowC sg 1) (k - sN (rowC sg 1)) + crj true (wN (rowC sg 1)) (gN (rowC sg 1)) (sN (rowC sg 1)) (sN (rowC sg 1) + 5 + reN (rowC sg 1)) (k - sN (rowC sg 1)))) ?_
          refine g_top (y := (nI (wN (rowC sg 1) k + (gN (rowC sg 1) (k - sN (rowC sg 1)) + crj true (wN (rowC sg 1)) (gN (rowC sg 1)) (sN (rowC sg 1)) (sN (rowC sg 1) + 5 + reN (rowC sg 1)) (k - sN (rowC sg 1)))))) (congrArg nI (by omega)) ?_
          refine g_istore C (L' := [(7, .int (nI (wN (rowC sg 1) k + (gN (rowC sg 1) (k - sN (rowC sg 1)) + crj true (wN (rowC sg 1)) (gN (rowC sg 1)) (sN (rowC sg 1)) (sN (rowC sg 1) + 5 + reN (rowC sg 1)) (k - sN (rowC sg 1)))))), (6, .int (nI 1)), (5, .int (nI k)), (4, .int (nI (crj true (wN (rowC sg 1)) (gN (rowC sg 1)) (sN (rowC sg 1)) (sN (rowC sg 1) + 5 + reN (rowC sg 1)) (k - sN (rowC sg 1))))), (3, .int (nI (sN (rowC sg 1) + 5 + reN (rowC sg 1)))), (0, .ref (ad w 1)), (1, .int (nI 1)), (2, .int cts)]) (by decide) rfl dX3_turnOnce_102 ?_
          refine g_iload C 0 rfl dX3_turnOnce_104 ?_
          refine g_if_lt C (tgt := 116) (by decide) dX3_turnOnce_106 (fun h106 => absurd h106 (Int32.not_lt.mpr (nI_pos' (by omega)))) (fun h106 => ?_)
          refine g_iload C 0 rfl dX3_turnOnce_109 ?_
          refine g_bipush C (v := (nI 9)) (by decide) dX3_turnOnce_111 ?_
          refine g_icmpN_le C (wN (rowC sg 1) k + (gN (rowC sg 1) (k - sN (rowC sg 1)) + crj true (wN (rowC sg 1)) (gN (rowC sg 1)) (sN (rowC sg 1)) (sN (rowC sg 1) + 5 + reN (rowC sg 1)) (k - sN (rowC sg 1)))) 9 (by omega) (by omega) (tgt := 120) (by decide) dX3_turnOnce_113 (fun h113 => ?_) (fun h113 => ?_)
          ·
            refine g_iconst C (v := (nI 0)) (by decide) dX3_turnOnce_120 ?_
            refine g_istore C (L' := [(4, .int (nI 0)), (7, .int (nI (wN (rowC sg 1) k + (gN (rowC sg 1) (k - sN (rowC sg 1)) + crj true (wN (rowC sg 1)) (gN (rowC sg 1)) (sN (rowC sg 1)) (sN (rowC sg 1) + 5 + reN (rowC sg 1)) (k - sN (rowC sg 1)))))), (6, .int (nI 1)), (5, .int (nI k)), (3, .int (nI (sN (rowC sg 1) + 5 + reN (rowC sg 1)))), (0, .ref (ad w 1)), (1, .int (nI 1)), (2, .int cts)]) (by decide) rfl dX3_turnOnce_121 ?_
            refine g_aload_n C 5 rfl rfl dX3_turnOnce_123 ?_
            refine g_getR C (j := 2) cls3 e_1 rfl (by decide) fl_X3_18 dX3_turnOnce_124 ?_
            refine g_iload C 3 rfl dX3_turnOnce_127 ?_
            refine g_iload C 1 rfl dX3_turnOnce_129 ?_
            refine g_iload_n C 6 rfl rfl dX3_turnOnce_131 ?_
            refine g_bipush C (v := (nI 10)) (by decide) dX3_turnOnce_132 ?_
            refine g_imul C dX3_turnOnce_134 ?_
            refine g_top (y := (nI 10)) (pk_mul 1 10) ?_
            refine g_iload C 0 rfl dX3_turnOnce_135 ?_
            refine g_imul C dX3_turnOnce_137 ?_
            refine g_top (y := (nI 0)) (pk_mul 10 0) ?_
            refine g_isub C dX3_turnOnce_138 ?_
            refine g_top (y := (nI (stp true (wN (rowC sg 1) k) (gN (rowC sg 1) (k - sN (rowC sg 1)) + crj true (wN (rowC sg 1)) (gN (rowC sg 1)) (sN (rowC sg 1)) (sN (rowC sg 1) + 5 + reN (rowC sg 1)) (k - sN (rowC sg 1)))))) (by simp only [stp, if_true]; rw [if_neg (by omega)]; first | rfl | exact pk_sub (by omega)) ?_
            refine g_iastN C k e_4 (by omega) (by decide) dX3_turnOnce_139 ?_
            refine g_sgE (sg' := (us sg 4 (upd (emb 0 (q3 true (wN (rowC sg 1)) (gN (rowC sg 1)) (sN (rowC sg 1)) (sN (rowC sg 1) + 5 + reN (rowC sg 1)) k) (sg 4)) k (nI (stp true (wN (rowC sg 1) k) (gN (rowC sg 1) (k - sN (rowC sg 1)) + crj true (wN (rowC sg 1)) (gN (rowC sg 1)) (sN (rowC sg 1)) (sN (rowC sg 1) + 5 + reN (rowC sg 1)) (k - sN (rowC sg 1)))))))) us_us ?_
            refine g_iinc C (n := 1) (v := (nI (k + 1))) (L' := [(5, .int (nI (k + 1))), (4, .int (nI 0)), (7, .int (nI (wN (rowC sg 1) k + (gN (rowC sg 1) (k - sN (rowC sg 1)) + crj true (wN (rowC sg 1)) (gN (rowC sg 1)) (sN (rowC sg 1)) (sN (rowC sg 1) + 5 + reN (rowC sg 1)) (k - sN (rowC sg 1)))))), (6, .int (nI 1)), (3, .int (nI (sN (rowC sg 1) + 5 + reN (rowC sg 1)))), (0, .ref (ad w 1)), (1, .int (nI 1)), (2, .int cts)]) 3 rfl (nI_add k 1) (by decide) rfl dX3_turnOnce_140 ?_
            refine g_goto C (tgt := 24) (by decide) dX3_turnOnce_143 ?_
            have hcr : crj true (wN (rowC sg 1)) (gN (rowC sg 1)) (sN (rowC sg 1)) (sN (rowC sg 1) + 5 + reN (rowC sg 1)) (k + 1 - sN (rowC sg 1)) = 0 := (crj_u (by omega) (by omega) (by omega)).trans (by simp only [cry, if_true]; exact if_neg (by omega))
            refine g_sub (L' := [(5, .int (nI (k + 1))), (4, .int (nI 0)), (3, .int (nI (sN (rowC sg 1) + 5 + reN (rowC sg 1)))), (0, .ref (ad w 1)), (1, .int (nI 1)), (2, .int cts)]) [0, 1, 4, 5, 6, 7] rfl ?_
            refine g_eq (L' := [(5, .int (nI (k + 1))), (4, .int (nI (crj true (wN (rowC sg 1)) (gN (rowC sg 1)) (sN (rowC sg 1)) (sN (rowC sg 1) + 5 + reN (rowC sg 1)) ((k + 1) - sN (rowC sg 1))))), (3, .int (nI (sN (rowC sg 1) + 5 + reN (rowC sg 1)))), (0, .ref (ad w 1)), (1, .int (nI 1)), (2, .int cts)]) rfl rfl (by rw [hcr]) rfl ?_
            refine g_sgE (sg' := (us sg 4 (emb 0 (q3 true (wN (rowC sg 1)) (gN (rowC sg 1)) (sN (rowC sg 1)) (sN (rowC sg 1) + 5 + reN (rowC sg 1)) (k + 1)) (sg 4)))) (congrArg (us sg 4) (emb_upd0 (by omega) (q3_k.trans (tw_u (by omega) (by omega) (by omega))) (fun m _ hm => q3_n hm))) ?_
            exact ih (k + 1) (by omega) (by omega) (by omega)
          ·
            refine g_iconst C (v := (nI 1)) (by decide) dX3_turnOnce_116 ?_
            refine g_goto C (tgt := 121) (by decide) dX3_turnOnce_117 ?_
            refine g_istore C (L' := [(4, .int (nI 1)), (7, .int (nI (wN (rowC sg 1) k + (gN (rowC sg 1) (k - sN (rowC sg 1)) + crj true (wN (rowC sg 1)) (gN (rowC sg 1)) (sN (rowC sg 1)) (sN (rowC sg 1) + 5 + reN (rowC sg 1)) (k - sN (rowC sg 1)))))), (6, .int (nI 1)), (5, .int (nI k)), (3, .int (nI (sN (rowC sg 1) + 5 + reN (rowC sg 1)))), (0, .ref (ad w 1)), (1, .int (nI 1)), (2, .int cts)]) (by decide) rfl dX3_turnOnce_121 ?_
            refine g_aload_n C 5 rfl rfl dX3_turnOnce_123 ?_
            refine g_getR C (j := 2) cls3 e_1 rfl (by decide) fl_X3_18 dX3_turnOnce_124 ?_
            refine g_iload C 3 rfl dX3_turnOnce_127 ?_
            refine g_iload C 1 rfl dX3_turnOnce_129 ?_
            refine g_iload_n C 6 rfl rfl dX3_turnOnce_131 ?_
            refine g_bipush C (v := (nI 10)) (by decide) dX3_turnOnce_132 ?_
            refine g_imul C dX3_turnOnce_134 ?_
            refine g_top (y := (nI 10)) (pk_mul 1 10) ?_
            refine g_iload C 0 rfl dX3_turnOnce_135 ?_
            refine g_imul C dX3_turnOnce_137 ?_
            refine g_top (y := (nI 10)) (pk_mul 10 1) ?_
            refine g_isub C dX3_turnOnce_138 ?_
            refine g_top (y := (nI (stp true (wN (rowC sg 1) k) (gN (rowC sg 1) (k - sN (rowC sg 1)) + crj true (wN (rowC sg 1)) (gN (rowC sg 1)) (sN (rowC sg 1)) (sN (rowC sg 1) + 5 + reN (rowC sg 1)) (k - sN (rowC sg 1)))))) (by simp only [stp, if_true]; rw [if_pos (by omega)]; exact pk_sub (by omega)) ?_
            refine g_iastN C k e_4 (by omega) (by decide) dX3_turnOnce_139 ?_
            refine g_sgE (sg' := (us sg 4 (upd (emb 0 (q3 true (wN (rowC sg 1)) (gN (rowC sg 1)) (sN (rowC sg 1)) (sN (rowC sg 1) + 5 + reN (rowC sg 1)) k) (sg 4)) k (nI (stp true (wN (rowC sg 1) k) (gN (rowC sg 1) (k - sN (rowC sg 1)) + crj true (wN (rowC sg 1)) (gN (rowC sg 1)) (sN (rowC sg 1)) (sN (rowC sg 1) + 5 + reN (rowC sg 1)) (k - sN (rowC sg 1)))))))) us_us ?_
            refine g_iinc C (n := 1) (v := (nI (k + 1))) (L' := [(5, .int (nI (k + 1))), (4, .int (nI 1)), (7, .int (nI (wN (rowC sg 1) k + (gN (rowC sg 1) (k - sN (rowC sg 1)) + crj true (wN (rowC sg 1)) (gN (rowC sg 1)) (sN (rowC sg 1)) (sN (rowC sg 1) + 5 + reN (rowC sg 1)) (k - sN (rowC sg 1)))))), (6, .int (nI 1)), (3, .int (nI (sN (rowC sg 1) + 5 + reN (rowC sg 1)))), (0, .ref (ad w 1)), (1, .int (nI 1)), (2, .int cts)]) 3 rfl (nI_add k 1) (by decide) rfl dX3_turnOnce_140 ?_
            refine g_goto C (tgt := 24) (by decide) dX3_turnOnce_143 ?_
            have hcr : crj true (wN (rowC sg 1)) (gN (rowC sg 1)) (sN (rowC sg 1)) (sN (rowC sg 1) + 5 + reN (rowC sg 1)) (k + 1 - sN (rowC sg 1)) = 1 := (crj_u (by omega) (by omega) (by omega)).trans (by simp only [cry, if_true]; exact if_pos (by omega))
            refine g_sub (L' := [(5, .int (nI (k + 1))), (4, .int (nI 1)), (3, .int (nI (sN (rowC sg 1) + 5 + reN (rowC sg 1)))), (0, .ref (ad w 1)), (1, .int (nI 1)), (2, .int cts)]) [0, 1, 4, 5, 6, 7] rfl ?_
            refine g_eq (L' := [(5, .int (nI (k + 1))), (4, .int (nI (crj true (wN (rowC sg 1)) (gN (rowC sg 1)) (sN (rowC sg 1)) (sN (rowC sg 1) + 5 + reN (rowC sg 1)) ((k + 1) - sN (rowC sg 1))))), (3, .int (nI (sN (rowC sg 1) + 5 + reN (rowC sg 1)))), (0, .ref (ad w 1)), (1, .int (nI 1)), (2, .int cts)]) rfl rfl (by rw [hcr]) rfl ?_
            refine g_sgE (sg' := (us sg 4 (emb 0 (q3 true (wN (rowC sg 1)) (gN (rowC sg 1)) (sN (rowC sg 1)) (sN (rowC sg 1) + 5 + reN (rowC sg 1)) (k + 1)) (sg 4)))) (congrArg (us sg 4) (emb_upd0 (by omega) (q3_k.trans (tw_u (by omega) (by omega) (by omega))) (fun m _ hm => q3_n hm))) ?_
            exact ih (k + 1) (by omega) (by omega) (by omega)
  refine g_sgE (sg' := (us sg 4 (emb 0 (q3 true (wN (rowC sg 1)) (gN (rowC sg 1)) (sN (rowC sg 1)) (sN (rowC sg 1) + 5 + reN (rowC sg 1)) (sN (rowC sg 1))) (sg 4)))) (by rw [hemb0, us_id]) ?_
  refine g_eq (L' := [(5, .int (nI (sN (rowC sg 1)))), (4, .int (nI (crj true (wN (rowC sg 1)) (gN (rowC sg 1)) (sN (rowC sg 1)) (sN (rowC sg 1) + 5 + reN (rowC sg 1)) ((sN (rowC sg 1)) - sN (rowC sg 1))))), (3, .int (nI (sN (rowC sg 1) + 5 + reN (rowC sg 1)))), (0, .ref (ad w 1)), (1, .int (nI 1)), (2, .int cts)]) rfl rfl (by rw [Nat.sub_self]; rfl) rfl ?_
  exact lp 13 (sN (rowC sg 1)) (by omega) (by omega) (Nat.le_refl _)
set_option maxRecDepth 100000 in
set_option maxHeartbeats 400000 in
theorem c_X3_turnOnce_dn (w : GW) (tu : Int64) (sg : Sg) (cts : Int32) (hok : ROk (rowC sg 1)) : Kt w yX3_turnOnce cX3_turnOnce 8 (some .boolean) 2 [.ref (ad w 1), .int (-1), .int cts] sg tu (some (.int (bI (blP false (wN (rowC sg 1)) (gN (rowC sg 1)) (sN (rowC sg 1)) (sN (rowC sg 1) + 5 + reN (rowC sg 1)))))) (wrR sg 1 (tR false cts (gN (rowC sg 1)) (rowC sg 1))) tu := by
  refine Kt.of2 RX3 rfl [(0, .ref (ad w 1)), (1, .int (-1)), (2, .int cts)] (by decide) rfl (Nat.le_of_ble_eq_true rfl) (fun z C E => ?_)
  have hs : sg 1 4 = nI (sN (rowC sg 1)) := (rowC_f (sg := sg) (w := 1) (j := 4) (by omega)).symm.trans hok.2.2.2.1.1
  have hre : sg 1 5 = nI (reN (rowC sg 1)) := (rowC_f (sg := sg) (w := 1) (j := 5) (by omega)).symm.trans hok.2.2.2.2.1
  have hs6 : sN (rowC sg 1) ≤ 6 := hok.2.2.2.1.2
  have hr12 : reN (rowC sg 1) ≤ 12 := hok.2.2.2.2.2
  have hw9 : ∀ k, k < 12 → wN (rowC sg 1) k ≤ 9 := fun k hk => (hok.2.2.1 k hk).2
  have hg9 : ∀ k, k < 6 → gN (rowC sg 1) k ≤ 9 := fun k hk => (gN_ok hok hk).2
  have hemb0 : emb 0 (q3 false (wN (rowC sg 1)) (gN (rowC sg 1)) (sN (rowC sg 1)) (sN (rowC sg 1) + 5 + reN (rowC sg 1)) (sN (rowC sg 1))) (sg 4) = sg 4 := by
    funext j
    unfold emb
    split
    · rename_i hj
      rw [q3_0, Nat.sub_zero, ← (hok.2.2.1 j (by omega)).1]
      exact rowC_w (sg := sg) (w := 1) (by omega)
    · rfl
  refine g_aload_n C 0 rfl rfl dX3_turnOnce_0 ?_
  refine g_getI C (j := 4) cls3 e_1 rfl (by decide) fl_X3_24 dX3_turnOnce_1 ?_
  refine g_top (y := (nI (sN (rowC sg 1)))) hs ?_
  refine g_bipush C (v := (nI 6)) (by decide) dX3_turnOnce_4 ?_
  refine g_iadd C dX3_turnOnce_6 ?_
  refine g_top (y := (nI ((sN (rowC sg 1)) + 6))) (nI_add (sN (rowC sg 1)) 6) ?_
  refine g_iconst C (v := (nI 1)) (by decide) dX3_turnOnce_7 ?_
  refine g_isub C dX3_turnOnce_8 ?_
  refine g_aload_n C 0 rfl rfl dX3_turnOnce_9 ?_
  refine g_getI C (j := 5) cls3 e_1 rfl (by decide) fl_X3_28 dX3_turnOnce_10 ?_
  refine g_top (y := (nI (reN (rowC sg 1)))) hre ?_
  refine g_iadd C dX3_turnOnce_13 ?_
  refine g_top (y := (nI (sN (rowC sg 1) + 5 + reN (rowC sg 1)))) (by first | rfl | exact congrArg nI (by omega) | (rw [pk_sub (by omega), nI_add]; exact congrArg nI (by omega))) ?_
  refine g_istore_n C (L' := [(3, .int (nI (sN (rowC sg 1) + 5 + reN (rowC sg 1)))), (0, .ref (ad w 1)), (1, .int (-1)), (2, .int cts)]) rfl (by decide) rfl dX3_turnOnce_14 ?_
  refine g_iconst C (v := (nI 0)) (by decide) dX3_turnOnce_15 ?_
  refine g_istore C (L' := [(4, .int (nI 0)), (3, .int (nI (sN (rowC sg 1) + 5 + reN (rowC sg 1)))), (0, .ref (ad w 1)), (1, .int (-1)), (2, .int cts)]) (by decide) rfl dX3_turnOnce_16 ?_
  refine g_aload_n C 2 rfl rfl dX3_turnOnce_18 ?_
  refine g_getI C (j := 4) cls3 e_1 rfl (by decide) fl_X3_24 dX3_turnOnce_19 ?_
  refine g_top (y := (nI (sN (rowC sg 1)))) hs ?_
  refine g_istore C (L' := [(5, .int (nI (sN (rowC sg 1)))), (4, .int (nI 0)), (3, .int (nI (sN (rowC sg 1) + 5 + reN (rowC sg 1)))), (0, .ref (ad w 1)), (1, .int (-1)), (2, .int cts)]) (by decide) rfl dX3_turnOnce_22 ?_
  have lp : ∀ (nf k : Nat), 12 < k + nf → k ≤ 12 → sN (rowC sg 1) ≤ k → G z w 8 (us sg 4 (emb 0 (q3 false (wN (rowC sg 1)) (gN (rowC sg 1)) (sN (rowC sg 1)) (sN (rowC sg 1) + 5 + reN (rowC sg 1)) k) (sg 4))) tu 24 [(5, .int (nI k)), (4, .int (nI (crj false (wN (rowC sg 1)) (gN (rowC sg 1)) (sN (rowC sg 1)) (sN (rowC sg 1) + 5 + reN (rowC sg 1)) (k - sN (rowC sg 1))))), (3, .int (nI (sN (rowC sg 1) + 5 + reN (rowC sg 1)))), (0, .ref (ad w 1)), (1, .int (-1)), (2, .int cts)] [] := by
    intro nf
    induction nf with
    | zero => intro k h1 h2 h3; exact absurd h1 (by omega)
    | succ nf ih =>
      intro k h1 h2 h3
      have hcl := crj_le (up := false) (wh := wN (rowC sg 1)) (g := gN (rowC sg 1)) (s := sN (rowC sg 1)) (last := (sN (rowC sg 1) + 5 + reN (rowC sg 1))) (j := k - sN (rowC sg 1))
      refine g_iload C 0 rfl dX3_turnOnce_24 ?_
      refine g_bipush C (v := (nI 12)) (by decide) dX3_turnOnce_26 ?_
      refine g_icmpN_ge C k 12 (by omega) (by omega) (tgt := 146) (by decide) dX3_turnOnce_28 (fun h28 => ?_) (fun h28 => ?_)
      ·
        have hkN : 12 = k := by omega
        subst hkN
        refine g_sgE (sg' := (us sg 4 (emb 0 (tw false (wN (rowC sg 1)) (gN (rowC sg 1)) (sN (rowC sg 1)) (sN (rowC sg 1) + 5 + reN (rowC sg 1))) (sg 4)))) (congrArg (us sg 4) (emb_eq (fun m hm => q3_12 hm))) ?_
        refine g_aload_n C 3 rfl rfl dX3_turnOnce_146 ?_
        refine g_getR C (j := 3) cls3 e_1 rfl (by decide) fl_X3_21 dX3_turnOnce_147 ?_
        refine g_aload_n C 3 rfl rfl dX3_turnOnce_150 ?_
        refine g_getI C (j := 4) cls3 e_1 rfl (by decide) fl_X3_24 dX3_turnOnce_151 ?_
        refine g_top (y := (nI (sN (rowC sg 1)))) hs ?_
        refine g_aload_n C 3 rfl rfl dX3_turnOnce_154 ?_
        refine g_getR C (j := 3) cls3 e_1 rfl (by decide) fl_X3_21 dX3_turnOnce_155 ?_
        refine g_aload_n C 3 rfl rfl dX3_turnOnce_158 ?_
        refine g_getI C (j := 4) cls3 e_1 rfl (by decide) fl_X3_24 dX3_turnOnce_159 ?_
        refine g_top (y := (nI (sN (rowC sg 1)))) hs ?_
        refine g_ialdN C (sN (rowC sg 1)) e_5 (by omega) (by decide) dX3_turnOnce_162 ?_
        refine g_top (y := (sg 5 (sN (rowC sg 1)))) rfl ?_
        refine g_iload_n C 5 rfl rfl dX3_turnOnce_163 ?_
        refine g_iadd C dX3_turnOnce_164 ?_
        refine g_bipush C (v := (nI 10)) (by decide) dX3_turnOnce_165 ?_
        refine g_iadd C dX3_turnOnce_167 ?_
        refine g_bipush C (v := (nI 10)) (by decide) dX3_turnOnce_168 ?_
        refine g_irem C (by decide) dX3_turnOnce_170 ?_
        refine g_top (y := ctI (sg 5 (sN (rowC sg 1))) cts) rfl ?_
        refine g_iastN C (sN (rowC sg 1)) e_5 (by omega) (by decide) dX3_turnOnce_171 ?_
        refine g_sgE (sg' := (us (us sg 4 (emb 0 (tw false (wN (rowC sg 1)) (gN (rowC sg 1)) (sN (rowC sg 1)) (sN (rowC sg 1) + 5 + reN (rowC sg 1))) (sg 4))) 5 (upd (sg 5) (sN (rowC sg 1)) (ctI (sg 5 (sN (rowC sg 1))) cts)))) rfl ?_
        refine g_aload_n C 3 rfl rfl dX3_turnOnce_172 ?_
        refine g_dup C rfl dX3_turnOnce_173 ?_
        refine g_getI C (j := 7) cls3 e_1 rfl (by decide) fl_X3_34 dX3_turnOnce_174 ?_
        refine g_top (y := (sg 1 7)) rfl ?_
        refine g_iconst C (v := (nI 1)) (by decide) dX3_turnOnce_177 ?_
        refine g_iadd C dX3_turnOnce_178 ?_
        refine g_putI C (j := 7) cls3 e_1 rfl (by decide) rfl rfl fl_X3_34 dX3_turnOnce_179 ?_
        refine g_sgE (sg' := (us (us (us sg 4 (emb 0 (tw false (wN (rowC sg 1)) (gN (rowC sg 1)) (sN (rowC sg 1)) (sN (rowC sg 1) + 5 + reN (rowC sg 1))) (sg 4))) 5 (upd (sg 5) (sN (rowC sg 1)) (ctI (sg 5 (sN (rowC sg 1))) cts))) 1 (upd (sg 1) 7 ((sg 1 7) + (nI 1))))) rfl ?_
        refine g_iload C 1 rfl dX3_turnOnce_182 ?_
        refine g_iconst C (v := (nI 1)) (by decide) dX3_turnOnce_184 ?_
        refine g_icmpN_ne C (crj false (wN (rowC sg 1)) (gN (rowC sg 1)) (sN (rowC sg 1)) (sN (rowC sg 1) + 5 + reN (rowC sg 1)) (12 - sN (rowC sg 1))) 1 (by omega) (by omega) (tgt := 198) (by decide) dX3_turnOnce_185 (fun h185 => ?_) (fun h185 => ?_)
        ·
          refine g_iconst C (v := (nI 0)) (by decide) dX3_turnOnce_198 ?_
          refine g_istore C (L' := [(5, .int (nI 0)), (4, .int (nI (crj false (wN (rowC sg 1)) (gN (rowC sg 1)) (sN (rowC sg 1)) (sN (rowC sg 1) + 5 + reN (rowC sg 1)) (12 - sN (rowC sg 1))))), (3, .int (nI (sN (rowC sg 1) + 5 + reN (rowC sg 1)))), (0, .ref (ad w 1)), (1, .int (-1)), (2, .int cts)]) (by decide) rfl dX3_turnOnce_199 ?_
          refine g_iload C 0 rfl dX3_turnOnce_201 ?_
          refine g_if_eq C (tgt := 216) (by decide) dX3_turnOnce_203 (fun h203 => ?_) (fun h203 => absurd h203 (by decide))
          refine g_iload C 0 rfl dX3_turnOnce_216 ?_
          exact g_zret C E dX3_turnOnce_218 (by decide +kernel) (bI_f (fun q => h185 q.1)).symm (sq_tR hs6 (fun j hj => by first | exact upd_ne (by omega) | exact (upd_ne (by omega)).trans (upd_ne (by omega))) (by rw [bI_f (fun q => h185 q.1)]; exact (Int32.add_zero _).symm) rfl rfl rfl rfl rfl (fun k hk => by rw [us_ne (by omega), us_ne (by omega), us_ne (by omega)])) rfl
        ·
          refine g_bipush C (v := (nI 12)) (by decide) dX3_turnOnce_188 ?_
          refine g_iload_n C 2 rfl rfl dX3_turnOnce_190 ?_
          refine g_icmpN_gt C 12 (sN (rowC sg 1) + 5 + reN (rowC sg 1)) (by omega) (by omega) (tgt := 198) (by decide) dX3_turnOnce_191 (fun h191 => ?_) (fun h191 => ?_)
          ·
            refine g_iconst C (v := (nI 0)) (by decide) dX3_turnOnce_198 ?_
            refine g_istore C (L' := [(5, .int (nI 0)), (4, .int (nI (crj false (wN (rowC sg 1)) (gN (rowC sg 1)) (sN (rowC sg 1)) (sN (rowC sg 1) + 5 + reN (rowC sg 1)) (12 - sN (rowC sg 1))))), (3, .int (nI (sN (rowC sg 1) + 5 + reN (rowC sg 1)))), (0, .ref (ad w 1)), (1, .int (-1)), (2, .int cts)]) (by decide) rfl dX3_turnOnce_199 ?_
            refine g_iload C 0 rfl dX3_turnOnce_201 ?_
            refine g_if_eq C (tgt := 216) (by decide) dX3_turnOnce_203 (fun h203 => ?_) (fun h203 => absurd h203 (by decide))
            refine g_iload C 0 rfl dX3_turnOnce_216 ?_
            exact g_zret C E dX3_turnOnce_218 (by decide +kernel) (bI_f (fun q => absurd q.2 (by omega))).symm (sq_tR hs6 (fun j hj => by first | exact upd_ne (by omega) | exact (upd_ne (by omega)).trans (upd_ne (by omega))) (by rw [bI_f (fun q => absurd q.2 (by omega))]; exact (Int32.add_zero _).symm) rfl rfl rfl rfl rfl (fun k hk => by rw [us_ne (by omega), us_ne (by omega), us_ne (by omega)])) rfl
          ·
            refine g_iconst C (v := (nI 1)) (by decide) dX3_turnOnce_194 ?_
            refine g_goto C (tgt := 199) (by decide) dX3_turnOnce_195 ?_
            refine g_istore C (L' := [(5, .int (nI 1)), (4, .int (nI (crj false (wN (rowC sg 1)) (gN (rowC sg 1)) (sN (rowC sg 1)) (sN (rowC sg 1) + 5 + reN (rowC sg 1)) (12 - sN (rowC sg 1))))), (3, .int (nI (sN (rowC sg 1) + 5 + reN (rowC sg 1)))), (0, .ref (ad w 1)), (1, .int (-1)), (2, .int cts)]) (by decide) rfl dX3_turnOnce_199 ?_
            refine g_iload C 0 rfl dX3_turnOnce_201 ?_
            refine g_if_eq C (tgt := 216) (by decide) dX3_turnOnce_203 (fun h203 => absurd h203 (by decide)) (fun h203 => ?_)
            refine g_aload_n C 3 rfl rfl dX3_turnOnce_206 ?_
            refine g_dup C rfl dX3_turnOnce_207 ?_
            refine g_getI C (j := 6) cls3 e_1 rfl (by decide) fl_X3_31 dX3_turnOnce_208 ?_
            refine g_top (y := (sg 1 6)) rfl ?_
            refine g_iconst C (v := (nI 1)) (by decide) dX3_turnOnce_211 ?_
            refine g_iadd C dX3_turnOnce_212 ?_
            refine g_putI C (j := 6) cls3 e_1 rfl (by decide) rfl rfl fl_X3_31 dX3_turnOnce_213 ?_
            refine g_sgE (sg' := (us (us (us sg 4 (emb 0 (tw false (wN (rowC sg 1)) (gN (rowC sg 1)) (sN (rowC sg 1)) (sN (rowC sg 1) + 5 + reN (rowC sg 1))) (sg 4))) 5 (upd (sg 5) (sN (rowC sg 1)) (ctI (sg 5 (sN (rowC sg 1))) cts))) 1 (upd (upd (sg 1) 7 ((sg 1 7) + (nI 1))) 6 ((sg 1 6) + (nI 1))))) us_us ?_
            refine g_iload C 0 rfl dX3_turnOnce_216 ?_
            exact g_zret C E dX3_turnOnce_218 (by decide +kernel) (bI_t ⟨h185, h191⟩).symm (sq_tR hs6 (fun j hj => by first | exact upd_ne (by omega) | exact (upd_ne (by omega)).trans (upd_ne (by omega))) (by rw [bI_t ⟨h185, h191⟩]; rfl) rfl rfl rfl rfl rfl (fun k hk => by rw [us_ne (by omega), us_ne (by omega), us_ne (by omega)])) rfl
      ·
        refine g_iload C 0 rfl dX3_turnOnce_31 ?_
        refine g_aload_n C 3 rfl rfl dX3_turnOnce_33 ?_
        refine g_getI C (j := 4) cls3 e_1 rfl (by decide) fl_X3_24 dX3_turnOnce_34 ?_
        refine g_top (y := (nI (sN (rowC sg 1)))) hs ?_
        refine g_bipush C (v := (nI 6)) (by decide) dX3_turnOnce_37 ?_
        refine g_iadd C dX3_turnOnce_39 ?_
        refine g_top (y := (nI ((sN (rowC sg 1)) + 6))) (nI_add (sN (rowC sg 1)) 6) ?_
        refine g_icmpN_ge C k ((sN (rowC sg 1)) + 6) (by omega) (by omega) (tgt := 47) (by decide) dX3_turnOnce_40 (fun h40 => ?_) (fun h40 => ?_)
        ·
          refine g_iconst C (v := (nI 0)) (by decide) dX3_turnOnce_47 ?_
          refine g_istore C (L' := [(6, .int (nI 0)), (5, .int (nI k)), (4, .int (nI (crj false (wN (rowC sg 1)) (gN (rowC sg 1)) (sN (rowC sg 1)) (sN (rowC sg 1) + 5 + reN (rowC sg 1)) (k - sN (rowC sg 1))))), (3, .int (nI (sN (rowC sg 1) + 5 + reN (rowC sg 1)))), (0, .ref (ad w 1)), (1, .int (-1)), (2, .int cts)]) (by decide) rfl dX3_turnOnce_48 ?_
          refine g_iload C 0 rfl dX3_turnOnce_50 ?_
          refine g_if_ne C (tgt := 69) (by decide) dX3_turnOnce_52 (fun h52 => absurd h52 (by decide)) (fun h52 => ?_)
          refine g_iload C 2 rfl dX3_turnOnce_55 ?_
          refine g_ifN_eq C (crj false (wN (rowC sg 1)) (gN (rowC sg 1)) (sN (rowC sg 1)) (sN (rowC sg 1) + 5 + reN (rowC sg 1)) (k - sN (rowC sg 1))) (by omega) (tgt := 146) (by decide) dX3_turnOnce_57 (fun h57 => ?_) (fun h57 => ?_)
          ·
            refine g_sgE (sg' := (us sg 4 (emb 0 (tw false (wN (rowC sg 1)) (gN (rowC sg 1)) (sN (rowC sg 1)) (sN (rowC sg 1) + 5 + reN (rowC sg 1))) (sg 4)))) (congrArg (us sg 4) (emb_eq (fun m hm => q3_end hw9 (by omega) (.inl (by omega)) hm))) ?_
            have hnb := bl_tail (up := false) (g := gN (rowC sg 1)) (s := sN (rowC sg 1)) (last := (sN (rowC sg 1) + 5 + reN (rowC sg 1))) (k := k) hw9 (by omega) (by omega) (.inl (by omega))
            refine g_aload_n C 4 rfl rfl dX3_turnOnce_146 ?_
            refine g_getR C (j := 3) cls3 e_1 rfl (by decide) fl_X3_21 dX3_turnOnce_147 ?_
            refine g_aload_n C 4 rfl rfl dX3_turnOnce_150 ?_
            refine g_getI C (j := 4) cls3 e_1 rfl (by decide) fl_X3_24 dX3_turnOnce_151 ?_
            refine g_top (y := (nI (sN (rowC sg 1)))) hs ?_
            refine g_aload_n C 4 rfl rfl dX3_turnOnce_154 ?_
            refine g_getR C (j := 3) cls3 e_1 rfl (by decide) fl_X3_21 dX3_turnOnce_155 ?_
            refine g_aload_n C 4 rfl rfl dX3_turnOnce_158 ?_
            refine g_getI C (j := 4) cls3 e_1 rfl (by decide) fl_X3_24 dX3_turnOnce_159 ?_
            refine g_top (y := (nI (sN (rowC sg 1)))) hs ?_
            refine g_ialdN C (sN (rowC sg 1)) e_5 (by omega) (by decide) dX3_turnOnce_162 ?_
            refine g_top (y := (sg 5 (sN (rowC sg 1)))) rfl ?_
            refine g_iload_n C 6 rfl rfl dX3_turnOnce_163 ?_
            refine g_iadd C dX3_turnOnce_164 ?_
            refine g_bipush C (v := (nI 10)) (by decide) dX3_turnOnce_165 ?_
            refine g_iadd C dX3_turnOnce_167 ?_
            refine g_bipush C (v := (nI 10)) (by decide) dX3_turnOnce_168 ?_
            refine g_irem C (by decide) dX3_turnOnce_170 ?_
            refine g_top (y := ctI (sg 5 (sN (rowC sg 1))) cts) rfl ?_
            refine g_iastN C (sN (rowC sg 1)) e_5 (by omega) (by decide) dX3_turnOnce_171 ?_
            refine g_sgE (sg' := (us (us sg 4 (emb 0 (tw false (wN (rowC sg 1)) (gN (rowC sg 1)) (sN (rowC sg 1)) (sN (rowC sg 1) + 5 + reN (rowC sg 1))) (sg 4))) 5 (upd (sg 5) (sN (rowC sg 1)) (ctI (sg 5 (sN (rowC sg 1))) cts)))) rfl ?_
            refine g_aload_n C 4 rfl rfl dX3_turnOnce_172 ?_
            refine g_dup C rfl dX3_turnOnce_173 ?_
            refine g_getI C (j := 7) cls3 e_1 rfl (by decide) fl_X3_34 dX3_turnOnce_174 ?_
            refine g_top (y := (sg 1 7)) rfl ?_
            refine g_iconst C (v := (nI 1)) (by decide) dX3_turnOnce_177 ?_
            refine g_iadd C dX3_turnOnce_178 ?_
            refine g_putI C (j := 7) cls3 e_1 rfl (by decide) rfl rfl fl_X3_34 dX3_turnOnce_179 ?_
            refine g_sgE (sg' := (us (us (us sg 4 (emb 0 (tw false (wN (rowC sg 1)) (gN (rowC sg 1)) (sN (rowC sg 1)) (sN (rowC sg 1) + 5 + reN (rowC sg 1))) (sg 4))) 5 (upd (sg 5) (sN (rowC sg 1)) (ctI (sg 5 (sN (rowC sg 1))) cts))) 1 (upd (sg 1) 7 ((sg 1 7) + (nI 1))))) rfl ?_
            refine g_iload C 2 rfl dX3_turnOnce_182 ?_
            refine g_iconst C (v := (nI 1)) (by decide) dX3_turnOnce_184 ?_
            refine g_icmpN_ne C (crj false (wN (rowC sg 1)) (gN (rowC sg 1)) (sN (rowC sg 1)) (sN (rowC sg 1) + 5 + reN (rowC sg 1)) (k - sN (rowC sg 1))) 1 (by omega) (by omega) (tgt := 198) (by decide) dX3_turnOnce_185 (fun h185 => ?_) (fun h185 => ?_)
            ·
              refine g_iconst C (v := (nI 0)) (by decide) dX3_turnOnce_198 ?_
              refine g_istore C (L' := [(5, .int (nI 0)), (6, .int (nI 0)), (4, .int (nI (crj false (wN (rowC sg 1)) (gN (rowC sg 1)) (sN (rowC sg 1)) (sN (rowC sg 1) + 5 + reN (rowC sg 1)) (k - sN (rowC sg 1))))), (3, .int (nI (sN (rowC sg 1) + 5 + reN (rowC sg 1)))), (0, .ref (ad w 1)), (1, .int (-1)), (2, .int cts)]) (by decide) rfl dX3_turnOnce_199 ?_
              refine g_iload C 0 rfl dX3_turnOnce_201 ?_
              refine g_if_eq C (tgt := 216) (by decide) dX3_turnOnce_203 (fun h203 => ?_) (fun h203 => absurd h203 (by decide))
              refine g_iload C 0 rfl dX3_turnOnce_216 ?_
              exact g_zret C E dX3_turnOnce_218 (by decide +kernel) (bI_f hnb).symm (sq_tR hs6 (fun j hj => by first | exact upd_ne (by omega) | exact (upd_ne (by omega)).trans (upd_ne (by omega))) (by rw [bI_f hnb]; exact (Int32.add_zero _).symm) rfl rfl rfl rfl rfl (fun k hk => by rw [us_ne (by omega), us_ne (by omega), us_ne (by omega)])) rfl
            ·
              refine g_bipush C (v := (nI 12)) (by decide) dX3_turnOnce_188 ?_
              refine g_iload_n C 3 rfl rfl dX3_turnOnce_190 ?_
              refine g_icmpN_gt C 12 (sN (rowC sg 1) + 5 + reN (rowC sg 1)) (by omega) (by omega) (tgt := 198) (by decide) dX3_turnOnce_191 (fun h191 => ?_) (fun h191 => ?_)
              ·
                refine g_iconst C (v := (nI 0)) (by decide) dX3_turnOnce_198 ?_
                refine g_istore C (L' := [(5, .int (nI 0)), (6, .int (nI 0)), (4, .int (nI (crj false (wN (rowC sg 1)) (gN (rowC sg 1)) (sN (rowC sg 1)) (sN (rowC sg 1) + 5 + reN (rowC sg 1)) (k - sN (rowC sg 1))))), (3, .int (nI (sN (rowC sg 1) + 5 + reN (rowC sg 1)))), (0, .ref (ad w 1)), (1, .int (-1)), (2, .int cts)]) (by decide) rfl dX3_turnOnce_199 ?_
                refine g_iload C 0 rfl dX3_turnOnce_201 ?_
                refine g_if_eq C (tgt := 216) (by decide) dX3_turnOnce_203 (fun h203 => ?_) (fun h203 => absurd h203 (by decide))
                refine g_iload C 0 rfl dX3_turnOnce_216 ?_
                exact g_zret C E dX3_turnOnce_218 (by decide +kernel) (bI_f hnb).symm (sq_tR hs6 (fun j hj => by first | exact upd_ne (by omega) | exact (upd_ne (by omega)).trans (upd_ne (by omega))) (by rw [bI_f hnb]; exact (Int32.add_zero _).symm) rfl rfl rfl rfl rfl (fun k hk => by rw [us_ne (by omega), us_ne (by omega), us_ne (by omega)])) rfl
              ·
                refine g_iconst C (v := (nI 1)) (by decide) dX3_turnOnce_194 ?_
                refine g_goto C (tgt := 199) (by decide) dX3_turnOnce_195 ?_
                refine g_istore C (L' := [(5, .int (nI 1)), (6, .int (nI 0)), (4, .int (nI (crj false (wN (rowC sg 1)) (gN (rowC sg 1)) (sN (rowC sg 1)) (sN (rowC sg 1) + 5 + reN (rowC sg 1)) (k - sN (rowC sg 1))))), (3, .int (nI (sN (rowC sg 1) + 5 + reN (rowC sg 1)))), (0, .ref (ad w 1)), (1, .int (-1)), (2, .int cts)]) (by decide) rfl dX3_turnOnce_199 ?_
                refine g_iload C 0 rfl dX3_turnOnce_201 ?_
                refine g_if_eq C (tgt := 216) (by decide) dX3_turnOnce_203 (fun h203 => absurd h203 (by decide)) (fun h203 => ?_)
                refine g_aload_n C 4 rfl rfl dX3_turnOnce_206 ?_
                refine g_dup C rfl dX3_turnOnce_207 ?_
                refine g_getI C (j := 6) cls3 e_1 rfl (by decide) fl_X3_31 dX3_turnOnce_208 ?_
                refine g_top (y := (sg 1 6)) rfl ?_
                refine g_iconst C (v := (nI 1)) (by decide) dX3_turnOnce_211 ?_
                refine g_iadd C dX3_turnOnce_212 ?_
                refine g_putI C (j := 6) cls3 e_1 rfl (by decide) rfl rfl fl_X3_31 dX3_turnOnce_213 ?_
                refine g_sgE (sg' := (us (us (us sg 4 (emb 0 (tw false (wN (rowC sg 1)) (gN (rowC sg 1)) (sN (rowC sg 1)) (sN (rowC sg 1) + 5 + reN (rowC sg 1))) (sg 4))) 5 (upd (sg 5) (sN (rowC sg 1)) (ctI (sg 5 (sN (rowC sg 1))) cts))) 1 (upd (upd (sg 1) 7 ((sg 1 7) + (nI 1))) 6 ((sg 1 6) + (nI 1))))) us_us ?_
                refine g_iload C 0 rfl dX3_turnOnce_216 ?_
                exact g_zret C E dX3_turnOnce_218 (by decide +kernel) (absurd h185 (by omega)) (absurd h185 (by omega)) rfl
          ·
            refine g_iload C 1 rfl dX3_turnOnce_60 ?_
            refine g_iload_n C 3 rfl rfl dX3_turnOnce_62 ?_
            refine g_icmpN_le C k (sN (rowC sg 1) + 5 + reN (rowC sg 1)) (by omega) (by omega) (tgt := 69) (by decide) dX3_turnOnce_63 (fun h63 => ?_) (fun h63 => ?_)
            ·
              refine g_aload_n C 4 rfl rfl dX3_turnOnce_69 ?_
              refine g_getR C (j := 2) cls3 e_1 rfl (by decide) fl_X3_18 dX3_turnOnce_70 ?_
              refine g_iload C 1 rfl dX3_turnOnce_73 ?_
              refine g_ialdN C k e_4 (by omega) (by decide) dX3_turnOnce_75 ?_
              refine g_top (y := ((emb 0 (q3 false (wN (rowC sg 1)) (gN (rowC sg 1)) (sN (rowC sg 1)) (sN (rowC sg 1) + 5 + reN (rowC sg 1)) k) (sg 4)) k)) rfl ?_
              have h9 := emb_in (b := 0) (v := q3 false (wN (rowC sg 1)) (gN (rowC sg 1)) (sN (rowC sg 1)) (sN (rowC sg 1) + 5 + reN (rowC sg 1)) k) (old := sg 4) (k := k) (by omega)
              rw [Nat.zero_add, q3_at] at h9
              have hwk := hw9 k (by omega)
              refine g_top (y := nI (wN (rowC sg 1) k)) h9 ?_
              refine g_iload_n C 5 rfl rfl dX3_turnOnce_76 ?_
              refine g_iload C 0 rfl dX3_turnOnce_77 ?_
              refine g_if_eq C (tgt := 96) (by decide) dX3_turnOnce_79 (fun h79 => ?_) (fun h79 => absurd h79 (by decide))
              refine g_iconst C (v := (nI 0)) (by decide) dX3_turnOnce_96 ?_
              refine g_iload C 2 rfl dX3_turnOnce_97 ?_
              refine g_iadd C dX3_turnOnce_99 ?_
              refine g_top (y := (nI (crj false (wN (rowC sg 1)) (gN (rowC sg 1)) (sN (rowC sg 1)) (sN (rowC sg 1) + 5 + reN (rowC sg 1)) (k - sN (rowC sg 1))))) (by rw [nI_add, Nat.zero_add]) ?_
              refine g_top (y := (nI (0 + crj false (wN (rowC sg 1)) (gN (rowC sg 1)) (sN (rowC sg 1)) (sN (rowC sg 1) + 5 + reN (rowC sg 1)) (k - sN (rowC sg 1))))) (by first | rfl | exact congrArg nI (by omega) | exact nI_add _ _) ?_
              refine g_imul C dX3_turnOnce_100 ?_
              refine g_iadd C dX3_turnOnce_101 ?_
              by_cases hc : (0 + crj false (wN (rowC sg 1)) (gN (rowC sg 1)) (sN (rowC sg 1)) (sN (rowC sg 1) + 5 + reN (rowC sg 1)) (k - sN (rowC sg 1))) ≤ wN (rowC sg 1) k
              ·
                refine g_top (y := nI (wN (rowC sg 1) k - (0 + crj false (wN (rowC sg 1)) (gN (rowC sg 1)) (sN (rowC sg 1)) (sN (rowC sg 1) + 5 + reN (rowC sg 1)) (k - sN (rowC sg 1))))) (go_A _ (by omega) _ (by omega) hc) ?_
                refine g_istore C (L' := [(7, .int (nI (wN (rowC sg 1) k - (0 + crj false (wN (rowC sg 1)) (gN (rowC sg 1)) (sN (rowC sg 1)) (sN (rowC sg 1) + 5 + reN (rowC sg 1)) (k - sN (rowC sg 1)))))), (6, .int (nI 0)), (5, .int (nI k)), (4, .int (nI (crj false (wN (rowC sg 1)) (gN (rowC sg 1)) (sN (rowC sg 1)) (sN (rowC sg 1) + 5 + reN (rowC sg 1)) (k - sN (rowC sg 1))))), (3, .int (nI (sN (rowC sg 1) + 5 + reN (rowC sg 1)))), (0, .ref (ad w 1)), (1, .int (-1)), (2, .int cts)]) (by decide) rfl dX3_turnOnce_102 ?_
                refine g_iload C 0 rfl dX3_turnOnce_104 ?_
                refine g_if_lt C (tgt := 116) (by decide) dX3_turnOnce_106 (fun h106 => absurd h106 (Int32.not_lt.mpr (nI_pos' (by omega)))) (fun h106 => ?_)
                refine g_iload C 0 rfl dX3_turnOnce_109 ?_
                refine g_bipush C (v := (nI 9)) (by decide) dX3_turnOnce_111 ?_
                refine g_icmpN_le C (wN (rowC sg 1) k - (0 + crj false (wN (rowC sg 1)) (gN (rowC sg 1)) (sN (rowC sg 1)) (sN (rowC sg 1) + 5 + reN (rowC sg 1)) (k - sN (rowC sg 1)))) 9 (by omega) (by omega) (tgt := 120) (by decide) dX3_turnOnce_113 (fun h113 => ?_) (fun h113 => absurd h113 (by omega))
                refine g_iconst C (v := (nI 0)) (by decide) dX3_turnOnce_120 ?_
                refine g_istore C (L' := [(4, .int (nI 0)), (7, .int (nI (wN (rowC sg 1) k - (0 + crj false (wN (rowC sg 1)) (gN (rowC sg 1)) (sN (rowC sg 1)) (sN (rowC sg 1) + 5 + reN (rowC sg 1)) (k - sN (rowC sg 1)))))), (6, .int (nI 0)), (5, .int (nI k)), (3, .int (nI (sN (rowC sg 1) + 5 + reN (rowC sg 1)))), (0, .ref (ad w 1)), (1, .int (-1)), (2, .int cts)]) (by decide) rfl dX3_turnOnce_121 ?_
                refine g_aload_n C 5 rfl rfl dX3_turnOnce_123 ?_
                refine g_getR C (j := 2) cls3 e_1 rfl (by decide) fl_X3_18 dX3_turnOnce_124 ?_
                refine g_iload C 3 rfl dX3_turnOnce_127 ?_
                refine g_iload C 1 rfl dX3_turnOnce_129 ?_
                refine g_iload_n C 6 rfl rfl dX3_turnOnce_131 ?_
                refine g_bipush C (v := (nI 10)) (by decide) dX3_turnOnce_132 ?_
                refine g_imul C dX3_turnOnce_134 ?_
                refine g_iload C 0 rfl dX3_turnOnce_135 ?_
                refine g_imul C dX3_turnOnce_137 ?_
                refine g_isub C dX3_turnOnce_138 ?_
                refine g_top (y := (nI (stp false (wN (rowC sg 1) k) (0 + crj false (wN (rowC sg 1)) (gN (rowC sg 1)) (sN (rowC sg 1)) (sN (rowC sg 1) + 5 + reN (rowC sg 1)) (k - sN (rowC sg 1)))))) (by simp only [stp, Bool.false_eq_true, if_false]; rw [if_neg (by omega)]; rw [show (-1 : Int32) * nI 10 * nI 0 = nI 0 from by decide]; exact pk_sub (by omega)) ?_
                refine g_iastN C k e_4 (by omega) (by decide) dX3_turnOnce_139 ?_
                refine g_sgE (sg' := (us sg 4 (upd (emb 0 (q3 false (wN (rowC sg 1)) (gN (rowC sg 1)) (sN (rowC sg 1)) (sN (rowC sg 1) + 5 + reN (rowC sg 1)) k) (sg 4)) k (nI (stp false (wN (rowC sg 1) k) (0 + crj false (wN (rowC sg 1)) (gN (rowC sg 1)) (sN (rowC sg 1)) (sN (rowC sg 1) + 5 + reN (rowC sg 1)) (k - sN (rowC sg 1)))))))) us_us ?_
                refine g_iinc C (n := 1) (v := (nI (k + 1))) (L' := [(5, .int (nI (k + 1))), (4, .int (nI 0)), (7, .int (nI (wN (rowC sg 1) k - (0 + crj false (wN (rowC sg 1)) (gN (rowC sg 1)) (sN (rowC sg 1)) (sN (rowC sg 1) + 5 + reN (rowC sg 1)) (k - sN (rowC sg 1)))))), (6, .int (nI 0)), (3, .int (nI (sN (rowC sg 1) + 5 + reN (rowC sg 1)))), (0, .ref (ad w 1)), (1, .int (-1)), (2, .int cts)]) 3 rfl (nI_add k 1) (by decide) rfl dX3_turnOnce_140 ?_
                refine g_goto C (tgt := 24) (by decide) dX3_turnOnce_143 ?_
                have hcr : crj false (wN (rowC sg 1)) (gN (rowC sg 1)) (sN (rowC sg 1)) (sN (rowC sg 1) + 5 + reN (rowC sg 1)) (k + 1 - sN (rowC sg 1)) = 0 := (crj_a (by omega) (by omega)).trans (by simp only [cry, Bool.false_eq_true, if_false]; exact if_neg (by omega))
                refine g_sub (L' := [(5, .int (nI (k + 1))), (4, .int (nI 0)), (3, .int (nI (sN (rowC sg 1) + 5 + reN (rowC sg 1)))), (0, .ref (ad w 1)), (1, .int (-1)), (2, .int cts)]) [0, 1, 4, 5, 6, 7] rfl ?_
                refine g_eq (L' := [(5, .int (nI (k + 1))), (4, .int (nI (crj false (wN (rowC sg 1)) (gN (rowC sg 1)) (sN (rowC sg 1)) (sN (rowC sg 1) + 5 + reN (rowC sg 1)) ((k + 1) - sN (rowC sg 1))))), (3, .int (nI (sN (rowC sg 1) + 5 + reN (rowC sg 1)))), (0, .ref (ad w 1)), (1, .int (-1)), (2, .int cts)]) rfl rfl (by rw [hcr]) rfl ?_
                refine g_sgE (sg' := (us sg 4 (emb 0 (q3 false (wN (rowC sg 1)) (gN (rowC sg 1)) (sN (rowC sg 1)) (sN (rowC sg 1) + 5 + reN (rowC sg 1)) (k + 1)) (sg 4)))) (congrArg (us sg 4) (emb_upd0 (by omega) (q3_k.trans (tw_a (by omega) (by omega))) (fun m _ hm => q3_n hm))) ?_
                exact ih (k + 1) (by omega) (by omega) (by omega)
              ·
                have hc2 := go_B (wN (rowC sg 1) k) (by omega) (0 + crj false (wN (rowC sg 1)) (gN (rowC sg 1)) (sN (rowC sg 1)) (sN (rowC sg 1) + 5 + reN (rowC sg 1)) (k - sN (rowC sg 1))) (by omega) (by omega)
                refine g_istore C (L' := [(7, .int ((nI (wN (rowC sg 1) k)) + ((-1) * (nI (0 + crj false (wN (rowC sg 1)) (gN (rowC sg 1)) (sN (rowC sg 1)) (sN (rowC sg 1) + 5 + reN (rowC sg 1)) (k - sN (rowC sg 1))))))), (6, .int (nI 0)), (5, .int (nI k)), (4, .int (nI (crj false (wN (rowC sg 1)) (gN (rowC sg 1)) (sN (rowC sg 1)) (sN (rowC sg 1) + 5 + reN (rowC sg 1)) (k - sN (rowC sg 1))))), (3, .int (nI (sN (rowC sg 1) + 5 + reN (rowC sg 1)))), (0, .ref (ad w 1)), (1, .int (-1)), (2, .int cts)]) (by decide) rfl dX3_turnOnce_102 ?_
                refine g_iload C 0 rfl dX3_turnOnce_104 ?_
                refine g_if_lt C (tgt := 116) (by decide) dX3_turnOnce_106 (fun h106 => ?_) (fun h106 => absurd hc2.1 h106)
                refine g_iconst C (v := (nI 1)) (by decide) dX3_turnOnce_116 ?_
                refine g_goto C (tgt := 121) (by decide) dX3_turnOnce_117 ?_
                refine g_istore C (L' := [(4, .int (nI 1)), (7, .int ((nI (wN (rowC sg 1) k)) + ((-1) * (nI (0 + crj false (wN (rowC sg 1)) (gN (rowC sg 1)) (sN (rowC sg 1)) (sN (rowC sg 1) + 5 + reN (rowC sg 1)) (k - sN (rowC sg 1))))))), (6, .int (nI 0)), (5, .int (nI k)), (3, .int (nI (sN (rowC sg 1) + 5 + reN (rowC sg 1)))), (0, .ref (ad w 1)), (1, .int (-1)), (2, .int cts)]) (by decide) rfl dX3_turnOnce_121 ?_
                refine g_aload_n C 5 rfl rfl dX3_turnOnce_123 ?_
                refine g_getR C (j := 2) cls3 e_1 rfl (by decide) fl_X3_18 dX3_turnOnce_124 ?_
                refine g_iload C 3 rfl dX3_turnOnce_127 ?_
                refine g_iload C 1 rfl dX3_turnOnce_129 ?_
                refine g_iload_n C 6 rfl rfl dX3_turnOnce_131 ?_
                refine g_bipush C (v := (nI 10)) (by decide) dX3_turnOnce_132 ?_
                refine g_imul C dX3_turnOnce_134 ?_
                refine g_iload C 0 rfl dX3_turnOnce_135 ?_
                refine g_imul C dX3_turnOnce_137 ?_
                refine g_isub C dX3_turnOnce_138 ?_
                refine g_top (y := (nI (stp false (wN (rowC sg 1) k) (0 + crj false (wN (rowC sg 1)) (gN (rowC sg 1)) (sN (rowC sg 1)) (sN (rowC sg 1) + 5 + reN (rowC sg 1)) (k - sN (rowC sg 1)))))) (by simp only [stp, Bool.false_eq_true, if_false]; rw [if_pos (by omega)]; exact hc2.2) ?_
                refine g_iastN C k e_4 (by omega) (by decide) dX3_turnOnce_139 ?_
                refine g_sgE (sg' := (us sg 4 (upd (emb 0 (q3 false (wN (rowC sg 1)) (gN (rowC sg 1)) (sN (rowC sg 1)) (sN (rowC sg 1) + 5 + reN (rowC sg 1)) k) (sg 4)) k (nI (stp false (wN (rowC sg 1) k) (0 + crj false (wN (rowC sg 1)) (gN (rowC sg 1)) (sN (rowC sg 1)) (sN (rowC sg 1) + 5 + reN (rowC sg 1)) (k - sN (rowC sg 1)))))))) us_us ?_
                refine g_iinc C (n := 1) (v := (nI (k + 1))) (L' := [(5, .int (nI (k + 1))), (4, .int (nI 1)), (7, .int ((nI (wN (rowC sg 1) k)) + ((-1) * (nI (0 + crj false (wN (rowC sg 1)) (gN (rowC sg 1)) (sN (rowC sg 1)) (sN (rowC sg 1) + 5 + reN (rowC sg 1)) (k - sN (rowC sg 1))))))), (6, .int (nI 0)), (3, .int (nI (sN (rowC sg 1) + 5 + reN (rowC sg 1)))), (0, .ref (ad w 1)), (1, .int (-1)), (2, .int cts)]) 3 rfl (nI_add k 1) (by decide) rfl dX3_turnOnce_140 ?_
                refine g_goto C (tgt := 24) (by decide) dX3_turnOnce_143 ?_
                have hcr : crj false (wN (rowC sg 1)) (gN (rowC sg 1)) (sN (rowC sg 1)) (sN (rowC sg 1) + 5 + reN (rowC sg 1)) (k + 1 - sN (rowC sg 1)) = 1 := (crj_a (by omega) (by omega)).trans (by simp only [cry, Bool.false_eq_true, if_false]; exact if_pos (by omega))
                refine g_sub (L' := [(5, .int (nI (k + 1))), (4, .int (nI 1)), (3, .int (nI (sN (rowC sg 1) + 5 + reN (rowC sg 1)))), (0, .ref (ad w 1)), (1, .int (-1)), (2, .int cts)]) [0, 1, 4, 5, 6, 7] rfl ?_
                refine g_eq (L' := [(5, .int (nI (k + 1))), (4, .int (nI (crj false (wN (rowC sg 1)) (gN (rowC sg 1)) (sN (rowC sg 1)) (sN (rowC sg 1) + 5 + reN (rowC sg 1)) ((k + 1) - sN (rowC sg 1))))), (3, .int (nI (sN (rowC sg 1) + 5 + reN (rowC sg 1)))), (0, .ref (ad w 1)), (1, .int (-1)), (2, .int cts)]) rfl rfl (by rw [hcr]) rfl ?_
                refine g_sgE (sg' := (us sg 4 (emb 0 (q3 false (wN (rowC sg 1)) (gN (rowC sg 1)) (sN (rowC sg 1)) (sN (rowC sg 1) + 5 + reN (rowC sg 1)) (k + 1)) (sg 4)))) (congrArg (us sg 4) (emb_upd0 (by omega) (q3_k.trans (tw_a (by omega) (by omega))) (fun m _ hm => q3_n hm))) ?_
                exact ih (k + 1) (by omega) (by omega) (by omega)
            ·
              refine g_sgE (sg' := (us sg 4 (emb 0 (tw false (wN (rowC sg 1)) (gN (rowC sg 1)) (sN (rowC sg 1)) (sN (rowC sg 1) + 5 + reN (rowC sg 1))) (sg 4)))) (congrArg (us sg 4) (emb_eq (fun m hm => q3_end hw9 (by omega) (.inr (by omega)) hm))) ?_
              have hnb := bl_tail (up := false) (g := gN (rowC sg 1)) (s := sN (rowC sg 1)) (last := (sN (rowC sg 1) + 5 + reN (rowC sg 1))) (k := k) hw9 (by omega) (by omega) (.inr (by omega))
              refine g_goto C (tgt := 146) (by decide) dX3_turnOnce_66 ?_
              refine g_aload_n C 4 rfl rfl dX3_turnOnce_146 ?_
              refine g_getR C (j := 3) cls3 e_1 rfl (by decide) fl_X3_21 dX3_turnOnce_147 ?_
              refine g_aload_n C 4 rfl rfl dX3_turnOnce_150 ?_
              refine g_getI C (j := 4) cls3 e_1 rfl (by decide) fl_X3_24 dX3_turnOnce_151 ?_
              refine g_top (y := (nI (sN (rowC sg 1)))) hs ?_
              refine g_aload_n C 4 rfl rfl dX3_turnOnce_154 ?_
              refine g_getR C (j := 3) cls3 e_1 rfl (by decide) fl_X3_21 dX3_turnOnce_155 ?_
              refine g_aload_n C 4 rfl rfl dX3_turnOnce_158 ?_
              refine g_getI C (j := 4) cls3 e_1 rfl (by decide) fl_X3_24 dX3_turnOnce_159 ?_
              refine g_top (y := (nI (sN (rowC sg 1)))) hs ?_
              refine g_ialdN C (sN (rowC sg 1)) e_5 (by omega) (by decide) dX3_turnOnce_162 ?_
              refine g_top (y := (sg 5 (sN (rowC sg 1)))) rfl ?_
              refine g_iload_n C 6 rfl rfl dX3_turnOnce_163 ?_
              refine g_iadd C dX3_turnOnce_164 ?_
              refine g_bipush C (v := (nI 10)) (by decide) dX3_turnOnce_165 ?_
              refine g_iadd C dX3_turnOnce_167 ?_
              refine g_bipush C (v := (nI 10)) (by decide) dX3_turnOnce_168 ?_
              refine g_irem C (by decide) dX3_turnOnce_170 ?_
              refine g_top (y := ctI (sg 5 (sN (rowC sg 1))) cts) rfl ?_
              refine g_iastN C (sN (rowC sg 1)) e_5 (by omega) (by decide) dX3_turnOnce_171 ?_
              refine g_sgE (sg' := (us (us sg 4 (emb 0 (tw false (wN (rowC sg 1)) (gN (rowC sg 1)) (sN (rowC sg 1)) (sN (rowC sg 1) + 5 + reN (rowC sg 1))) (sg 4))) 5 (upd (sg 5) (sN (rowC sg 1)) (ctI (sg 5 (sN (rowC sg 1))) cts)))) rfl ?_
              refine g_aload_n C 4 rfl rfl dX3_turnOnce_172 ?_
              refine g_dup C rfl dX3_turnOnce_173 ?_
              refine g_getI C (j := 7) cls3 e_1 rfl (by decide) fl_X3_34 dX3_turnOnce_174 ?_
              refine g_top (y := (sg 1 7)) rfl ?_
              refine g_iconst C (v := (nI 1)) (by decide) dX3_turnOnce_177 ?_
              refine g_iadd C dX3_turnOnce_178 ?_
              refine g_putI C (j := 7) cls3 e_1 rfl (by decide) rfl rfl fl_X3_34 dX3_turnOnce_179 ?_
              refine g_sgE (sg' := (us (us (us sg 4 (emb 0 (tw false (wN (rowC sg 1)) (gN (rowC sg 1)) (sN (rowC sg 1)) (sN (rowC sg 1) + 5 + reN (rowC sg 1))) (sg 4))) 5 (upd (sg 5) (sN (rowC sg 1)) (ctI (sg 5 (sN (rowC sg 1))) cts))) 1 (upd (sg 1) 7 ((sg 1 7) + (nI 1))))) rfl ?_
              refine g_iload C 2 rfl dX3_turnOnce_182 ?_
              refine g_iconst C (v := (nI 1)) (by decide) dX3_turnOnce_184 ?_
              refine g_icmpN_ne C (crj false (wN (rowC sg 1)) (gN (rowC sg 1)) (sN (rowC sg 1)) (sN (rowC sg 1) + 5 + reN (rowC sg 1)) (k - sN (rowC sg 1))) 1 (by omega) (by omega) (tgt := 198) (by decide) dX3_turnOnce_185 (fun h185 => ?_) (fun h185 => ?_)
              ·
                refine g_iconst C (v := (nI 0)) (by decide) dX3_turnOnce_198 ?_
                refine g_istore C (L' := [(5, .int (nI 0)), (6, .int (nI 0)), (4, .int (nI (crj false (wN (rowC sg 1)) (gN (rowC sg 1)) (sN (rowC sg 1)) (sN (rowC sg 1) + 5 + reN (rowC sg 1)) (k - sN (rowC sg 1))))), (3, .int (nI (sN (rowC sg 1) + 5 + reN (rowC sg 1)))), (0, .ref (ad w 1)), (1, .int (-1)), (2, .int cts)]) (by decide) rfl dX3_turnOnce_199 ?_
                refine g_iload C 0 rfl dX3_turnOnce_201 ?_
                refine g_if_eq C (tgt := 216) (by decide) dX3_turnOnce_203 (fun h203 => ?_) (fun h203 => absurd h203 (by decide))
                refine g_iload C 0 rfl dX3_turnOnce_216 ?_
                exact g_zret C E dX3_turnOnce_218 (by decide +kernel) (bI_f hnb).symm (sq_tR hs6 (fun j hj => by first | exact upd_ne (by omega) | exact (upd_ne (by omega)).trans (upd_ne (by omega))) (by rw [bI_f hnb]; exact (Int32.add_zero _).symm) rfl rfl rfl rfl rfl (fun k hk => by rw [us_ne (by omega), us_ne (by omega), us_ne (by omega)])) rfl
              ·
                refine g_bipush C (v := (nI 12)) (by decide) dX3_turnOnce_188 ?_
                refine g_iload_n C 3 rfl rfl dX3_turnOnce_190 ?_
                refine g_icmpN_gt C 12 (sN (rowC sg 1) + 5 + reN (rowC sg 1)) (by omega) (by omega) (tgt := 198) (by decide) dX3_turnOnce_191 (fun h191 => ?_) (fun h191 => ?_)
                ·
                  refine g_iconst C (v := (nI 0)) (by decide) dX3_turnOnce_198 ?_
                  refine g_istore C (L' := [(5, .int (nI 0)), (6, .int (nI 0)), (4, .int (nI (crj false (wN (rowC sg 1)) (gN (rowC sg 1)) (sN (rowC sg 1)) (sN (rowC sg 1) + 5 + reN (rowC sg 1)) (k - sN (rowC sg 1))))), (3, .int (nI (sN (rowC sg 1) + 5 + reN (rowC sg 1)))), (0, .ref (ad w 1)), (1, .int (-1)), (2, .int cts)]) (by decide) rfl dX3_turnOnce_199 ?_
                  refine g_iload C 0 rfl dX3_turnOnce_201 ?_
                  refine g_if_eq C (tgt := 216) (by decide) dX3_turnOnce_203 (fun h203 => ?_) (fun h203 => absurd h203 (by decide))
                  refine g_iload C 0 rfl dX3_turnOnce_216 ?_
                  exact g_zret C E dX3_turnOnce_218 (by decide +kernel) (bI_f hnb).symm (sq_tR hs6 (fun j hj => by first | exact upd_ne (by omega) | exact (upd_ne (by omega)).trans (upd_ne (by omega))) (by rw [bI_f hnb]; exact (Int32.add_zero _).symm) rfl rfl rfl rfl rfl (fun k hk => by rw [us_ne (by omega), us_ne (by omega), us_ne (by omega)])) rfl
                ·
                  refine g_iconst C (v := (nI 1)) (by decide) dX3_turnOnce_194 ?_
                  refine g_goto C (tgt := 199) (by decide) dX3_turnOnce_195 ?_
                  refine g_istore C (L' := [(5, .int (nI 1)), (6, .int (nI 0)), (4, .int (nI (crj false (wN (rowC sg 1)) (gN (rowC sg 1)) (sN (rowC sg 1)) (sN (rowC sg 1) + 5 + reN (rowC sg 1)) (k - sN (rowC sg 1))))), (3, .int (nI (sN (rowC sg 1) + 5 + reN (rowC sg 1)))), (0, .ref (ad w 1)), (1, .int (-1)), (2, .int cts)]) (by decide) rfl dX3_turnOnce_199 ?_
                  refine g_iload C 0 rfl dX3_turnOnce_201 ?_
                  refine g_if_eq C (tgt := 216) (by decide) dX3_turnOnce_203 (fun h203 => absurd h203 (by decide)) (fun h203 => ?_)
                  refine g_aload_n C 4 rfl rfl dX3_turnOnce_206 ?_
                  refine g_dup C rfl dX3_turnOnce_207 ?_
                  refine g_getI C (j := 6) cls3 e_1 rfl (by decide) fl_X3_31 dX3_turnOnce_208 ?_
                  refine g_top (y := (sg 1 6)) rfl ?_
                  refine g_iconst C (v := (nI 1)) (by decide) dX3_turnOnce_211 ?_
                  refine g_iadd C dX3_turnOnce_212 ?_
                  refine g_putI C (j := 6) cls3 e_1 rfl (by decide) rfl rfl fl_X3_31 dX3_turnOnce_213 ?_
                  refine g_sgE (sg' := (us (us (us sg 4 (emb 0 (tw false (wN (rowC sg 1)) (gN (rowC sg 1)) (sN (rowC sg 1)) (sN (rowC sg 1) + 5 + reN (rowC sg 1))) (sg 4))) 5 (upd (sg 5) (sN (rowC sg 1)) (ctI (sg 5 (sN (rowC sg 1))) cts))) 1 (upd (upd (sg 1) 7 ((sg 1 7) + (nI 1))) 6 ((sg 1 6) + (nI 1))))) us_us ?_
                  refine g_iload C 0 rfl dX3_turnOnce_216 ?_
                  exact g_zret C E dX3_turnOnce_218 (by decide +kernel) (absurd h185 (by omega)) (absurd h185 (by omega)) rfl
        ·
          refine g_iconst C (v := (nI 1)) (by decide) dX3_turnOnce_43 ?_
          refine g_goto C (tgt := 48) (by decide) dX3_turnOnce_44 ?_
          refine g_istore C (L' := [(6, .int (nI 1)), (5, .int (nI k)), (4, .int (nI (crj false (wN (rowC sg 1)) (gN (rowC sg 1)) (sN (rowC sg 1)) (sN (rowC sg 1) + 5 + reN (rowC sg 1)) (k - sN (rowC sg 1))))), (3, .int (nI (sN (rowC sg 1) + 5 + reN (rowC sg 1)))), (0, .ref (ad w 1)), (1, .int (-1)), (2, .int cts)]) (by decide) rfl dX3_turnOnce_48 ?_
          refine g_iload C 0 rfl dX3_turnOnce_50 ?_
          refine g_if_ne C (tgt := 69) (by decide) dX3_turnOnce_52 (fun h52 => ?_) (fun h52 => absurd h52 (by decide))
          refine g_aload_n C 4 rfl rfl dX3_turnOnce_69 ?_
          refine g_getR C (j := 2) cls3 e_1 rfl (by decide) fl_X3_18 dX3_turnOnce_70 ?_
          refine g_iload C 1 rfl dX3_turnOnce_73 ?_
          refine g_ialdN C k e_4 (by omega) (by decide) dX3_turnOnce_75 ?_
          refine g_top (y := ((emb 0 (q3 false (wN (rowC sg 1)) (gN (rowC sg 1)) (sN (rowC sg 1)) (sN (rowC sg 1) + 5 + reN (rowC sg 1)) k) (sg 4)) k)) rfl ?_
          have h9 := emb_in (b := 0) (v := q3 false (wN (rowC sg 1)) (gN (rowC sg 1)) (sN (rowC sg 1)) (sN (rowC sg 1) + 5 + reN (rowC sg 1)) k) (old := sg 4) (k := k) (by omega)
          rw [Nat.zero_add, q3_at] at h9
          have hwk := hw9 k (by omega)
          refine g_top (y := nI (wN (rowC sg 1) k)) h9 ?_
          refine g_iload_n C 5 rfl rfl dX3_turnOnce_76 ?_
          refine g_iload C 0 rfl dX3_turnOnce_77 ?_
          refine g_if_eq C (tgt := 96) (by decide) dX3_turnOnce_79 (fun h79 => absurd h79 (by decide)) (fun h79 => ?_)
          refine g_aload_n C 4 rfl rfl dX3_turnOnce_82 ?_
          refine g_iload C 1 rfl dX3_turnOnce_83 ?_
          refine g_aload_n C 4 rfl rfl dX3_turnOnce_85 ?_
          refine g_getI C (j := 4) cls3 e_1 rfl (by decide) fl_X3_24 dX3_turnOnce_86 ?_
          refine g_top (y := (nI (sN (rowC sg 1)))) hs ?_
          refine g_isub C dX3_turnOnce_89 ?_
          refine g_top (y := (nI (k - sN (rowC sg 1)))) (by first | rfl | exact pk_sub (by omega)) ?_
          refine g_callV1 [.int (-1), .int (nI (wN (rowC sg 1) k))] C (c_X3_given w tu (us sg 4 (emb 0 (q3 false (wN (rowC sg 1)) (gN (rowC sg 1)) (sN (rowC sg 1)) (sN (rowC sg 1) + 5 + reN (rowC sg 1)) k) (sg 4))) (k - sN (rowC sg 1)) (dN (rowC sg 1) (k - sN (rowC sg 1))) (oN (rowC sg 1) (k - sN (rowC sg 1))) (by omega) ((rowC_d (sg := sg) (w := 1) (by omega)).symm.trans (hok.1 (k - sN (rowC sg 1)) (by omega)).1) (hok.1 (k - sN (rowC sg 1)) (by omega)).2 ((rowC_o (sg := sg) (w := 1) (by omega)).symm.trans (hok.2.1 (k - sN (rowC sg 1)) (by omega)).1) (hok.2.1 (k - sN (rowC sg 1)) (by omega)).2.1 (hok.2.1 (k - sN (rowC sg 1)) (by omega)).2.2) mt_X3_given e_1 rfl ml_X3_114 im_X3_given se_X3_given (by decide) rfl (Nat.le_of_ble_eq_true rfl) dX3_turnOnce_90 ?_
          refine g_eq (L' := [(6, .int (nI 1)), (5, .int (nI k)), (4, .int (nI (crj false (wN (rowC sg 1)) (gN (rowC sg 1)) (sN (rowC sg 1)) (sN (rowC sg 1) + 5 + reN (rowC sg 1)) (k - sN (rowC sg 1))))), (3, .int (nI (sN (rowC sg 1) + 5 + reN (rowC sg 1)))), (0, .ref (ad w 1)), (1, .int (-1)), (2, .int cts)]) (S' := [.int (whX (nI (oN (rowC sg 1) (k - sN (rowC sg 1)))) ((dN (rowC sg 1) (k - sN (rowC sg 1))) + 1)), .int (-1), .int (nI (wN (rowC sg 1) k))]) rfl rfl rfl rfl ?_
          have hgk := hg9 (k - sN (rowC sg 1)) (by omega)
          refine g_top (y := (nI (gN (rowC sg 1) (k - sN (rowC sg 1))))) (gN_C hok (by omega)) ?_
          refine g_goto C (tgt := 97) (by decide) dX3_turnOnce_93 ?_
          refine g_iload C 2 rfl dX3_turnOnce_97 ?_
          refine g_iadd C dX3_turnOnce_99 ?_
          refine g_top (y := (nI ((gN (rowC sg 1) (k - sN (rowC sg 1))) + (crj false (wN (rowC sg 1)) (gN (rowC sg 1)) (sN (rowC sg 1)) (sN (rowC sg 1) + 5 + reN (rowC sg 1)) (k - sN (rowC sg 1)))))) (nI_add (gN (rowC sg 1) (k - sN (rowC sg 1))) (crj false (wN (rowC sg 1)) (gN (rowC sg 1)) (sN (rowC sg 1)) (sN (rowC sg 1) + 5 + reN (rowC sg 1)) (k - sN (rowC sg 1)))) ?_
          refine g_top (y := (nI (gN (rowC sg 1) (k - sN (rowC sg 1)) + crj false (wN (rowC sg 1)) (gN (rowC sg 1)) (sN (rowC sg 1)) (sN (rowC sg 1) + 5 + reN (rowC sg 1)) (k - sN (rowC sg 1))))) (by first | rfl | exact congrArg nI (by omega) | exact nI_add _ _) ?_
          refine g_imul C dX3_turnOnce_100 ?_
          refine g_iadd C dX3_turnOnce_101 ?_
          by_cases hc : (gN (rowC sg 1) (k - sN (rowC sg 1)) + crj false (wN (rowC sg 1)) (gN (rowC sg 1)) (sN (rowC sg 1)) (sN (rowC sg 1) + 5 + reN (rowC sg 1)) (k - sN (rowC sg 1))) ≤ wN (rowC sg 1) k
          ·
            refine g_top (y := nI (wN (rowC sg 1) k - (gN (rowC sg 1) (k - sN (rowC sg 1)) + crj false (wN (rowC sg 1)) (gN (rowC sg 1)) (sN (rowC sg 1)) (sN (rowC sg 1) + 5 + reN (rowC sg 1)) (k - sN (rowC sg 1))))) (go_A _ (by omega) _ (by omega) hc) ?_
            refine g_istore C (L' := [(7, .int (nI (wN (rowC sg 1) k - (gN (rowC sg 1) (k - sN (rowC sg 1)) + crj false (wN (rowC sg 1)) (gN (rowC sg 1)) (sN (rowC sg 1)) (sN (rowC sg 1) + 5 + reN (rowC sg 1)) (k - sN (rowC sg 1)))))), (6, .int (nI 1)), (5, .int (nI k)), (4, .int (nI (crj false (wN (rowC sg 1)) (gN (rowC sg 1)) (sN (rowC sg 1)) (sN (rowC sg 1) + 5 + reN (rowC sg 1)) (k - sN (rowC sg 1))))), (3, .int (nI (sN (rowC sg 1) + 5 + reN (rowC sg 1)))), (0, .ref (ad w 1)), (1, .int (-1)), (2, .int cts)]) (by decide) rfl dX3_turnOnce_102 ?_
            refine g_iload C 0 rfl dX3_turnOnce_104 ?_
            refine g_if_lt C (tgt := 116) (by decide) dX3_turnOnce_106 (fun h106 => absurd h106 (Int32.not_lt.mpr (nI_pos' (by omega)))) (fun h106 => ?_)
            refine g_iload C 0 rfl dX3_turnOnce_109 ?_
            refine g_bipush C (v := (nI 9)) (by decide) dX3_turnOnce_111 ?_
            refine g_icmpN_le C (wN (rowC sg 1) k - (gN (rowC sg 1) (k - sN (rowC sg 1)) + crj false (wN (rowC sg 1)) (gN (rowC sg 1)) (sN (rowC sg 1)) (sN (rowC sg 1) + 5 + reN (rowC sg 1)) (k - sN (rowC sg 1)))) 9 (by omega) (by omega) (tgt := 120) (by decide) dX3_turnOnce_113 (fun h113 => ?_) (fun h113 => absurd h113 (by omega))
            refine g_iconst C (v := (nI 0)) (by decide) dX3_turnOnce_120 ?_
            refine g_istore C (L' := [(4, .int (nI 0)), (7, .int (nI (wN (rowC sg 1) k - (gN (rowC sg 1) (k - sN (rowC sg 1)) + crj false (wN (rowC sg 1)) (gN (rowC sg 1)) (sN (rowC sg 1)) (sN (rowC sg 1) + 5 + reN (rowC sg 1)) (k - sN (rowC sg 1)))))), (6, .int (nI 1)), (5, .int (nI k)), (3, .int (nI (sN (rowC sg 1) + 5 + reN (rowC sg 1)))), (0, .ref (ad w 1)), (1, .int (-1)), (2, .int cts)]) (by decide) rfl dX3_turnOnce_121 ?_
            refine g_aload_n C 5 rfl rfl dX3_turnOnce_123 ?_
            refine g_getR C (j := 2) cls3 e_1 rfl (by decide) fl_X3_18 dX3_turnOnce_124 ?_
            refine g_iload C 3 rfl dX3_turnOnce_127 ?_
            refine g_iload C 1 rfl dX3_turnOnce_129 ?_
            refine g_iload_n C 6 rfl rfl dX3_turnOnce_131 ?_
            refine g_bipush C (v := (nI 10)) (by decide) dX3_turnOnce_132 ?_
            refine g_imul C dX3_turnOnce_134 ?_
            refine g_iload C 0 rfl dX3_turnOnce_135 ?_
            refine g_imul C dX3_turnOnce_137 ?_
            refine g_isub C dX3_turnOnce_138 ?_
            refine g_top (y := (nI (stp false (wN (rowC sg 1) k) (gN (rowC sg 1) (k - sN (rowC sg 1)) + crj false (wN (rowC sg 1)) (gN (rowC sg 1)) (sN (rowC sg 1)) (sN (rowC sg 1) + 5 + reN (rowC sg 1)) (k - sN (rowC sg 1)))))) (by simp only [stp, Bool.false_eq_true, if_false]; rw [if_neg (by omega)]; rw [show (-1 : Int32) * nI 10 * nI 0 = nI 0 from by decide]; exact pk_sub (by omega)) ?_
            refine g_iastN C k e_4 (by omega) (by decide) dX3_turnOnce_139 ?_
            refine g_sgE (sg' := (us sg 4 (upd (emb 0 (q3 false (wN (rowC sg 1)) (gN (rowC sg 1)) (sN (rowC sg 1)) (sN (rowC sg 1) + 5 + reN (rowC sg 1)) k) (sg 4)) k (nI (stp false (wN (rowC sg 1) k) (gN (rowC sg 1) (k - sN (rowC sg 1)) + crj false (wN (rowC sg 1)) (gN (rowC sg 1)) (sN (rowC sg 1)) (sN (rowC sg 1) + 5 + reN (rowC sg 1)) (k - sN (rowC sg 1)))))))) us_us ?_
            refine g_iinc C (n := 1) (v := (nI (k + 1))) (L' := [(5, .int (nI (k + 1))), (4, .int (nI 0)), (7, .int (nI (wN (rowC sg 1) k - (gN (rowC sg 1) (k - sN (rowC sg 1)) + crj false (wN (rowC sg 1)) (gN (rowC sg 1)) (sN (rowC sg 1)) (sN (rowC sg 1) + 5 + reN (rowC sg 1)) (k - sN (rowC sg 1)))))), (6, .int (nI 1)), (3, .int (nI (sN (rowC sg 1) + 5 + reN (rowC sg 1)))), (0, .ref (ad w 1)), (1, .int (-1)), (2, .int cts)]) 3 rfl (nI_add k 1) (by decide) rfl dX3_turnOnce_140 ?_
            refine g_goto C (tgt := 24) (by decide) dX3_turnOnce_143 ?_
            have hcr : crj false (wN (rowC sg 1)) (gN (rowC sg 1)) (sN (rowC sg 1)) (sN (rowC sg 1) + 5 + reN (rowC sg 1)) (k + 1 - sN (rowC sg 1)) = 0 := (crj_u (by omega) (by omega) (by omega)).trans (by simp only [cry, Bool.false_eq_true, if_false]; exact if_neg (by omega))
            refine g_sub (L' := [(5, .int (nI (k + 1))), (4, .int (nI 0)), (3, .int (nI (sN (rowC sg 1) + 5 + reN (rowC sg 1)))), (0, .ref (ad w 1)), (1, .int (-1)), (2, .int cts)]) [0, 1, 4, 5, 6, 7] rfl ?_
            refine g_eq (L' := [(5, .int (nI (k + 1))), (4, .int (nI (crj false (wN (rowC sg 1)) (gN (rowC sg 1)) (sN (rowC sg 1)) (sN (rowC sg 1) + 5 + reN (rowC sg 1)) ((k + 1) - sN (rowC sg 1))))), (3, .int (nI (sN (rowC sg 1) + 5 + reN (rowC sg 1)))), (0, .ref (ad w 1)), (1, .int (-1)), (2, .int cts)]) rfl rfl (by rw [hcr]) rfl ?_
            refine g_sgE (sg' := (us sg 4 (emb 0 (q3 false (wN (rowC sg 1)) (gN (rowC sg 1)) (sN (rowC sg 1)) (sN (rowC sg 1) + 5 + reN (rowC sg 1)) (k + 1)) (sg 4)))) (congrArg (us sg 4) (emb_upd0 (by omega) (q3_k.trans (tw_u (by omega) (by omega) (by omega))) (fun m _ hm => q3_n hm))) ?_
            exact ih (k + 1) (by omega) (by omega) (by omega)
          ·
            have hc2 := go_B (wN (rowC sg 1) k) (by omega) (gN (rowC sg 1) (k - sN (rowC sg 1)) + crj false (wN (rowC sg 1)) (gN (rowC sg 1)) (sN (rowC sg 1)) (sN (rowC sg 1) + 5 + reN (rowC sg 1)) (k - sN (rowC sg 1))) (by omega) (by omega)
            refine g_istore C (L' := [(7, .int ((nI (wN (rowC sg 1) k)) + ((-1) * (nI (gN (rowC sg 1) (k - sN (rowC sg 1)) + crj false (wN (rowC sg 1)) (gN (rowC sg 1)) (sN (rowC sg 1)) (sN (rowC sg 1) + 5 + reN (rowC sg 1)) (k - sN (rowC sg 1))))))), (6, .int (nI 1)), (5, .int (nI k)), (4, .int (nI (crj false (wN (rowC sg 1)) (gN (rowC sg 1)) (sN (rowC sg 1)) (sN (rowC sg 1) + 5 + reN (rowC sg 1)) (k - sN (rowC sg 1))))), (3, .int (nI (sN (rowC sg 1) + 5 + reN (rowC sg 1)))), (0, .ref (ad w 1)), (1, .int (-1)), (2, .int cts)]) (by decide) rfl dX3_turnOnce_102 ?_
            refine g_iload C 0 rfl dX3_turnOnce_104 ?_
            refine g_if_lt C (tgt := 116) (by decide) dX3_turnOnce_106 (fun h106 => ?_) (fun h106 => absurd hc2.1 h106)
            refine g_iconst C (v := (nI 1)) (by decide) dX3_turnOnce_116 ?_
            refine g_goto C (tgt := 121) (by decide) dX3_turnOnce_117 ?_
            refine g_istore C (L' := [(4, .int (nI 1)), (7, .int ((nI (wN (rowC sg 1) k)) + ((-1) * (nI (gN (rowC sg 1) (k - sN (rowC sg 1)) + crj false (wN (rowC sg 1)) (gN (rowC sg 1)) (sN (rowC sg 1)) (sN (rowC sg 1) + 5 + reN (rowC sg 1)) (k - sN (rowC sg 1))))))), (6, .int (nI 1)), (5, .int (nI k)), (3, .int (nI (sN (rowC sg 1) + 5 + reN (rowC sg 1)))), (0, .ref (ad w 1)), (1, .int (-1)), (2, .int cts)]) (by decide) rfl dX3_turnOnce_121 ?_
            refine g_aload_n C 5 rfl rfl dX3_turnOnce_123 ?_
            refine g_getR C (j := 2) cls3 e_1 rfl (by decide) fl_X3_18 dX3_turnOnce_124 ?_
            refine g_iload C 3 rfl dX3_turnOnce_127 ?_
            refine g_iload C 1 rfl dX3_turnOnce_129 ?_
            refine g_iload_n C 6 rfl rfl dX3_turnOnce_131 ?_
            refine g_bipush C (v := (nI 10)) (by decide) dX3_turnOnce_132 ?_
            refine g_imul C dX3_turnOnce_134 ?_
            refine g_iload C 0 rfl dX3_turnOnce_135 ?_
            refine g_imul C dX3_turnOnce_137 ?_
            refine g_isub C dX3_turnOnce_138 ?_
            refine g_top (y := (nI (stp false (wN (rowC sg 1) k) (gN (rowC sg 1) (k - sN (rowC sg 1)) + crj false (wN (rowC sg 1)) (gN (rowC sg 1)) (sN (rowC sg 1)) (sN (rowC sg 1) + 5 + reN (rowC sg 1)) (k - sN (rowC sg 1)))))) (by simp only [stp, Bool.false_eq_true, if_false]; rw [if_pos (by omega)]; exact hc2.2) ?_
            refine g_iastN C k e_4 (by omega) (by decide) dX3_turnOnce_139 ?_
            refine g_sgE (sg' := (us sg 4 (upd (emb 0 (q3 false (wN (rowC sg 1)) (gN (rowC sg 1)) (sN (rowC sg 1)) (sN (rowC sg 1) + 5 + reN (rowC sg 1)) k) (sg 4)) k (nI (stp false (wN (rowC sg 1) k) (gN (rowC sg 1) (k - sN (rowC sg 1)) + crj false (wN (rowC sg 1)) (gN (rowC sg 1)) (sN (rowC sg 1)) (sN (rowC sg 1) + 5 + reN (rowC sg 1)) (k - sN (rowC sg 1)))))))) us_us ?_
            refine g_iinc C (n := 1) (v := (nI (k + 1))) (L' := [(5, .int (nI (k + 1))), (4, .int (nI 1)), (7, .int ((nI (wN (rowC sg 1) k)) + ((-1) * (nI (gN (rowC sg 1) (k - sN (rowC sg 1)) + crj false (wN (rowC sg 1)) (gN (rowC sg 1)) (sN (rowC sg 1)) (sN (rowC sg 1) + 5 + reN (rowC sg 1)) (k - sN (rowC sg 1))))))), (6, .int (nI 1)), (3, .int (nI (sN (rowC sg 1) + 5 + reN (rowC sg 1)))), (0, .ref (ad w 1)), (1, .int (-1)), (2, .int cts)]) 3 rfl (nI_add k 1) (by decide) rfl dX3_turnOnce_140 ?_
            refine g_goto C (tgt := 24) (by decide) dX3_turnOnce_143 ?_
            have hcr : crj false (wN (rowC sg 1)) (gN (rowC sg 1)) (sN (rowC sg 1)) (sN (rowC sg 1) + 5 + reN (rowC sg 1)) (k + 1 - sN (rowC sg 1)) = 1 := (crj_u (by omega) (by omega) (by omega)).trans (by simp only [cry, Bool.false_eq_true, if_false]; exact if_pos (by omega))
            refine g_sub (L' := [(5, .int (nI (k + 1))), (4, .int (nI 1)), (3, .int (nI (sN (rowC sg 1) + 5 + reN (rowC sg 1)))), (0, .ref (ad w 1)), (1, .int (-1)), (2, .int cts)]) [0, 1, 4, 5, 6, 7] rfl ?_
            refine g_eq (L' := [(5, .int (nI (k + 1))), (4, .int (nI (crj false (wN (rowC sg 1)) (gN (rowC sg 1)) (sN (rowC sg 1)) (sN (rowC sg 1) + 5 + reN (rowC sg 1)) ((k + 1) - sN (rowC sg 1))))), (3, .int (nI (sN (rowC sg 1) + 5 + reN (rowC sg 1)))), (0, .ref (ad w 1)), (1, .int (-1)), (2, .int cts)]) rfl rfl (by rw [hcr]) rfl ?_
            refine g_sgE (sg' := (us sg 4 (emb 0 (q3 false (wN (rowC sg 1)) (gN (rowC sg 1)) (sN (rowC sg 1)) (sN (rowC sg 1) + 5 + reN (rowC sg 1)) (k + 1)) (sg 4)))) (congrArg (us sg 4) (emb_upd0 (by omega) (q3_k.trans (tw_u (by omega) (by omega) (by omega))) (fun m _ hm => q3_n hm))) ?_
            exact ih (k + 1) (by omega) (by omega) (by omega)
  refine g_sgE (sg' := (us sg 4 (emb 0 (q3 false (wN (rowC sg 1)) (gN (rowC sg 1)) (sN (rowC sg 1)) (sN (rowC sg 1) + 5 + reN (rowC sg 1)) (sN (rowC sg 1))) (sg 4)))) (by rw [hemb0, us_id]) ?_
  refine g_eq (L' := [(5, .int (nI (sN (rowC sg 1)))), (4, .int (nI (crj false (wN (rowC sg 1)) (gN (rowC sg 1)) (sN (rowC sg 1)) (sN (rowC sg 1) + 5 + reN (rowC sg 1)) ((sN (rowC sg 1)) - sN (rowC sg 1))))), (3, .int (nI (sN (rowC sg 1) + 5 + reN (rowC sg 1)))), (0, .ref (ad w 1)), (1, .int (-1)), (2, .int cts)]) rfl rfl (by rw [Nat.sub_self]; rfl) rfl ?_
  exact lp 13 (sN (rowC sg 1)) (by omega) (by omega) (Nat.le_refl _)
