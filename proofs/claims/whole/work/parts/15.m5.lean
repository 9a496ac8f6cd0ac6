theorem emb_eq {b : Nat} {v v' : Nat → Nat} {old : Nat → Int32} (h : ∀ m, m < 12 → v m = v' m) : emb b v old = emb b v' old := by
  funext j
  unfold emb
  by_cases hj : b ≤ j ∧ j < b + 12
  · rw [if_pos hj, if_pos hj, h _ (by omega)]
  · rw [if_neg hj, if_neg hj]
theorem blP_dec {up : Bool} {wh g : Nat → Nat} {s last : Nat} : True := trivial
set_option maxRecDepth 100000 in
set_option maxHeartbeats 400000 in
theorem c_X5_turnsBy_now_up (w : GW) (tu : Int64) (sg : Sg) (s : Nat) (wh g : Nat → Nat) (re : Nat) (hs6 : s ≤ 6) (hre : sg 45 32 = nI re) (hr12 : re ≤ 12) (hwh : ∀ k, k < 12 → sg 45 (12 + k) = nI (wh k)) (hw9 : ∀ k, k < 12 → wh k ≤ 9) (hgi : ∀ i, i < 6 → sg 50 i = nI (g i)) (hg9 : ∀ i, i < 6 → g i ≤ 9) : Kt w yX5_turnsBy cX5_turnsBy 10 (some .boolean) 0 [.ref (ad w 44), .ref (ad w 45), .int (nI 12), .int (nI s), .int (nI 1)] sg tu (some (.int (bI (blP true wh g s (s + 5 + re))))) (us sg 45 (emb 12 (tw true wh g s (s + 5 + re)) (sg 45))) tu := by
  refine Kt.of2 RX5 rfl [(0, .ref (ad w 44)), (1, .ref (ad w 45)), (2, .int (nI 12)), (3, .int (nI s)), (4, .int (nI 1))] (by decide) rfl (Nat.le_of_ble_eq_true rfl) (fun z C E => ?_)
  have hemb0 : emb 12 (p1 true wh g s 0) (sg 45) = sg 45 := by
    funext j
    unfold emb
    split
    · rename_i hj
      rw [p1_0, ← hwh (j - 12) (by omega)]
      congr 1
      omega
    · rfl
  refine g_iload_n C 3 rfl rfl dX5_turnsBy_0 ?_
  refine g_iconst C (v := (nI 5)) (by decide) dX5_turnsBy_1 ?_
  refine g_iadd C dX5_turnsBy_2 ?_
  refine g_top (y := (nI (s + 5))) (nI_add s 5) ?_
  refine g_aload_n C 0 rfl rfl dX5_turnsBy_3 ?_
  refine g_getR C (j := 0) cls5 e_44 rfl (by decide) fl_X5_7 dX5_turnsBy_4 ?_
  refine g_bipush C (v := (nI 32)) (by decide) dX5_turnsBy_7 ?_
  refine g_ialdN C 32 e_45 (by decide) (by decide) dX5_turnsBy_9 ?_
  refine g_top (y := (nI re)) hre ?_
  refine g_iadd C dX5_turnsBy_10 ?_
  refine g_top (y := (nI ((s + 5) + re))) (nI_add (s + 5) re) ?_
  refine g_istore C (L' := [(5, .int (nI ((s + 5) + re))), (0, .ref (ad w 44)), (1, .ref (ad w 45)), (2, .int (nI 12)), (3, .int (nI s)), (4, .int (nI 1))]) (by decide) rfl dX5_turnsBy_11 ?_
  refine g_iconst C (v := (nI 0)) (by decide) dX5_turnsBy_13 ?_
  refine g_istore C (L' := [(6, .int (nI 0)), (5, .int (nI ((s + 5) + re))), (0, .ref (ad w 44)), (1, .ref (ad w 45)), (2, .int (nI 12)), (3, .int (nI s)), (4, .int (nI 1))]) (by decide) rfl dX5_turnsBy_14 ?_
  refine g_iconst C (v := (nI 0)) (by decide) dX5_turnsBy_16 ?_
  refine g_istore C (L' := [(7, .int (nI 0)), (6, .int (nI 0)), (5, .int (nI ((s + 5) + re))), (0, .ref (ad w 44)), (1, .ref (ad w 45)), (2, .int (nI 12)), (3, .int (nI s)), (4, .int (nI 1))]) (by decide) rfl dX5_turnsBy_17 ?_
  have lpa : ∀ (nf i : Nat), 6 < i + nf → i ≤ 6 → (True) → G z w 10 (us sg 45 (emb 12 (p1 true wh g s i) (sg 45))) tu 19 [(7, .int (nI i)), (6, .int (nI (D1 true wh g s i))), (5, .int (nI ((s + 5) + re))), (0, .ref (ad w 44)), (1, .ref (ad w 45)), (2, .int (nI 12)), (3, .int (nI s)), (4, .int (nI 1))] [] := by
    intro nf
    induction nf with
    | zero => intro i  h1 h2 hI; exact absurd h1 (by omega)
    | succ nf ihlpa =>
      intro i  h1 h2 hI
      refine g_iload C 0 rfl dX5_turnsBy_19 ?_
      refine g_bipush C (v := (nI 6)) (by decide) dX5_turnsBy_21 ?_
      refine g_icmpN_ge C i 6 (by omega) (by omega) (tgt := 120) (by decide) dX5_turnsBy_23 (fun h23 => ?_) (fun h23 => ?_)
      ·
        have hiN : 6 = i := by omega
        subst hiN
        refine g_iload_n C 6 rfl rfl dX5_turnsBy_120 ?_
        refine g_istore C (L' := [(7, .int (nI s)), (6, .int (nI (D1 true wh g s 6))), (5, .int (nI ((s + 5) + re))), (0, .ref (ad w 44)), (1, .ref (ad w 45)), (2, .int (nI 12)), (3, .int (nI s)), (4, .int (nI 1))]) (by decide) rfl dX5_turnsBy_121 ?_
        have lpb : ∀ (nf k D : Nat), 12 < k + nf → k ≤ 12 → s ≤ k → D2 true wh g s (s + 5 + re) k D → G z w 10 (us sg 45 (emb 12 (q2 true wh g s (s + 5 + re) k) (sg 45))) tu 123 [(7, .int (nI k)), (6, .int (nI D)), (5, .int (nI ((s + 5) + re))), (0, .ref (ad w 44)), (1, .ref (ad w 45)), (2, .int (nI 12)), (3, .int (nI s)), (4, .int (nI 1))] [] := by
          intro nf
          induction nf with
          | zero => intro k D h1 h2 h3 hD; exact absurd h1 (by omega)
          | succ nf ih =>
            intro k D h1 h2 h3 hD
            have hD31 : D < 2 ^ 31 := Nat.lt_of_lt_of_le hD.1 (by decide)
            refine g_iload C 0 rfl dX5_turnsBy_123 ?_
            refine g_bipush C (v := (nI 12)) (by decide) dX5_turnsBy_125 ?_
            refine g_icmpN_ge C k 12 (by omega) (by omega) (tgt := 228) (by decide) dX5_turnsBy_127 (fun h127 => ?_) (fun h127 => ?_)
            ·
              have hkN : k = 12 := by omega
              subst hkN
              refine g_iload C 1 rfl dX5_turnsBy_228 ?_
              refine g_bipush C (v := (nI 12)) (by decide) dX5_turnsBy_230 ?_
              refine g_ishr C dX5_turnsBy_232 ?_
              refine g_iconst C (v := (nI 1)) (by decide) dX5_turnsBy_233 ?_
              refine g_iand C dX5_turnsBy_234 ?_
              refine g_top (y := nI (D / 2 ^ 12 % 2)) (bt_nI hD31 (by omega)) ?_
              refine g_iconst C (v := (nI 1)) (by decide) dX5_turnsBy_235 ?_
              refine g_icmpN_ne C (D / 2 ^ 12 % 2) 1 (by omega) (by omega) (tgt := 250) (by decide) dX5_turnsBy_236 (fun h236 => ?_) (fun h236 => ?_)
              ·
                refine g_iconst C (v := (nI 0)) (by decide) dX5_turnsBy_250 ?_
                exact g_zret C E dX5_turnsBy_251 (by decide +kernel) (bI_f (fun q => h236 (tb_iff.mpr (hD.2.1.mpr q.1)))).symm (Sq.us fun j hj => congrFun (emb_eq (fun m hm => q2_end hm)) j) rfl
              ·
                refine g_bipush C (v := (nI 12)) (by decide) dX5_turnsBy_239 ?_
                refine g_iload C 2 rfl dX5_turnsBy_241 ?_
                refine g_icmpN_gt C 12 ((s + 5) + re) (by omega) (by omega) (tgt := 250) (by decide) dX5_turnsBy_243 (fun h243 => ?_) (fun h243 => ?_)
                ·
                  refine g_iconst C (v := (nI 0)) (by decide) dX5_turnsBy_250 ?_
                  exact g_zret C E dX5_turnsBy_251 (by decide +kernel) (bI_f (fun q => absurd q.2 (by omega))).symm (Sq.us fun j hj => congrFun (emb_eq (fun m hm => q2_end hm)) j) rfl
                ·
                  refine g_iconst C (v := (nI 1)) (by decide) dX5_turnsBy_246 ?_
                  refine g_goto C (tgt := 251) (by decide) dX5_turnsBy_247 ?_
                  exact g_zret C E dX5_turnsBy_251 (by decide +kernel) (bI_t ⟨hD.2.1.mp (tb_iff.mp h236), h243⟩).symm (Sq.us fun j hj => congrFun (emb_eq (fun m hm => q2_end hm)) j) rfl
            ·
              have hq := q2_s hw9 hg9 h3 (show k < 12 by omega) (by omega) hD
              have hqk9 : q2 true wh g s (s + 5 + re) k k ≤ 9 := by rw [q2_kk]; exact p1_le hw9 hg9 (Nat.le_refl 6) (by omega)
              refine g_iload C 1 rfl dX5_turnsBy_130 ?_
              refine g_iload C 0 rfl dX5_turnsBy_132 ?_
              refine g_ishr C dX5_turnsBy_134 ?_
              refine g_iconst C (v := (nI 1)) (by decide) dX5_turnsBy_135 ?_
              refine g_iand C dX5_turnsBy_136 ?_
              refine g_top (y := nI (D / 2 ^ k % 2)) (bt_nI hD31 (by omega)) ?_
              refine g_iconst C (v := (nI 1)) (by decide) dX5_turnsBy_137 ?_
              refine g_icmpN_ne C (D / 2 ^ k % 2) 1 (by omega) (by omega) (tgt := 222) (by decide) dX5_turnsBy_138 (fun h138 => ?_) (fun h138 => ?_)
              ·
                have hno : ¬ (D.testBit k = true ∧ k ≤ (s + 5 + re)) := fun q => h138 (tb_iff.mpr q.1)
                refine g_iinc C (n := 1) (v := (nI (k + 1))) (L' := [(7, .int (nI (k + 1))), (6, .int (nI D)), (5, .int (nI ((s + 5) + re))), (0, .ref (ad w 44)), (1, .ref (ad w 45)), (2, .int (nI 12)), (3, .int (nI s)), (4, .int (nI 1))]) 0 rfl (nI_add k 1) (by decide) rfl dX5_turnsBy_222 ?_
                refine g_goto C (tgt := 123) (by decide) dX5_turnsBy_225 ?_
                refine g_sub (L' := [(7, .int (nI (k + 1))), (6, .int (nI D)), (5, .int (nI ((s + 5) + re))), (0, .ref (ad w 44)), (1, .ref (ad w 45)), (2, .int (nI 12)), (3, .int (nI s)), (4, .int (nI 1))]) [0, 1, 2, 3, 4, 5, 6, 7] rfl ?_
                refine g_sgE (sg' := (us sg 45 (emb 12 (q2 true wh g s (s + 5 + re) (k + 1)) (sg 45)))) (congrArg (us sg 45) (emb_eq (fun m _ => q2_no (hq.2 hno).1 m))) ?_
                exact ih (k + 1) D (by omega) (by omega) (by omega) (hq.2 hno).2
              ·
                refine g_iload C 0 rfl dX5_turnsBy_141 ?_
                refine g_iload C 2 rfl dX5_turnsBy_143 ?_
                refine g_icmpN_gt C k ((s + 5) + re) (by omega) (by omega) (tgt := 222) (by decide) dX5_turnsBy_145 (fun h145 => ?_) (fun h145 => ?_)
                ·
                  have hno : ¬ (D.testBit k = true ∧ k ≤ (s + 5 + re)) := fun q => absurd q.2 (by omega)
                  refine g_iinc C (n := 1) (v := (nI (k + 1))) (L' := [(7, .int (nI (k + 1))), (6, .int (nI D)), (5, .int (nI ((s + 5) + re))), (0, .ref (ad w 44)), (1, .ref (ad w 45)), (2, .int (nI 12)), (3, .int (nI s)), (4, .int (nI 1))]) 0 rfl (nI_add k 1) (by decide) rfl dX5_turnsBy_222 ?_
                  refine g_goto C (tgt := 123) (by decide) dX5_turnsBy_225 ?_
                  refine g_sub (L' := [(7, .int (nI (k + 1))), (6, .int (nI D)), (5, .int (nI ((s + 5) + re))), (0, .ref (ad w 44)), (1, .ref (ad w 45)), (2, .int (nI 12)), (3, .int (nI s)), (4, .int (nI 1))]) [0, 1, 2, 3, 4, 5, 6, 7] rfl ?_
                  refine g_sgE (sg' := (us sg 45 (emb 12 (q2 true wh g s (s + 5 + re) (k + 1)) (sg 45)))) (congrArg (us sg 45) (emb_eq (fun m _ => q2_no (hq.2 hno).1 m))) ?_
                  exact ih (k + 1) D (by omega) (by omega) (by omega) (hq.2 hno).2
                ·
                  have hyes : D.testBit k = true ∧ k ≤ (s + 5 + re) := ⟨tb_iff.mp h138, by omega⟩
                  refine g_aload_n C 4 rfl rfl dX5_turnsBy_148 ?_
                  refine g_iload_n C 5 rfl rfl dX5_turnsBy_149 ?_
                  refine g_iload C 0 rfl dX5_turnsBy_150 ?_
                  refine g_iadd C dX5_turnsBy_152 ?_
                  refine g_top (y := (nI (12 + k))) (nI_add 12 k) ?_
                  refine g_ialdN C (12 + k) e_45 (by omega) (by decide) dX5_turnsBy_153 ?_
                  refine g_top (y := ((emb 12 (q2 true wh g s (s + 5 + re) k) (sg 45)) (12 + k))) rfl ?_
                  refine g_top (y := nI (q2 true wh g s (s + 5 + re) k k)) (emb_in (by omega)) ?_
                  refine g_iload C 7 rfl dX5_turnsBy_154 ?_
                  refine g_iadd C dX5_turnsBy_156 ?_
                  refine g_top (y := (nI ((q2 true wh g s (s + 5 + re) k k) + 1))) (nI_add (q2 true wh g s (s + 5 + re) k k) 1) ?_
                  refine g_istore C (L' := [(8, .int (nI ((q2 true wh g s (s + 5 + re) k k) + 1))), (7, .int (nI k)), (6, .int (nI D)), (5, .int (nI ((s + 5) + re))), (0, .ref (ad w 44)), (1, .ref (ad w 45)), (2, .int (nI 12)), (3, .int (nI s)), (4, .int (nI 1))]) (by decide) rfl dX5_turnsBy_157 ?_
                  refine g_iload C 0 rfl dX5_turnsBy_159 ?_
                  refine g_bipush C (v := (nI 9)) (by decide) dX5_turnsBy_161 ?_
                  refine g_icmpN_gt C ((q2 true wh g s (s + 5 + re) k k) + 1) 9 (by omega) (by omega) (tgt := 171) (by decide) dX5_turnsBy_163 (fun h163 => ?_) (fun h163 => ?_)
                  ·
                    refine g_iconst C (v := (nI 1)) (by decide) dX5_turnsBy_171 ?_
                    refine g_goto C (tgt := 176) (by decide) dX5_turnsBy_172 ?_
                    refine g_istore C (L' := [(9, .int (nI 1)), (8, .int (nI ((q2 true wh g s (s + 5 + re) k k) + 1))), (7, .int (nI k)), (6, .int (nI D)), (5, .int (nI ((s + 5) + re))), (0, .ref (ad w 44)), (1, .ref (ad w 45)), (2, .int (nI 12)), (3, .int (nI s)), (4, .int (nI 1))]) (by decide) rfl dX5_turnsBy_176 ?_
                    refine g_aload_n C 6 rfl rfl dX5_turnsBy_178 ?_
                    refine g_iload_n C 7 rfl rfl dX5_turnsBy_179 ?_
                    refine g_iload C 2 rfl dX5_turnsBy_180 ?_
                    refine g_iadd C dX5_turnsBy_182 ?_
                    refine g_top (y := (nI (12 + k))) (nI_add 12 k) ?_
                    refine g_iload C 0 rfl dX5_turnsBy_183 ?_
                    refine g_if_eq C (tgt := 199) (by decide) dX5_turnsBy_185 (fun h185 => absurd h185 (by decide)) (fun h185 => ?_)
                    refine g_iload C 1 rfl dX5_turnsBy_188 ?_
                    refine g_bipush C (v := (nI 10)) (by decide) dX5_turnsBy_190 ?_
                    refine g_iload C 9 rfl dX5_turnsBy_192 ?_
                    refine g_imul C dX5_turnsBy_194 ?_
                    refine g_top (y := (nI 10)) (pk_mul 10 1) ?_
                    refine g_isub C dX5_turnsBy_195 ?_
                    refine g_top (y := nI (stp true (q2 true wh g s (s + 5 + re) k k) 1)) (by rw [show stp true (q2 true wh g s (s + 5 + re) k k) 1 = q2 true wh g s (s + 5 + re) k k + 1 - 10 from by simp only [stp, if_true]; exact if_pos h163]; exact pk_sub (by omega)) ?_
                    refine g_goto C (tgt := 201) (by decide) dX5_turnsBy_196 ?_
                    refine g_iastN C (12 + k) e_45 (by omega) (by decide) dX5_turnsBy_201 ?_
                    refine g_sgE (sg' := (us sg 45 (upd (emb 12 (q2 true wh g s (s + 5 + re) k) (sg 45)) (12 + k) (nI (stp true (q2 true wh g s (s + 5 + re) k k) 1))))) us_us ?_
                    refine g_iload C 3 rfl dX5_turnsBy_202 ?_
                    refine g_iload C 0 rfl dX5_turnsBy_204 ?_
                    refine g_if_eq C (tgt := 218) (by decide) dX5_turnsBy_206 (fun h206 => absurd h206 (by decide)) (fun h206 => ?_)
                    refine g_iconst C (v := (nI 1)) (by decide) dX5_turnsBy_209 ?_
                    refine g_iload C 2 rfl dX5_turnsBy_210 ?_
                    refine g_iconst C (v := (nI 1)) (by decide) dX5_turnsBy_212 ?_
                    refine g_iadd C dX5_turnsBy_213 ?_
                    refine g_top (y := (nI (k + 1))) (nI_add k 1) ?_
                    refine g_ishl C dX5_turnsBy_214 ?_
                    refine g_top (y := nI (2 ^ (k + 1))) (sh_nI (by omega)) ?_
                    refine g_goto C (tgt := 219) (by decide) dX5_turnsBy_215 ?_
                    refine g_ior C dX5_turnsBy_219 ?_
                    refine g_top (y := nI (D ||| 2 ^ (k + 1))) (or_nI _ _) ?_
                    have hcr : cry true (q2 true wh g s (s + 5 + re) k k) 1 = 1 := (by simp only [cry, if_true]; exact if_pos h163)
                    refine g_istore C (L' := [(6, .int (nI (D ||| 2 ^ (k + 1)))), (9, .int (nI 1)), (8, .int (nI ((q2 true wh g s (s + 5 + re) k k) + 1))), (7, .int (nI k)), (5, .int (nI ((s + 5) + re))), (0, .ref (ad w 44)), (1, .ref (ad w 45)), (2, .int (nI 12)), (3, .int (nI s)), (4, .int (nI 1))]) (by decide) rfl dX5_turnsBy_220 ?_
                    refine g_iinc C (n := 1) (v := (nI (k + 1))) (L' := [(7, .int (nI (k + 1))), (6, .int (nI (D ||| 2 ^ (k + 1)))), (9, .int (nI 1)), (8, .int (nI ((q2 true wh g s (s + 5 + re) k k) + 1))), (5, .int (nI ((s + 5) + re))), (0, .ref (ad w 44)), (1, .ref (ad w 45)), (2, .int (nI 12)), (3, .int (nI s)), (4, .int (nI 1))]) 3 rfl (nI_add k 1) (by decide) rfl dX5_turnsBy_222 ?_
                    refine g_goto C (tgt := 123) (by decide) dX5_turnsBy_225 ?_
                    refine g_sub (L' := [(7, .int (nI (k + 1))), (6, .int (nI (D ||| 2 ^ (k + 1)))), (5, .int (nI ((s + 5) + re))), (0, .ref (ad w 44)), (1, .ref (ad w 45)), (2, .int (nI 12)), (3, .int (nI s)), (4, .int (nI 1))]) [0, 1, 4, 5, 6, 7, 8, 9] rfl ?_
                    refine g_sgE (sg' := (us sg 45 (emb 12 (q2 true wh g s (s + 5 + re) (k + 1)) (sg 45)))) (congrArg (us sg 45) (emb_upd (by omega) (by rw [q2_k]; exact (hq.1 hyes).1) (fun m _ hm => q2_n hm))) ?_
                    exact ih (k + 1) (D ||| 2 ^ (k + 1)) (by omega) (by omega) (by omega) ((hq.1 hyes).2.1 hcr)
                  ·
                    refine g_iload C 0 rfl dX5_turnsBy_166 ?_
                    refine g_if_ge C (tgt := 175) (by decide) dX5_turnsBy_168 (fun h168 => ?_) (fun h168 => absurd (nI_pos' (by omega)) h168)
                    refine g_iconst C (v := (nI 0)) (by decide) dX5_turnsBy_175 ?_
                    refine g_istore C (L' := [(9, .int (nI 0)), (8, .int (nI ((q2 true wh g s (s + 5 + re) k k) + 1))), (7, .int (nI k)), (6, .int (nI D)), (5, .int (nI ((s + 5) + re))), (0, .ref (ad w 44)), (1, .ref (ad w 45)), (2, .int (nI 12)), (3, .int (nI s)), (4, .int (nI 1))]) (by decide) rfl dX5_turnsBy_176 ?_
                    refine g_aload_n C 6 rfl rfl dX5_turnsBy_178 ?_
                    refine g_iload_n C 7 rfl rfl dX5_turnsBy_179 ?_
                    refine g_iload C 2 rfl dX5_turnsBy_180 ?_
                    refine g_iadd C dX5_turnsBy_182 ?_
                    refine g_top (y := (nI (12 + k))) (nI_add 12 k) ?_
                    refine g_iload C 0 rfl dX5_turnsBy_183 ?_
                    refine g_if_eq C (tgt := 199) (by decide) dX5_turnsBy_185 (fun h185 => ?_) (fun h185 => absurd h185 (by decide))
                    refine g_iload C 1 rfl dX5_turnsBy_199 ?_
                    refine g_top (y := nI (stp true (q2 true wh g s (s + 5 + re) k k) 1)) (congrArg nI (by simp only [stp, if_true]; exact (if_neg (by omega)).symm)) ?_
                    refine g_iastN C (12 + k) e_45 (by omega) (by decide) dX5_turnsBy_201 ?_
                    refine g_sgE (sg' := (us sg 45 (upd (emb 12 (q2 true wh g s (s + 5 + re) k) (sg 45)) (12 + k) (nI (stp true (q2 true wh g s (s + 5 + re) k k) 1))))) us_us ?_
                    refine g_iload C 3 rfl dX5_turnsBy_202 ?_
                    refine g_iload C 0 rfl dX5_turnsBy_204 ?_
                    refine g_if_eq C (tgt := 218) (by decide) dX5_turnsBy_206 (fun h206 => ?_) (fun h206 => absurd h206 (by decide))
                    refine g_iconst C (v := (nI 0)) (by decide) dX5_turnsBy_218 ?_
                    refine g_ior C dX5_turnsBy_219 ?_
                    refine g_top (y := nI (D ||| 0)) (or_nI _ _) ?_
                    have hcr : ¬ cry true (q2 true wh g s (s + 5 + re) k k) 1 = 1 := (by simp only [cry, if_true]; rw [if_neg (by omega)]; decide)
                    refine g_istore C (L' := [(6, .int (nI (D ||| 0))), (9, .int (nI 0)), (8, .int (nI ((q2 true wh g s (s + 5 + re) k k) + 1))), (7, .int (nI k)), (5, .int (nI ((s + 5) + re))), (0, .ref (ad w 44)), (1, .ref (ad w 45)), (2, .int (nI 12)), (3, .int (nI s)), (4, .int (nI 1))]) (by decide) rfl dX5_turnsBy_220 ?_
                    refine g_iinc C (n := 1) (v := (nI (k + 1))) (L' := [(7, .int (nI (k + 1))), (6, .int (nI (D ||| 0))), (9, .int (nI 0)), (8, .int (nI ((q2 true wh g s (s + 5 + re) k k) + 1))), (5, .int (nI ((s + 5) + re))), (0, .ref (ad w 44)), (1, .ref (ad w 45)), (2, .int (nI 12)), (3, .int (nI s)), (4, .int (nI 1))]) 3 rfl (nI_add k 1) (by decide) rfl dX5_turnsBy_222 ?_
                    refine g_goto C (tgt := 123) (by decide) dX5_turnsBy_225 ?_
                    refine g_sub (L' := [(7, .int (nI (k + 1))), (6, .int (nI (D ||| 0))), (5, .int (nI ((s + 5) + re))), (0, .ref (ad w 44)), (1, .ref (ad w 45)), (2, .int (nI 12)), (3, .int (nI s)), (4, .int (nI 1))]) [0, 1, 4, 5, 6, 7, 8, 9] rfl ?_
                    refine g_sgE (sg' := (us sg 45 (emb 12 (q2 true wh g s (s + 5 + re) (k + 1)) (sg 45)))) (congrArg (us sg 45) (emb_upd (by omega) (by rw [q2_k]; exact (hq.1 hyes).1) (fun m _ hm => q2_n hm))) ?_
                    exact ih (k + 1) (D ||| 0) (by omega) (by omega) (by omega) (by rw [Nat.or_zero]; exact (hq.1 hyes).2.2 hcr)
        refine g_sgE (sg' := (us sg 45 (emb 12 (q2 true wh g s (s + 5 + re) s) (sg 45)))) (congrArg (us sg 45) (emb_eq (fun m _ => q2_beg.symm))) ?_
        refine g_sub (L' := [(7, .int (nI s)), (6, .int (nI (D1 true wh g s 6))), (5, .int (nI ((s + 5) + re))), (0, .ref (ad w 44)), (1, .ref (ad w 45)), (2, .int (nI 12)), (3, .int (nI s)), (4, .int (nI 1))]) [0, 1, 2, 3, 4, 5, 6, 7] rfl ?_
        exact lpb 13 s (D1 true wh g s 6) (by omega) (by omega) (Nat.le_refl _) (D2_0 (by omega))
      ·
        refine g_aload_n C 4 rfl rfl dX5_turnsBy_26 ?_
        refine g_iload_n C 5 rfl rfl dX5_turnsBy_27 ?_
        refine g_iload C 0 rfl dX5_turnsBy_28 ?_
        refine g_iadd C dX5_turnsBy_30 ?_
        refine g_top (y := (nI (12 + i))) (nI_add 12 i) ?_
        refine g_iload_n C 6 rfl rfl dX5_turnsBy_31 ?_
        refine g_iadd C dX5_turnsBy_32 ?_
        refine g_top (y := (nI ((12 + i) + s))) (nI_add (12 + i) s) ?_
        refine g_top (y := (nI (12 + (i + s)))) (congrArg nI (by omega)) ?_
        refine g_ialdN C (12 + (i + s)) e_45 (by omega) (by decide) dX5_turnsBy_33 ?_
        refine g_top (y := ((emb 12 (p1 true wh g s i) (sg 45)) (12 + (i + s)))) rfl ?_
        refine g_top (y := nI (wh (i + s))) (by rw [emb_in (by omega), p1_at]) ?_
        have hb1 := hw9 (i + s) (by omega)
        have hb2 := hg9 i (by omega)
        refine g_iload C 7 rfl dX5_turnsBy_34 ?_
        refine g_aload_n C 3 rfl rfl dX5_turnsBy_36 ?_
        refine g_getR C (j := 7) cls5 e_44 rfl (by decide) fl_X5_25 dX5_turnsBy_37 ?_
        refine g_iload C 0 rfl dX5_turnsBy_40 ?_
        refine g_ialdN C i e_50 (by omega) (by decide) dX5_turnsBy_42 ?_
        refine g_top (y := (sg 50 i)) rfl ?_
        refine g_top (y := nI (g i)) (hgi i (by omega)) ?_
        refine g_imul C dX5_turnsBy_43 ?_
        refine g_top (y := (nI (g i))) (by rw [pk_mul, Nat.one_mul]) ?_
        refine g_iadd C dX5_turnsBy_44 ?_
        refine g_top (y := (nI ((wh (i + s)) + (g i)))) (nI_add (wh (i + s)) (g i)) ?_
        refine g_istore C (L' := [(8, .int (nI ((wh (i + s)) + (g i)))), (7, .int (nI i)), (6, .int (nI (D1 true wh g s i))), (5, .int (nI ((s + 5) + re))), (0, .ref (ad w 44)), (1, .ref (ad w 45)), (2, .int (nI 12)), (3, .int (nI s)), (4, .int (nI 1))]) (by decide) rfl dX5_turnsBy_45 ?_
        refine g_iload C 0 rfl dX5_turnsBy_47 ?_
        refine g_bipush C (v := (nI 9)) (by decide) dX5_turnsBy_49 ?_
        refine g_icmpN_gt C ((wh (i + s)) + (g i)) 9 (by omega) (by omega) (tgt := 59) (by decide) dX5_turnsBy_51 (fun h51 => ?_) (fun h51 => ?_)
        ·
          refine g_iconst C (v := (nI 1)) (by decide) dX5_turnsBy_59 ?_
          refine g_goto C (tgt := 64) (by decide) dX5_turnsBy_60 ?_
          refine g_istore C (L' := [(9, .int (nI 1)), (8, .int (nI ((wh (i + s)) + (g i)))), (7, .int (nI i)), (6, .int (nI (D1 true wh g s i))), (5, .int (nI ((s + 5) + re))), (0, .ref (ad w 44)), (1, .ref (ad w 45)), (2, .int (nI 12)), (3, .int (nI s)), (4, .int (nI 1))]) (by decide) rfl dX5_turnsBy_64 ?_
          refine g_aload_n C 6 rfl rfl dX5_turnsBy_66 ?_
          refine g_iload_n C 7 rfl rfl dX5_turnsBy_67 ?_
          refine g_iload C 2 rfl dX5_turnsBy_68 ?_
          refine g_iadd C dX5_turnsBy_70 ?_
          refine g_top (y := (nI (12 + i))) (nI_add 12 i) ?_
          refine g_iload_n C 8 rfl rfl dX5_turnsBy_71 ?_
          refine g_iadd C dX5_turnsBy_72 ?_
          refine g_top (y := (nI ((12 + i) + s))) (nI_add (12 + i) s) ?_
          refine g_top (y := (nI (12 + (i + s)))) (congrArg nI (by omega)) ?_
          refine g_iload C 0 rfl dX5_turnsBy_73 ?_
          refine g_if_eq C (tgt := 89) (by decide) dX5_turnsBy_75 (fun h75 => absurd h75 (by decide)) (fun h75 => ?_)
          refine g_iload C 1 rfl dX5_turnsBy_78 ?_
          refine g_bipush C (v := (nI 10)) (by decide) dX5_turnsBy_80 ?_
          refine g_iload C 9 rfl dX5_turnsBy_82 ?_
          refine g_imul C dX5_turnsBy_84 ?_
          refine g_top (y := (nI 10)) (pk_mul 10 1) ?_
          refine g_isub C dX5_turnsBy_85 ?_
          refine g_top (y := nI (stp true (wh (i + s)) (g i))) (by rw [show stp true (wh (i + s)) (g i) = wh (i + s) + g i - 10 from by simp only [stp, if_true]; exact if_pos h51]; exact pk_sub (by omega)) ?_
          refine g_goto C (tgt := 91) (by decide) dX5_turnsBy_86 ?_
          refine g_iastN C (12 + (i + s)) e_45 (by omega) (by decide) dX5_turnsBy_91 ?_
          refine g_sgE (sg' := (us sg 45 (upd (emb 12 (p1 true wh g s i) (sg 45)) (12 + (i + s)) (nI (stp true (wh (i + s)) (g i)))))) us_us ?_
          refine g_iload C 3 rfl dX5_turnsBy_92 ?_
          refine g_iload C 0 rfl dX5_turnsBy_94 ?_
          refine g_if_eq C (tgt := 110) (by decide) dX5_turnsBy_96 (fun h96 => absurd h96 (by decide)) (fun h96 => ?_)
          refine g_iconst C (v := (nI 1)) (by decide) dX5_turnsBy_99 ?_
          refine g_iload C 2 rfl dX5_turnsBy_100 ?_
          refine g_iload_n C 8 rfl rfl dX5_turnsBy_102 ?_
          refine g_iadd C dX5_turnsBy_103 ?_
          refine g_top (y := (nI (i + s))) (nI_add i s) ?_
          refine g_iconst C (v := (nI 1)) (by decide) dX5_turnsBy_104 ?_
          refine g_iadd C dX5_turnsBy_105 ?_
          refine g_top (y := (nI ((i + s) + 1))) (nI_add (i + s) 1) ?_
          refine g_ishl C dX5_turnsBy_106 ?_
          refine g_top (y := nI (2 ^ (i + s + 1))) (sh_nI (by omega)) ?_
          refine g_goto C (tgt := 111) (by decide) dX5_turnsBy_107 ?_
          refine g_ior C dX5_turnsBy_111 ?_
          refine g_top (y := nI (D1 true wh g s i ||| 2 ^ (i + s + 1))) (or_nI _ _) ?_
          refine g_istore C (L' := [(6, .int (nI (D1 true wh g s i ||| 2 ^ (i + s + 1)))), (9, .int (nI 1)), (8, .int (nI ((wh (i + s)) + (g i)))), (7, .int (nI i)), (5, .int (nI ((s + 5) + re))), (0, .ref (ad w 44)), (1, .ref (ad w 45)), (2, .int (nI 12)), (3, .int (nI s)), (4, .int (nI 1))]) (by decide) rfl dX5_turnsBy_112 ?_
          refine g_iinc C (n := 1) (v := (nI (i + 1))) (L' := [(7, .int (nI (i + 1))), (6, .int (nI (D1 true wh g s i ||| 2 ^ (i + s + 1)))), (9, .int (nI 1)), (8, .int (nI ((wh (i + s)) + (g i)))), (5, .int (nI ((s + 5) + re))), (0, .ref (ad w 44)), (1, .ref (ad w 45)), (2, .int (nI 12)), (3, .int (nI s)), (4, .int (nI 1))]) 3 rfl (nI_add i 1) (by decide) rfl dX5_turnsBy_114 ?_
          refine g_goto C (tgt := 19) (by decide) dX5_turnsBy_117 ?_
          have hcr : cry true (wh (i + s)) (g i) = 1 := (by simp only [cry, if_true]; exact if_pos h51)
          have hD : D1 true wh g s (i + 1) = D1 true wh g s i ||| 2 ^ (i + s + 1) := by
            show (if cry true (wh (i + s)) (g i) = 1 then _ else _) = _
            rw [hcr, if_pos rfl]
          refine g_sub (L' := [(7, .int (nI (i + 1))), (6, .int (nI (D1 true wh g s i ||| 2 ^ (i + s + 1)))), (5, .int (nI ((s + 5) + re))), (0, .ref (ad w 44)), (1, .ref (ad w 45)), (2, .int (nI 12)), (3, .int (nI s)), (4, .int (nI 1))]) [0, 1, 4, 5, 6, 7, 8, 9] rfl ?_
          refine g_eq (L' := [(7, .int (nI (i + 1))), (6, .int (nI (D1 true wh g s (i + 1)))), (5, .int (nI ((s + 5) + re))), (0, .ref (ad w 44)), (1, .ref (ad w 45)), (2, .int (nI 12)), (3, .int (nI s)), (4, .int (nI 1))]) rfl rfl (by rw [hD]) rfl ?_
          refine g_sgE (sg' := (us sg 45 (emb 12 (p1 true wh g s (i + 1)) (sg 45)))) (congrArg (us sg 45) (emb_upd (by omega) p1_s (fun m _ hm => p1_n hm))) ?_
          exact ihlpa (i + 1)  (by omega) (by omega) trivial
        ·
          refine g_iload C 0 rfl dX5_turnsBy_54 ?_
          refine g_if_ge C (tgt := 63) (by decide) dX5_turnsBy_56 (fun h56 => ?_) (fun h56 => absurd (nI_pos' (by have := hw9 (i + s) (by omega); have := hg9 i (by omega); omega)) h56)
          refine g_iconst C (v := (nI 0)) (by decide) dX5_turnsBy_63 ?_
          refine g_istore C (L' := [(9, .int (nI 0)), (8, .int (nI ((wh (i + s)) + (g i)))), (7, .int (nI i)), (6, .int (nI (D1 true wh g s i))), (5, .int (nI ((s + 5) + re))), (0, .ref (ad w 44)), (1, .ref (ad w 45)), (2, .int (nI 12)), (3, .int (nI s)), (4, .int (nI 1))]) (by decide) rfl dX5_turnsBy_64 ?_
          refine g_aload_n C 6 rfl rfl dX5_turnsBy_66 ?_
          refine g_iload_n C 7 rfl rfl dX5_turnsBy_67 ?_
          refine g_iload C 2 rfl dX5_turnsBy_68 ?_
          refine g_iadd C dX5_turnsBy_70 ?_
          refine g_top (y := (nI (12 + i))) (nI_add 12 i) ?_
          refine g_iload_n C 8 rfl rfl dX5_turnsBy_71 ?_
          refine g_iadd C dX5_turnsBy_72 ?_
          refine g_top (y := (nI ((12 + i) + s))) (nI_add (12 + i) s) ?_
          refine g_top (y := (nI (12 + (i + s)))) (congrArg nI (by omega)) ?_
          refine g_iload C 0 rfl dX5_turnsBy_73 ?_
          refine g_if_eq C (tgt := 89) (by decide) dX5_turnsBy_75 (fun h75 => ?_) (fun h75 => absurd h75 (by decide))
          refine g_iload C 1 rfl dX5_turnsBy_89 ?_
          refine g_top (y := nI (stp true (wh (i + s)) (g i))) (congrArg nI (by simp only [stp, if_true]; exact (if_neg (by omega)).symm)) ?_
          refine g_iastN C (12 + (i + s)) e_45 (by omega) (by decide) dX5_turnsBy_91 ?_
          refine g_sgE (sg' := (us sg 45 (upd (emb 12 (p1 true wh g s i) (sg 45)) (12 + (i + s)) (nI (stp true (wh (i + s)) (g i)))))) us_us ?_
          refine g_iload C 3 rfl dX5_turnsBy_92 ?_
          refine g_iload C 0 rfl dX5_turnsBy_94 ?_
          refine g_if_eq C (tgt := 110) (by decide) dX5_turnsBy_96 (fun h96 => ?_) (fun h96 => absurd h96 (by decide))
          refine g_iconst C (v := (nI 0)) (by decide) dX5_turnsBy_110 ?_
          refine g_ior C dX5_turnsBy_111 ?_
          refine g_top (y := nI (D1 true wh g s i ||| 0)) (or_nI _ _) ?_
          refine g_istore C (L' := [(6, .int (nI (D1 true wh g s i ||| 0))), (9, .int (nI 0)), (8, .int (nI ((wh (i + s)) + (g i)))), (7, .int (nI i)), (5, .int (nI ((s + 5) + re))), (0, .ref (ad w 44)), (1, .ref (ad w 45)), (2, .int (nI 12)), (3, .int (nI s)), (4, .int (nI 1))]) (by decide) rfl dX5_turnsBy_112 ?_
          refine g_iinc C (n := 1) (v := (nI (i + 1))) (L' := [(7, .int (nI (i + 1))), (6, .int (nI (D1 true wh g s i ||| 0))), (9, .int (nI 0)), (8, .int (nI ((wh (i + s)) + (g i)))), (5, .int (nI ((s + 5) + re))), (0, .ref (ad w 44)), (1, .ref (ad w 45)), (2, .int (nI 12)), (3, .int (nI s)), (4, .int (nI 1))]) 3 rfl (nI_add i 1) (by decide) rfl dX5_turnsBy_114 ?_
          refine g_goto C (tgt := 19) (by decide) dX5_turnsBy_117 ?_
          have hcr : cry true (wh (i + s)) (g i) = 0 := (by simp only [cry, if_true]; exact if_neg (by omega))
          have hD : D1 true wh g s (i + 1) = D1 true wh g s i ||| 0 := by
            show (if cry true (wh (i + s)) (g i) = 1 then _ else _) = _
            rw [hcr, if_neg (by decide), Nat.or_zero]
          refine g_sub (L' := [(7, .int (nI (i + 1))), (6, .int (nI (D1 true wh g s i ||| 0))), (5, .int (nI ((s + 5) + re))), (0, .ref (ad w 44)), (1, .ref (ad w 45)), (2, .int (nI 12)), (3, .int (nI s)), (4, .int (nI 1))]) [0, 1, 4, 5, 6, 7, 8, 9] rfl ?_
          refine g_eq (L' := [(7, .int (nI (i + 1))), (6, .int (nI (D1 true wh g s (i + 1)))), (5, .int (nI ((s + 5) + re))), (0, .ref (ad w 44)), (1, .ref (ad w 45)), (2, .int (nI 12)), (3, .int (nI s)), (4, .int (nI 1))]) rfl rfl (by rw [hD]) rfl ?_
          refine g_sgE (sg' := (us sg 45 (emb 12 (p1 true wh g s (i + 1)) (sg 45)))) (congrArg (us sg 45) (emb_upd (by omega) p1_s (fun m _ hm => p1_n hm))) ?_
          exact ihlpa (i + 1)  (by omega) (by omega) trivial
  refine g_sgE (sg' := (us sg 45 (emb 12 (p1 true wh g s 0) (sg 45)))) (by rw [hemb0, us_id]) ?_
  refine g_sub (L' := [(7, .int (nI 0)), (6, .int (nI 0)), (5, .int (nI ((s + 5) + re))), (0, .ref (ad w 44)), (1, .ref (ad w 45)), (2, .int (nI 12)), (3, .int (nI s)), (4, .int (nI 1))]) [0, 1, 2, 3, 4, 5, 6, 7] rfl ?_
  exact lpa (6 + 1) 0  (by omega) (by omega) trivial
set_option maxRecDepth 100000 in
set_option maxHeartbeats 400000 in
theorem c_X5_turnsBy_now_dn (w : GW) (tu : Int64) (sg : Sg) (s : Nat) (wh g : Nat → Nat) (re : Nat) (hs6 : s ≤ 6) (hre : sg 45 32 = nI re) (hr12 : re ≤ 12) (hwh : ∀ k, k < 12 → sg 45 (12 + k) = nI (wh k)) (hw9 : ∀ k, k < 12 → wh k ≤ 9) (hgi : ∀ i, i < 6 → sg 50 i = nI (g i)) (hg9 : ∀ i, i < 6 → g i ≤ 9) : Kt w yX5_turnsBy cX5_turnsBy 10 (some .boolean) 0 [.ref (ad w 44), .ref (ad w 45), .int (nI 12), .int (nI s), .int (-1)] sg tu (some (.int (bI (blP false wh g s (s + 5 + re))))) (us sg 45 (emb 12 (tw false wh g s (s + 5 + re)) (sg 45))) tu := by
  refine Kt.of2 RX5 rfl [(0, .ref (ad w 44)), (1, .ref (ad w 45)), (2, .int (nI 12)), (3, .int (nI s)), (4, .int (-1))] (by decide) rfl (Nat.le_of_ble_eq_true rfl) (fun z C E => ?_)
  have hemb0 : emb 12 (p1 false wh g s 0) (sg 45) = sg 45 := by
    funext j
    unfold emb
    split
    · rename_i hj
      rw [p1_0, ← hwh (j - 12) (by omega)]
      congr 1
      omega
    · rfl
  refine g_iload_n C 3 rfl rfl dX5_turnsBy_0 ?_
  refine g_iconst C (v := (nI 5)) (by decide) dX5_turnsBy_1 ?_
  refine g_iadd C dX5_turnsBy_2 ?_
  refine g_top (y := (nI (s + 5))) (nI_add s 5) ?_
  refine g_aload_n C 0 rfl rfl dX5_turnsBy_3 ?_
  refine g_getR C (j := 0) cls5 e_44 rfl (by decide) fl_X5_7 dX5_turnsBy_4 ?_
  refine g_bipush C (v := (nI 32)) (by decide) dX5_turnsBy_7 ?_
  refine g_ialdN C 32 e_45 (by decide) (by decide) dX5_turnsBy_9 ?_
  refine g_top (y := (nI re)) hre ?_
  refine g_iadd C dX5_turnsBy_10 ?_
  refine g_top (y := (nI ((s + 5) + re))) (nI_add (s + 5) re) ?_
  refine g_istore C (L' := [(5, .int (nI ((s + 5) + re))), (0, .ref (ad w 44)), (1, .ref (ad w 45)), (2, .int (nI 12)), (3, .int (nI s)), (4, .int (-1))]) (by decide) rfl dX5_turnsBy_11 ?_
  refine g_iconst C (v := (nI 0)) (by decide) dX5_turnsBy_13 ?_
  refine g_istore C (L' := [(6, .int (nI 0)), (5, .int (nI ((s + 5) + re))), (0, .ref (ad w 44)), (1, .ref (ad w 45)), (2, .int (nI 12)), (3, .int (nI s)), (4, .int (-1))]) (by decide) rfl dX5_turnsBy_14 ?_
  refine g_iconst C (v := (nI 0)) (by decide) dX5_turnsBy_16 ?_
  refine g_istore C (L' := [(7, .int (nI 0)), (6, .int (nI 0)), (5, .int (nI ((s + 5) + re))), (0, .ref (ad w 44)), (1, .ref (ad w 45)), (2, .int (nI 12)), (3, .int (nI s)), (4, .int (-1))]) (by decide) rfl dX5_turnsBy_17 ?_
  have lpa : ∀ (nf i : Nat), 6 < i + nf → i ≤ 6 → (True) → G z w 10 (us sg 45 (emb 12 (p1 false wh g s i) (sg 45))) tu 19 [(7, .int (nI i)), (6, .int (nI (D1 false wh g s i))), (5, .int (nI ((s + 5) + re))), (0, .ref (ad w 44)), (1, .ref (ad w 45)), (2, .int (nI 12)), (3, .int (nI s)), (4, .int (-1))] [] := by
    intro nf
    induction nf with
    | zero => intro i  h1 h2 hI; exact absurd h1 (by omega)
    | succ nf ihlpa =>
      intro i  h1 h2 hI
      refine g_iload C 0 rfl dX5_turnsBy_19 ?_
      refine g_bipush C (v := (nI 6)) (by decide) dX5_turnsBy_21 ?_
      refine g_icmpN_ge C i 6 (by omega) (by omega) (tgt := 120) (by decide) dX5_turnsBy_23 (fun h23 => ?_) (fun h23 => ?_)
      ·
        have hiN : 6 = i := by omega
        subst hiN
        refine g_iload_n C 6 rfl rfl dX5_turnsBy_120 ?_
        refine g_istore C (L' := [(7, .int (nI s)), (6, .int (nI (D1 false wh g s 6))), (5, .int (nI ((s + 5) + re))), (0, .ref (ad w 44)), (1, .ref (ad w 45)), (2, .int (nI 12)), (3, .int (nI s)), (4, .int (-1))]) (by decide) rfl dX5_turnsBy_121 ?_
        have lpb : ∀ (nf k D : Nat), 12 < k + nf → k ≤ 12 → s ≤ k → D2 false wh g s (s + 5 + re) k D → G z w 10 (us sg 45 (emb 12 (q2 false wh g s (s + 5 + re) k) (sg 45))) tu 123 [(7, .int (nI k)), (6, .int (nI D)), (5, .int (nI ((s + 5) + re))), (0, .ref (ad w 44)), (1, .ref (ad w 45)), (2, .int (nI 12)), (3, .int (nI s)), (4, .int (-1))] [] := by
          intro nf
          induction nf with
          | zero => intro k D h1 h2 h3 hD; exact absurd h1 (by omega)
          | succ nf ih =>
            intro k D h1 h2 h3 hD
            have hD31 : D < 2 ^ 31 := Nat.lt_of_lt_of_le hD.1 (by decide)
            refine g_iload C 0 rfl dX5_turnsBy_123 ?_
            refine g_bipush C (v := (nI 12)) (by decide) dX5_turnsBy_125 ?_
            refine g_icmpN_ge C k 12 (by omega) (by omega) (tgt := 228) (by decide) dX5_turnsBy_127 (fun h127 => ?_) (fun h127 => ?_)
            ·
              have hkN : k = 12 := by omega
              subst hkN
              refine g_iload C 1 rfl dX5_turnsBy_228 ?_
              refine g_bipush C (v := (nI 12)) (by decide) dX5_turnsBy_230 ?_
              refine g_ishr C dX5_turnsBy_232 ?_
              refine g_iconst C (v := (nI 1)) (by decide) dX5_turnsBy_233 ?_
              refine g_iand C dX5_turnsBy_234 ?_
              refine g_top (y := nI (D / 2 ^ 12 % 2)) (bt_nI hD31 (by omega)) ?_
              refine g_iconst C (v := (nI 1)) (by decide) dX5_turnsBy_235 ?_
              refine g_icmpN_ne C (D / 2 ^ 12 % 2) 1 (by omega) (by omega) (tgt := 250) (by decide) dX5_turnsBy_236 (fun h236 => ?_) (fun h236 => ?_)
              ·
                refine g_iconst C (v := (nI 0)) (by decide) dX5_turnsBy_250 ?_
                exact g_zret C E dX5_turnsBy_251 (by decide +kernel) (bI_f (fun q => h236 (tb_iff.mpr (hD.2.1.mpr q.1)))).symm (Sq.us fun j hj => congrFun (emb_eq (fun m hm => q2_end hm)) j) rfl
              ·
                refine g_bipush C (v := (nI 12)) (by decide) dX5_turnsBy_239 ?_
                refine g_iload C 2 rfl dX5_turnsBy_241 ?_
                refine g_icmpN_gt C 12 ((s + 5) + re) (by omega) (by omega) (tgt := 250) (by decide) dX5_turnsBy_243 (fun h243 => ?_) (fun h243 => ?_)
                ·
                  refine g_iconst C (v := (nI 0)) (by decide) dX5_turnsBy_250 ?_
                  exact g_zret C E dX5_turnsBy_251 (by decide +kernel) (bI_f (fun q => absurd q.2 (by omega))).symm (Sq.us fun j hj => congrFun (emb_eq (fun m hm => q2_end hm)) j) rfl
                ·
                  refine g_iconst C (v := (nI 1)) (by decide) dX5_turnsBy_246 ?_
                  refine g_goto C (tgt := 251) (by decide) dX5_turnsBy_247 ?_
                  exact g_zret C E dX5_turnsBy_251 (by decide +kernel) (bI_t ⟨hD.2.1.mp (tb_iff.mp h236), h243⟩).symm (Sq.us fun j hj => congrFun (emb_eq (fun m hm => q2_end hm)) j) rfl
            ·
              have hq := q2_s hw9 hg9 h3 (show k < 12 by omega) (by omega) hD
              have hqk9 : q2 false wh g s (s + 5 + re) k k ≤ 9 := by rw [q2_kk]; exact p1_le hw9 hg9 (Nat.le_refl 6) (by omega)
              refine g_iload C 1 rfl dX5_turnsBy_130 ?_
              refine g_iload C 0 rfl dX5_turnsBy_132 ?_
              refine g_ishr C dX5_turnsBy_134 ?_
              refine g_iconst C (v := (nI 1)) (by decide) dX5_turnsBy_135 ?_
              refine g_iand C dX5_turnsBy_136 ?_
              refine g_top (y := nI (D / 2 ^ k % 2)) (bt_nI hD31 (by omega)) ?_
              refine g_iconst C (v := (nI 1)) (by decide) dX5_turnsBy_137 ?_
              refine g_icmpN_ne C (D / 2 ^ k % 2) 1 (by omega) (by omega) (tgt := 222) (by decide) dX5_turnsBy_138 (fun h138 => ?_) (fun h138 => ?_)
              ·
                have hno : ¬ (D.testBit k = true ∧ k ≤ (s + 5 + re)) := fun q => h138 (tb_iff.mpr q.1)
                refine g_iinc C (n := 1) (v := (nI (k + 1))) (L' := [(7, .int (nI (k + 1))), (6, .int (nI D)), (5, .int (nI ((s + 5) + re))), (0, .ref (ad w 44)), (1, .ref (ad w 45)), (2, .int (nI 12)), (3, .int (nI s)), (4, .int (-1))]) 0 rfl (nI_add k 1) (by decide) rfl dX5_turnsBy_222 ?_
                refine g_goto C (tgt := 123) (by decide) dX5_turnsBy_225 ?_
                refine g_sub (L' := [(7, .int (nI (k + 1))), (6, .int (nI D)), (5, .int (nI ((s + 5) + re))), (0, .ref (ad w 44)), (1, .ref (ad w 45)), (2, .int (nI 12)), (3, .int (nI s)), (4, .int (-1))]) [0, 1, 2, 3, 4, 5, 6, 7] rfl ?_
                refine g_sgE (sg' := (us sg 45 (emb 12 (q2 false wh g s (s + 5 + re) (k + 1)) (sg 45)))) (congrArg (us sg 45) (emb_eq (fun m _ => q2_no (hq.2 hno).1 m))) ?_
                exact ih (k + 1) D (by omega) (by omega) (by omega) (hq.2 hno).2
              ·
                refine g_iload C 0 rfl dX5_turnsBy_141 ?_
                refine g_iload C 2 rfl dX5_turnsBy_143 ?_
                refine g_icmpN_gt C k ((s + 5) + re) (by omega) (by omega) (tgt := 222) (by decide) dX5_turnsBy_145 (fun h145 => ?_) (fun h145 => ?_)
                ·
                  have hno : ¬ (D.testBit k = true ∧ k ≤ (s + 5 + re)) := fun q => absurd q.2 (by omega)
                  refine g_iinc C (n := 1) (v := (nI (k + 1))) (L' := [(7, .int (nI (k + 1))), (6, .int (nI D)), (5, .int (nI ((s + 5) + re))), (0, .ref (ad w 44)), (1, .ref (ad w 45)), (2, .int (nI 12)), (3, .int (nI s)), (4, .int (-1))]) 0 rfl (nI_add k 1) (by decide) rfl dX5_turnsBy_222 ?_
                  refine g_goto C (tgt := 123) (by decide) dX5_turnsBy_225 ?_
                  refine g_sub (L' := [(7, .int (nI (k + 1))), (6, .int (nI D)), (5, .int (nI ((s + 5) + re))), (0, .ref (ad w 44)), (1, .ref (ad w 45)), (2, .int (nI 12)), (3, .int (nI s)), (4, .int (-1))]) [0, 1, 2, 3, 4, 5, 6, 7] rfl ?_
                  refine g_sgE (sg' := (us sg 45 (emb 12 (q2 false wh g s (s + 5 + re) (k + 1)) (sg 45)))) (congrArg (us sg 45) (emb_eq (fun m _ => q2_no (hq.2 hno).1 m))) ?_
                  exact ih (k + 1) D (by omega) (by omega) (by omega) (hq.2 hno).2
                ·
                  have hyes : D.testBit k = true ∧ k ≤ (s + 5 + re) := ⟨tb_iff.mp h138, by omega⟩
                  refine g_aload_n C 4 rfl rfl dX5_turnsBy_148 ?_
                  refine g_iload_n C 5 rfl rfl dX5_turnsBy_149 ?_
                  refine g_iload C 0 rfl dX5_turnsBy_150 ?_
                  refine g_iadd C dX5_turnsBy_152 ?_
                  refine g_top (y := (nI (12 + k))) (nI_add 12 k) ?_
                  refine g_ialdN C (12 + k) e_45 (by omega) (by decide) dX5_turnsBy_153 ?_
                  refine g_top (y := ((emb 12 (q2 false wh g s (s + 5 + re) k) (sg 45)) (12 + k))) rfl ?_
                  refine g_top (y := nI (q2 false wh g s (s + 5 + re) k k)) (emb_in (by omega)) ?_
                  refine g_iload C 7 rfl dX5_turnsBy_154 ?_
                  refine g_iadd C dX5_turnsBy_156 ?_
                  by_cases hc : 1 ≤ q2 false wh g s (s + 5 + re) k k
                  ·
                    refine g_top (y := nI (q2 false wh g s (s + 5 + re) k k - 1)) (dn_C _ (by omega) hc) ?_
                    refine g_istore C (L' := [(8, .int (nI (q2 false wh g s (s + 5 + re) k k - 1))), (7, .int (nI k)), (6, .int (nI D)), (5, .int (nI ((s + 5) + re))), (0, .ref (ad w 44)), (1, .ref (ad w 45)), (2, .int (nI 12)), (3, .int (nI s)), (4, .int (-1))]) (by decide) rfl dX5_turnsBy_157 ?_
                    refine g_iload C 0 rfl dX5_turnsBy_159 ?_
                    refine g_bipush C (v := (nI 9)) (by decide) dX5_turnsBy_161 ?_
                    refine g_icmpN_gt C (q2 false wh g s (s + 5 + re) k k - 1) 9 (by omega) (by omega) (tgt := 171) (by decide) dX5_turnsBy_163 (fun h163 => absurd h163 (by omega)) (fun h163 => ?_)
                    refine g_iload C 0 rfl dX5_turnsBy_166 ?_
                    refine g_if_ge C (tgt := 175) (by decide) dX5_turnsBy_168 (fun h168 => ?_) (fun h168 => absurd (nI_pos' (by omega)) h168)
                    refine g_iconst C (v := (nI 0)) (by decide) dX5_turnsBy_175 ?_
                    refine g_istore C (L' := [(9, .int (nI 0)), (8, .int (nI (q2 false wh g s (s + 5 + re) k k - 1))), (7, .int (nI k)), (6, .int (nI D)), (5, .int (nI ((s + 5) + re))), (0, .ref (ad w 44)), (1, .ref (ad w 45)), (2, .int (nI 12)), (3, .int (nI s)), (4, .int (-1))]) (by decide) rfl dX5_turnsBy_176 ?_
                    refine g_aload_n C 6 rfl rfl dX5_turnsBy_178 ?_
                    refine g_iload_n C 7 rfl rfl dX5_turnsBy_179 ?_
                    refine g_iload C 2 rfl dX5_turnsBy_180 ?_
                    refine g_iadd C dX5_turnsBy_182 ?_
                    refine g_top (y := (nI (12 + k))) (nI_add 12 k) ?_
                    refine g_iload C 0 rfl dX5_turnsBy_183 ?_
                    refine g_if_eq C (tgt := 199) (by decide) dX5_turnsBy_185 (fun h185 => ?_) (fun h185 => absurd h185 (by decide))
                    refine g_iload C 1 rfl dX5_turnsBy_199 ?_
                    refine g_top (y := nI (stp false (q2 false wh g s (s + 5 + re) k k) 1)) (congrArg nI (by simp only [stp, Bool.false_eq_true, if_false]; exact (if_neg (by omega)).symm)) ?_
                    refine g_iastN C (12 + k) e_45 (by omega) (by decide) dX5_turnsBy_201 ?_
                    refine g_sgE (sg' := (us sg 45 (upd (emb 12 (q2 false wh g s (s + 5 + re) k) (sg 45)) (12 + k) (nI (stp false (q2 false wh g s (s + 5 + re) k k) 1))))) us_us ?_
                    refine g_iload C 3 rfl dX5_turnsBy_202 ?_
                    refine g_iload C 0 rfl dX5_turnsBy_204 ?_
                    refine g_if_eq C (tgt := 218) (by decide) dX5_turnsBy_206 (fun h206 => ?_) (fun h206 => absurd h206 (by decide))
                    refine g_iconst C (v := (nI 0)) (by decide) dX5_turnsBy_218 ?_
                    refine g_ior C dX5_turnsBy_219 ?_
                    refine g_top (y := nI (D ||| 0)) (or_nI _ _) ?_
                    have hcr : ¬ cry false (q2 false wh g s (s + 5 + re) k k) 1 = 1 := (by simp only [cry, Bool.false_eq_true, if_false]; rw [if_neg (by omega)]; decide)
                    refine g_istore C (L' := [(6, .int (nI (D ||| 0))), (9, .int (nI 0)), (8, .int (nI (q2 false wh g s (s + 5 + re) k k - 1))), (7, .int (nI k)), (5, .int (nI ((s + 5) + re))), (0, .ref (ad w 44)), (1, .ref (ad w 45)), (2, .int (nI 12)), (3, .int (nI s)), (4, .int (-1))]) (by decide) rfl dX5_turnsBy_220 ?_
                    refine g_iinc C (n := 1) (v := (nI (k + 1))) (L' := [(7, .int (nI (k + 1))), (6, .int (nI (D ||| 0))), (9, .int (nI 0)), (8, .int (nI (q2 false wh g s (s + 5 + re) k k - 1))), (5, .int (nI ((s + 5) + re))), (0, .ref (ad w 44)), (1, .ref (ad w 45)), (2, .int (nI 12)), (3, .int (nI s)), (4, .int (-1))]) 3 rfl (nI_add k 1) (by decide) rfl dX5_turnsBy_222 ?_
                    refine g_goto C (tgt := 123) (by decide) dX5_turnsBy_225 ?_
                    refine g_sub (L' := [(7, .int (nI (k + 1))), (6, .int (nI (D ||| 0))), (5, .int (nI ((s + 5) + re))), (0, .ref (ad w 44)), (1, .ref (ad w 45)), (2, .int (nI 12)), (3, .int (nI s)), (4, .int (-1))]) [0, 1, 4, 5, 6, 7, 8, 9] rfl ?_
                    refine g_sgE (sg' := (us sg 45 (emb 12 (q2 false wh g s (s + 5 + re) (k + 1)) (sg 45)))) (congrArg (us sg 45) (emb_upd (by omega) (by rw [q2_k]; exact (hq.1 hyes).1) (fun m _ hm => q2_n hm))) ?_
                    exact ih (k + 1) (D ||| 0) (by omega) (by omega) (by omega) (by rw [Nat.or_zero]; exact (hq.1 hyes).2.2 hcr)
                  ·
                    have hq0 : q2 false wh g s (s + 5 + re) k k = 0 := by omega
                    refine g_top (y := nI 0 + (-1)) (by rw [hq0]) ?_
                    refine g_istore C (L' := [(8, .int (nI 0 + (-1))), (7, .int (nI k)), (6, .int (nI D)), (5, .int (nI ((s + 5) + re))), (0, .ref (ad w 44)), (1, .ref (ad w 45)), (2, .int (nI 12)), (3, .int (nI s)), (4, .int (-1))]) (by decide) rfl dX5_turnsBy_157 ?_
                    refine g_iload C 0 rfl dX5_turnsBy_159 ?_
                    refine g_bipush C (v := (nI 9)) (by decide) dX5_turnsBy_161 ?_
                    refine g_icmp_gt C (tgt := 171) (by decide) dX5_turnsBy_163 (fun h163 => absurd h163 (by decide)) (fun h163 => ?_)
                    refine g_iload C 0 rfl dX5_turnsBy_166 ?_
                    refine g_if_ge C (tgt := 175) (by decide) dX5_turnsBy_168 (fun h168 => absurd h168 (by decide)) (fun h168 => ?_)
                    refine g_iconst C (v := (nI 1)) (by decide) dX5_turnsBy_171 ?_
                    refine g_goto C (tgt := 176) (by decide) dX5_turnsBy_172 ?_
                    refine g_istore C (L' := [(9, .int (nI 1)), (8, .int (nI 0 + (-1))), (7, .int (nI k)), (6, .int (nI D)), (5, .int (nI ((s + 5) + re))), (0, .ref (ad w 44)), (1, .ref (ad w 45)), (2, .int (nI 12)), (3, .int (nI s)), (4, .int (-1))]) (by decide) rfl dX5_turnsBy_176 ?_
                    refine g_aload_n C 6 rfl rfl dX5_turnsBy_178 ?_
                    refine g_iload_n C 7 rfl rfl dX5_turnsBy_179 ?_
                    refine g_iload C 2 rfl dX5_turnsBy_180 ?_
                    refine g_iadd C dX5_turnsBy_182 ?_
                    refine g_top (y := (nI (12 + k))) (nI_add 12 k) ?_
                    refine g_iload C 0 rfl dX5_turnsBy_183 ?_
                    refine g_if_eq C (tgt := 199) (by decide) dX5_turnsBy_185 (fun h185 => absurd h185 (by decide)) (fun h185 => ?_)
                    refine g_iload C 1 rfl dX5_turnsBy_188 ?_
                    refine g_bipush C (v := (nI 10)) (by decide) dX5_turnsBy_190 ?_
                    refine g_iload C 9 rfl dX5_turnsBy_192 ?_
                    refine g_imul C dX5_turnsBy_194 ?_
                    refine g_isub C dX5_turnsBy_195 ?_
                    refine g_top (y := nI (stp false (q2 false wh g s (s + 5 + re) k k) 1)) (by rw [hq0]; decide) ?_
                    refine g_goto C (tgt := 201) (by decide) dX5_turnsBy_196 ?_
                    refine g_iastN C (12 + k) e_45 (by omega) (by decide) dX5_turnsBy_201 ?_
                    refine g_sgE (sg' := (us sg 45 (upd (emb 12 (q2 false wh g s (s + 5 + re) k) (sg 45)) (12 + k) (nI (stp false (q2 false wh g s (s + 5 + re) k k) 1))))) us_us ?_
                    refine g_iload C 3 rfl dX5_turnsBy_202 ?_
                    refine g_iload C 0 rfl dX5_turnsBy_204 ?_
                    refine g_if_eq C (tgt := 218) (by decide) dX5_turnsBy_206 (fun h206 => absurd h206 (by decide)) (fun h206 => ?_)
                    refine g_iconst C (v := (nI 1)) (by decide) dX5_turnsBy_209 ?_
                    refine g_iload C 2 rfl dX5_turnsBy_210 ?_
                    refine g_iconst C (v := (nI 1)) (by decide) dX5_turnsBy_212 ?_
                    refine g_iadd C dX5_turnsBy_213 ?_
                    refine g_top (y := (nI (k + 1))) (nI_add k 1) ?_
                    refine g_ishl C dX5_turnsBy_214 ?_
                    refine g_top (y := nI (2 ^ (k + 1))) (sh_nI (by omega)) ?_
                    refine g_goto C (tgt := 219) (by decide) dX5_turnsBy_215 ?_
                    refine g_ior C dX5_turnsBy_219 ?_
                    refine g_top (y := nI (D ||| 2 ^ (k + 1))) (or_nI _ _) ?_
                    have hcr : cry false (q2 false wh g s (s + 5 + re) k k) 1 = 1 := (by rw [hq0]; decide)
                    refine g_istore C (L' := [(6, .int (nI (D ||| 2 ^ (k + 1)))), (9, .int (nI 1)), (8, .int (nI 0 + (-1))), (7, .int (nI k)), (5, .int (nI ((s + 5) + re))), (0, .ref (ad w 44)), (1, .ref (ad w 45)), (2, .int (nI 12)), (3, .int (nI s)), (4, .int (-1))]) (by decide) rfl dX5_turnsBy_220 ?_
                    refine g_iinc C (n := 1) (v := (nI (k + 1))) (L' := [(7, .int (nI (k + 1))), (6, .int (nI (D ||| 2 ^ (k + 1)))), (9, .int (nI 1)), (8, .int (nI 0 + (-1))), (5, .int (nI ((s + 5) + re))), (0, .ref (ad w 44)), (1, .ref (ad w 45)), (2, .int (nI 12)), (3, .int (nI s)), (4, .int (-1))]) 3 rfl (nI_add k 1) (by decide) rfl dX5_turnsBy_222 ?_
                    refine g_goto C (tgt := 123) (by decide) dX5_turnsBy_225 ?_
                    refine g_sub (L' := [(7, .int (nI (k + 1))), (6, .int (nI (D ||| 2 ^ (k + 1)))), (5, .int (nI ((s + 5) + re))), (0, .ref (ad w 44)), (1, .ref (ad w 45)), (2, .int (nI 12)), (3, .int (nI s)), (4, .int (-1))]) [0, 1, 4, 5, 6, 7, 8, 9] rfl ?_
                    refine g_sgE (sg' := (us sg 45 (emb 12 (q2 false wh g s (s + 5 + re) (k + 1)) (sg 45)))) (congrArg (us sg 45) (emb_upd (by omega) (by rw [q2_k]; exact (hq.1 hyes).1) (fun m _ hm => q2_n hm))) ?_
                    exact ih (k + 1) (D ||| 2 ^ (k + 1)) (by omega) (by omega) (by omega) ((hq.1 hyes).2.1 hcr)
        refine g_sgE (sg' := (us sg 45 (emb 12 (q2 false wh g s (s + 5 + re) s) (sg 45)))) (congrArg (us sg 45) (emb_eq (fun m _ => q2_beg.symm))) ?_
        refine g_sub (L' := [(7, .int (nI s)), (6, .int (nI (D1 false wh g s 6))), (5, .int (nI ((s + 5) + re))), (0, .ref (ad w 44)), (1, .ref (ad w 45)), (2, .int (nI 12)), (3, .int (nI s)), (4, .int (-1))]) [0, 1, 2, 3, 4, 5, 6, 7] rfl ?_
        exact lpb 13 s (D1 false wh g s 6) (by omega) (by omega) (Nat.le_refl _) (D2_0 (by omega))
      ·
        refine g_aload_n C 4 rfl rfl dX5_turnsBy_26 ?_
        refine g_iload_n C 5 rfl rfl dX5_turnsBy_27 ?_
        refine g_iload C 0 rfl dX5_turnsBy_28 ?_
        refine g_iadd C dX5_turnsBy_30 ?_
        refine g_top (y := (nI (12 + i))) (nI_add 12 i) ?_
        refine g_iload_n C 6 rfl rfl dX5_turnsBy_31 ?_
        refine g_iadd C dX5_turnsBy_32 ?_
        refine g_top (y := (nI ((12 + i) + s))) (nI_add (12 + i) s) ?_
        refine g_top (y := (nI (12 + (i + s)))) (congrArg nI (by omega)) ?_
        refine g_ialdN C (12 + (i + s)) e_45 (by omega) (by decide) dX5_turnsBy_33 ?_
        refine g_top (y := ((emb 12 (p1 false wh g s i) (sg 45)) (12 + (i + s)))) rfl ?_
        refine g_top (y := nI (wh (i + s))) (by rw [emb_in (by omega), p1_at]) ?_
        have hb1 := hw9 (i + s) (by omega)
        have hb2 := hg9 i (by omega)
        refine g_iload C 7 rfl dX5_turnsBy_34 ?_
        refine g_aload_n C 3 rfl rfl dX5_turnsBy_36 ?_
        refine g_getR C (j := 7) cls5 e_44 rfl (by decide) fl_X5_25 dX5_turnsBy_37 ?_
        refine g_iload C 0 rfl dX5_turnsBy_40 ?_
        refine g_ialdN C i e_50 (by omega) (by decide) dX5_turnsBy_42 ?_
        refine g_top (y := (sg 50 i)) rfl ?_
        refine g_top (y := nI (g i)) (hgi i (by omega)) ?_
        refine g_imul C dX5_turnsBy_43 ?_
        refine g_iadd C dX5_turnsBy_44 ?_
        by_cases hc : g i ≤ wh (i + s)
        ·
          refine g_top (y := nI (wh (i + s) - g i)) (dn_A _ (by have := hw9 (i + s) (by omega); omega) _ (by have := hg9 i (by omega); omega) hc) ?_
          refine g_istore C (L' := [(8, .int (nI (wh (i + s) - g i))), (7, .int (nI i)), (6, .int (nI (D1 false wh g s i))), (5, .int (nI ((s + 5) + re))), (0, .ref (ad w 44)), (1, .ref (ad w 45)), (2, .int (nI 12)), (3, .int (nI s)), (4, .int (-1))]) (by decide) rfl dX5_turnsBy_45 ?_
          refine g_iload C 0 rfl dX5_turnsBy_47 ?_
          refine g_bipush C (v := (nI 9)) (by decide) dX5_turnsBy_49 ?_
          refine g_icmpN_gt C (wh (i + s) - g i) 9 (by omega) (by omega) (tgt := 59) (by decide) dX5_turnsBy_51 (fun h51 => absurd h51 (by have := hw9 (i + s) (by omega); omega)) (fun h51 => ?_)
          refine g_iload C 0 rfl dX5_turnsBy_54 ?_
          refine g_if_ge C (tgt := 63) (by decide) dX5_turnsBy_56 (fun h56 => ?_) (fun h56 => absurd (nI_pos' (by have := hw9 (i + s) (by omega); have := hg9 i (by omega); omega)) h56)
          refine g_iconst C (v := (nI 0)) (by decide) dX5_turnsBy_63 ?_
          refine g_istore C (L' := [(9, .int (nI 0)), (8, .int (nI (wh (i + s) - g i))), (7, .int (nI i)), (6, .int (nI (D1 false wh g s i))), (5, .int (nI ((s + 5) + re))), (0, .ref (ad w 44)), (1, .ref (ad w 45)), (2, .int (nI 12)), (3, .int (nI s)), (4, .int (-1))]) (by decide) rfl dX5_turnsBy_64 ?_
          refine g_aload_n C 6 rfl rfl dX5_turnsBy_66 ?_
          refine g_iload_n C 7 rfl rfl dX5_turnsBy_67 ?_
          refine g_iload C 2 rfl dX5_turnsBy_68 ?_
          refine g_iadd C dX5_turnsBy_70 ?_
          refine g_top (y := (nI (12 + i))) (nI_add 12 i) ?_
          refine g_iload_n C 8 rfl rfl dX5_turnsBy_71 ?_
          refine g_iadd C dX5_turnsBy_72 ?_
          refine g_top (y := (nI ((12 + i) + s))) (nI_add (12 + i) s) ?_
          refine g_top (y := (nI (12 + (i + s)))) (congrArg nI (by omega)) ?_
          refine g_iload C 0 rfl dX5_turnsBy_73 ?_
          refine g_if_eq C (tgt := 89) (by decide) dX5_turnsBy_75 (fun h75 => ?_) (fun h75 => absurd h75 (by decide))
          refine g_iload C 1 rfl dX5_turnsBy_89 ?_
          refine g_top (y := nI (stp false (wh (i + s)) (g i))) (congrArg nI (by simp only [stp, Bool.false_eq_true, if_false]; exact (if_neg (by omega)).symm)) ?_
          refine g_iastN C (12 + (i + s)) e_45 (by omega) (by decide) dX5_turnsBy_91 ?_
          refine g_sgE (sg' := (us sg 45 (upd (emb 12 (p1 false wh g s i) (sg 45)) (12 + (i + s)) (nI (stp false (wh (i + s)) (g i)))))) us_us ?_
          refine g_iload C 3 rfl dX5_turnsBy_92 ?_
          refine g_iload C 0 rfl dX5_turnsBy_94 ?_
          refine g_if_eq C (tgt := 110) (by decide) dX5_turnsBy_96 (fun h96 => ?_) (fun h96 => absurd h96 (by decide))
          refine g_iconst C (v := (nI 0)) (by decide) dX5_turnsBy_110 ?_
          refine g_ior C dX5_turnsBy_111 ?_
          refine g_top (y := nI (D1 false wh g s i ||| 0)) (or_nI _ _) ?_
          refine g_istore C (L' := [(6, .int (nI (D1 false wh g s i ||| 0))), (9, .int (nI 0)), (8, .int (nI (wh (i + s) - g i))), (7, .int (nI i)), (5, .int (nI ((s + 5) + re))), (0, .ref (ad w 44)), (1, .ref (ad w 45)), (2, .int (nI 12)), (3, .int (nI s)), (4, .int (-1))]) (by decide) rfl dX5_turnsBy_112 ?_
          refine g_iinc C (n := 1) (v := (nI (i + 1))) (L' := [(7, .int (nI (i + 1))), (6, .int (nI (D1 false wh g s i ||| 0))), (9, .int (nI 0)), (8, .int (nI (wh (i + s) - g i))), (5, .int (nI ((s + 5) + re))), (0, .ref (ad w 44)), (1, .ref (ad w 45)), (2, .int (nI 12)), (3, .int (nI s)), (4, .int (-1))]) 3 rfl (nI_add i 1) (by decide) rfl dX5_turnsBy_114 ?_
          refine g_goto C (tgt := 19) (by decide) dX5_turnsBy_117 ?_
          have hcr : cry false (wh (i + s)) (g i) = 0 := (by simp only [cry, Bool.false_eq_true, if_false]; exact if_neg (by omega))
          have hD : D1 false wh g s (i + 1) = D1 false wh g s i ||| 0 := by
            show (if cry false (wh (i + s)) (g i) = 1 then _ else _) = _
            rw [hcr, if_neg (by decide), Nat.or_zero]
          refine g_sub (L' := [(7, .int (nI (i + 1))), (6, .int (nI (D1 false wh g s i ||| 0))), (5, .int (nI ((s + 5) + re))), (0, .ref (ad w 44)), (1, .ref (ad w 45)), (2, .int (nI 12)), (3, .int (nI s)), (4, .int (-1))]) [0, 1, 4, 5, 6, 7, 8, 9] rfl ?_
          refine g_eq (L' := [(7, .int (nI (i + 1))), (6, .int (nI (D1 false wh g s (i + 1)))), (5, .int (nI ((s + 5) + re))), (0, .ref (ad w 44)), (1, .ref (ad w 45)), (2, .int (nI 12)), (3, .int (nI s)), (4, .int (-1))]) rfl rfl (by rw [hD]) rfl ?_
          refine g_sgE (sg' := (us sg 45 (emb 12 (p1 false wh g s (i + 1)) (sg 45)))) (congrArg (us sg 45) (emb_upd (by omega) p1_s (fun m _ hm => p1_n hm))) ?_
          exact ihlpa (i + 1)  (by omega) (by omega) trivial
        ·
          have hc2 := dn_B (wh (i + s)) (by have := hw9 (i + s) (by omega); omega) (g i) (by have := hg9 i (by omega); omega) (by omega)
          refine g_istore C (L' := [(8, .int ((nI (wh (i + s))) + ((-1) * (nI (g i))))), (7, .int (nI i)), (6, .int (nI (D1 false wh g s i))), (5, .int (nI ((s + 5) + re))), (0, .ref (ad w 44)), (1, .ref (ad w 45)), (2, .int (nI 12)), (3, .int (nI s)), (4, .int (-1))]) (by decide) rfl dX5_turnsBy_45 ?_
          refine g_iload C 0 rfl dX5_turnsBy_47 ?_
          refine g_bipush C (v := (nI 9)) (by decide) dX5_turnsBy_49 ?_
          refine g_icmp_gt C (tgt := 59) (by decide) dX5_turnsBy_51 (fun h51 => absurd (show nI 9 < _ from h51) (fun q => by have h9 := hc2.1; rw [Int32.lt_iff_toInt_lt] at h9 q; have e0 : (0 : Int32).toInt = 0 := (by decide); have e9 : (nI 9).toInt = 9 := (by decide); omega)) (fun h51 => ?_)
          refine g_iload C 0 rfl dX5_turnsBy_54 ?_
          refine g_if_ge C (tgt := 63) (by decide) dX5_turnsBy_56 (fun h56 => absurd hc2.1 (Int32.not_lt.mpr h56)) (fun h56 => ?_)
          refine g_iconst C (v := (nI 1)) (by decide) dX5_turnsBy_59 ?_
          refine g_goto C (tgt := 64) (by decide) dX5_turnsBy_60 ?_
          refine g_istore C (L' := [(9, .int (nI 1)), (8, .int ((nI (wh (i + s))) + ((-1) * (nI (g i))))), (7, .int (nI i)), (6, .int (nI (D1 false wh g s i))), (5, .int (nI ((s + 5) + re))), (0, .ref (ad w 44)), (1, .ref (ad w 45)), (2, .int (nI 12)), (3, .int (nI s)), (4, .int (-1))]) (by decide) rfl dX5_turnsBy_64 ?_
          refine g_aload_n C 6 rfl rfl dX5_turnsBy_66 ?_
          refine g_iload_n C 7 rfl rfl dX5_turnsBy_67 ?_
          refine g_iload C 2 rfl dX5_turnsBy_68 ?_
          refine g_iadd C dX5_turnsBy_70 ?_
          refine g_top (y := (nI (12 + i))) (nI_add 12 i) ?_
          refine g_iload_n C 8 rfl rfl dX5_turnsBy_71 ?_
          refine g_iadd C dX5_turnsBy_72 ?_
          refine g_top (y := (nI ((12 + i) + s))) (nI_add (12 + i) s) ?_
          refine g_top (y := (nI (12 + (i + s)))) (congrArg nI (by omega)) ?_
          refine g_iload C 0 rfl dX5_turnsBy_73 ?_
          refine g_if_eq C (tgt := 89) (by decide) dX5_turnsBy_75 (fun h75 => absurd h75 (by decide)) (fun h75 => ?_)
          refine g_iload C 1 rfl dX5_turnsBy_78 ?_
          refine g_bipush C (v := (nI 10)) (by decide) dX5_turnsBy_80 ?_
          refine g_iload C 9 rfl dX5_turnsBy_82 ?_
          refine g_imul C dX5_turnsBy_84 ?_
          refine g_isub C dX5_turnsBy_85 ?_
          refine g_top (y := nI (stp false (wh (i + s)) (g i))) (by rw [show stp false (wh (i + s)) (g i) = wh (i + s) + 10 - g i from by simp only [stp, Bool.false_eq_true, if_false]; exact if_pos (by omega)]; exact hc2.2) ?_
          refine g_goto C (tgt := 91) (by decide) dX5_turnsBy_86 ?_
          refine g_iastN C (12 + (i + s)) e_45 (by omega) (by decide) dX5_turnsBy_91 ?_
          refine g_sgE (sg' := (us sg 45 (upd (emb 12 (p1 false wh g s i) (sg 45)) (12 + (i + s)) (nI (stp false (wh (i + s)) (g i)))))) us_us ?_
          refine g_iload C 3 rfl dX5_turnsBy_92 ?_
          refine g_iload C 0 rfl dX5_turnsBy_94 ?_
          refine g_if_eq C (tgt := 110) (by decide) dX5_turnsBy_96 (fun h96 => absurd h96 (by decide)) (fun h96 => ?_)
          refine g_iconst C (v := (nI 1)) (by decide) dX5_turnsBy_99 ?_
          refine g_iload C 2 rfl dX5_turnsBy_100 ?_
          refine g_iload_n C 8 rfl rfl dX5_turnsBy_102 ?_
          refine g_iadd C dX5_turnsBy_103 ?_
          refine g_top (y := (nI (i + s))) (nI_add i s) ?_
          refine g_iconst C (v := (nI 1)) (by decide) dX5_turnsBy_104 ?_
          refine g_iadd C dX5_turnsBy_105 ?_
          refine g_top (y := (nI ((i + s) + 1))) (nI_add (i + s) 1) ?_
          refine g_ishl C dX5_turnsBy_106 ?_
          refine g_top (y := nI (2 ^ (i + s + 1))) (sh_nI (by omega)) ?_
          refine g_goto C (tgt := 111) (by decide) dX5_turnsBy_107 ?_
          refine g_ior C dX5_turnsBy_111 ?_
          refine g_top (y := nI (D1 false wh g s i ||| 2 ^ (i + s + 1))) (or_nI _ _) ?_
          refine g_istore C (L' := [(6, .int (nI (D1 false wh g s i ||| 2 ^ (i + s + 1)))), (9, .int (nI 1)), (8, .int ((nI (wh (i + s))) + ((-1) * (nI (g i))))), (7, .int (nI i)), (5, .int (nI ((s + 5) + re))), (0, .ref (ad w 44)), (1, .ref (ad w 45)), (2, .int (nI 12)), (3, .int (nI s)), (4, .int (-1))]) (by decide) rfl dX5_turnsBy_112 ?_
          refine g_iinc C (n := 1) (v := (nI (i + 1))) (L' := [(7, .int (nI (i + 1))), (6, .int (nI (D1 false wh g s i ||| 2 ^ (i + s + 1)))), (9, .int (nI 1)), (8, .int ((nI (wh (i + s))) + ((-1) * (nI (g i))))), (5, .int (nI ((s + 5) + re))), (0, .ref (ad w 44)), (1, .ref (ad w 45)), (2, .int (nI 12)), (3, .int (nI s)), (4, .int (-1))]) 3 rfl (nI_add i 1) (by decide) rfl dX5_turnsBy_114 ?_
          refine g_goto C (tgt := 19) (by decide) dX5_turnsBy_117 ?_
          have hcr : cry false (wh (i + s)) (g i) = 1 := (by simp only [cry, Bool.false_eq_true, if_false]; exact if_pos (by omega))
          have hD : D1 false wh g s (i + 1) = D1 false wh g s i ||| 2 ^ (i + s + 1) := by
            show (if cry false (wh (i + s)) (g i) = 1 then _ else _) = _
            rw [hcr, if_pos rfl]
          refine g_sub (L' := [(7, .int (nI (i + 1))), (6, .int (nI (D1 false wh g s i ||| 2 ^ (i + s + 1)))), (5, .int (nI ((s + 5) + re))), (0, .ref (ad w 44)), (1, .ref (ad w 45)), (2, .int (nI 12)), (3, .int (nI s)), (4, .int (-1))]) [0, 1, 4, 5, 6, 7, 8, 9] rfl ?_
          refine g_eq (L' := [(7, .int (nI (i + 1))), (6, .int (nI (D1 false wh g s (i + 1)))), (5, .int (nI ((s + 5) + re))), (0, .ref (ad w 44)), (1, .ref (ad w 45)), (2, .int (nI 12)), (3, .int (nI s)), (4, .int (-1))]) rfl rfl (by rw [hD]) rfl ?_
          refine g_sgE (sg' := (us sg 45 (emb 12 (p1 false wh g s (i + 1)) (sg 45)))) (congrArg (us sg 45) (emb_upd (by omega) p1_s (fun m _ hm => p1_n hm))) ?_
          exact ihlpa (i + 1)  (by omega) (by omega) trivial
  refine g_sgE (sg' := (us sg 45 (emb 12 (p1 false wh g s 0) (sg 45)))) (by rw [hemb0, us_id]) ?_
  refine g_sub (L' := [(7, .int (nI 0)), (6, .int (nI 0)), (5, .int (nI ((s + 5) + re))), (0, .ref (ad w 44)), (1, .ref (ad w 45)), (2, .int (nI 12)), (3, .int (nI s)), (4, .int (-1))]) [0, 1, 2, 3, 4, 5, 6, 7] rfl ?_
  exact lpa (6 + 1) 0  (by omega) (by omega) trivial
set_option maxRecDepth 100000 in
set_option maxHeartbeats 400000 in
theorem c_X5_turnsBy_tri_up (w : GW) (tu : Int64) (sg : Sg) (wh g : Nat → Nat) (re : Nat) (hre : sg 45 32 = nI re) (hr12 : re ≤ 12) (hwh : ∀ k, k < 12 → sg 51 (0 + k) = nI (wh k)) (hw9 : ∀ k, k < 12 → wh k ≤ 9) (hgi : ∀ i, i < 6 → sg 50 i = nI (g i)) (hg9 : ∀ i, i < 6 → g i ≤ 9) : Kt w yX5_turnsBy cX5_turnsBy 10 (some .boolean) 0 [.ref (ad w 44), .ref (ad w 51), .int (nI 0), .int (nI 0), .int (nI 1)] sg tu (some (.int (bI (blP true wh g 0 (5 + re))))) (us sg 51 (emb 0 (tw true wh g 0 (5 + re)) (sg 51))) tu := by
  refine Kt.of2 RX5 rfl [(0, .ref (ad w 44)), (1, .ref (ad w 51)), (2, .int (nI 0)), (3, .int (nI 0)), (4, .int (nI 1))] (by decide) rfl (Nat.le_of_ble_eq_true rfl) (fun z C E => ?_)
  have hemb0 : emb 0 (p1 true wh g 0 0) (sg 51) = sg 51 := by
    funext j
    unfold emb
    split
    · rename_i hj
      rw [p1_0, ← hwh (j - 0) (by omega)]
      congr 1
      omega
    · rfl
  refine g_iload_n C 3 rfl rfl dX5_turnsBy_0 ?_
  refine g_iconst C (v := (nI 5)) (by decide) dX5_turnsBy_1 ?_
  refine g_iadd C dX5_turnsBy_2 ?_
  refine g_top (y := (nI 5)) (by rw [nI_add, Nat.zero_add]) ?_
  refine g_aload_n C 0 rfl rfl dX5_turnsBy_3 ?_
  refine g_getR C (j := 0) cls5 e_44 rfl (by decide) fl_X5_7 dX5_turnsBy_4 ?_
  refine g_bipush C (v := (nI 32)) (by decide) dX5_turnsBy_7 ?_
  refine g_ialdN C 32 e_45 (by decide) (by decide) dX5_turnsBy_9 ?_
  refine g_top (y := (nI re)) hre ?_
  refine g_iadd C dX5_turnsBy_10 ?_
  refine g_top (y := (nI (5 + re))) (nI_add 5 re) ?_
  refine g_istore C (L' := [(5, .int (nI (5 + re))), (0, .ref (ad w 44)), (1, .ref (ad w 51)), (2, .int (nI 0)), (3, .int (nI 0)), (4, .int (nI 1))]) (by decide) rfl dX5_turnsBy_11 ?_
  refine g_iconst C (v := (nI 0)) (by decide) dX5_turnsBy_13 ?_
  refine g_istore C (L' := [(6, .int (nI 0)), (5, .int (nI (5 + re))), (0, .ref (ad w 44)), (1, .ref (ad w 51)), (2, .int (nI 0)), (3, .int (nI 0)), (4, .int (nI 1))]) (by decide) rfl dX5_turnsBy_14 ?_
  refine g_iconst C (v := (nI 0)) (by decide) dX5_turnsBy_16 ?_
  refine g_istore C (L' := [(7, .int (nI 0)), (6, .int (nI 0)), (5, .int (nI (5 + re))), (0, .ref (ad w 44)), (1, .ref (ad w 51)), (2, .int (nI 0)), (3, .int (nI 0)), (4, .int (nI 1))]) (by decide) rfl dX5_turnsBy_17 ?_
  have lpa : ∀ (nf i : Nat), 6 < i + nf → i ≤ 6 → (True) → G z w 10 (us sg 51 (emb 0 (p1 true wh g 0 i) (sg 51))) tu 19 [(7, .int (nI i)), (6, .int (nI (D1 true wh g 0 i))), (5, .int (nI (5 + re))), (0, .ref (ad w 44)), (1, .ref (ad w 51)), (2, .int (nI 0)), (3, .int (nI 0)), (4, .int (nI 1))] [] := by
    intro nf
    induction nf with
    | zero => intro i  h1 h2 hI; exact absurd h1 (by omega)
    | succ nf ihlpa =>
      intro i  h1 h2 hI
      refine g_iload C 0 rfl dX5_turnsBy_19 ?_
      refine g_bipush C (v := (nI 6)) (by decide) dX5_turnsBy_21 ?_
      refine g_icmpN_ge C i 6 (by omega) (by omega) (tgt := 120) (by decide) dX5_turnsBy_23 (fun h23 => ?_) (fun h23 => ?_)
      ·
        have hiN : 6 = i := by omega
        subst hiN
        refine g_iload_n C 6 rfl rfl dX5_turnsBy_120 ?_
        refine g_istore C (L' := [(7, .int (nI 0)), (6, .int (nI (D1 true wh g 0 6))), (5, .int (nI (5 + re))), (0, .ref (ad w 44)), (1, .ref (ad w 51)), (2, .int (nI 0)), (3, .int (nI 0)), (4, .int (nI 1))]) (by decide) rfl dX5_turnsBy_121 ?_
        have lpb : ∀ (nf k D : Nat), 12 < k + nf → k ≤ 12 → 0 ≤ k → D2 true wh g 0 (5 + re) k D → G z w 10 (us sg 51 (emb 0 (q2 true wh g 0 (5 + re) k) (sg 51))) tu 123 [(7, .int (nI k)), (6, .int (nI D)), (5, .int (nI (5 + re))), (0, .ref (ad w 44)), (1, .ref (ad w 51)), (2, .int (nI 0)), (3, .int (nI 0)), (4, .int (nI 1))] [] := by
          intro nf
          induction nf with
          | zero => intro k D h1 h2 h3 hD; exact absurd h1 (by omega)
          | succ nf ih =>
            intro k D h1 h2 h3 hD
            have hD31 : D < 2 ^ 31 := Nat.lt_of_lt_of_le hD.1 (by decide)
            refine g_iload C 0 rfl dX5_turnsBy_123 ?_
            refine g_bipush C (v := (nI 12)) (by decide) dX5_turnsBy_125 ?_
            refine g_icmpN_ge C k 12 (by omega) (by omega) (tgt := 228) (by decide) dX5_turnsBy_127 (fun h127 => ?_) (fun h127 => ?_)
            ·
              have hkN : k = 12 := by omega
              subst hkN
              refine g_iload C 1 rfl dX5_turnsBy_228 ?_
              refine g_bipush C (v := (nI 12)) (by decide) dX5_turnsBy_230 ?_
              refine g_ishr C dX5_turnsBy_232 ?_
              refine g_iconst C (v := (nI 1)) (by decide) dX5_turnsBy_233 ?_
              refine g_iand C dX5_turnsBy_234 ?_
              refine g_top (y := nI (D / 2 ^ 12 % 2)) (bt_nI hD31 (by omega)) ?_
              refine g_iconst C (v := (nI 1)) (by decide) dX5_turnsBy_235 ?_
              refine g_icmpN_ne C (D / 2 ^ 12 % 2) 1 (by omega) (by omega) (tgt := 250) (by decide) dX5_turnsBy_236 (fun h236 => ?_) (fun h236 => ?_)
              ·
                refine g_iconst C (v := (nI 0)) (by decide) dX5_turnsBy_250 ?_
                exact g_zret C E dX5_turnsBy_251 (by decide +kernel) (bI_f (fun q => h236 (tb_iff.mpr (hD.2.1.mpr q.1)))).symm (Sq.us fun j hj => congrFun (emb_eq (fun m hm => q2_end hm)) j) rfl
              ·
                refine g_bipush C (v := (nI 12)) (by decide) dX5_turnsBy_239 ?_
                refine g_iload C 2 rfl dX5_turnsBy_241 ?_
                refine g_icmpN_gt C 12 (5 + re) (by omega) (by omega) (tgt := 250) (by decide) dX5_turnsBy_243 (fun h243 => ?_) (fun h243 => ?_)
                ·
                  refine g_iconst C (v := (nI 0)) (by decide) dX5_turnsBy_250 ?_
                  exact g_zret C E dX5_turnsBy_251 (by decide +kernel) (bI_f (fun q => absurd q.2 (by omega))).symm (Sq.us fun j hj => congrFun (emb_eq (fun m hm => q2_end hm)) j) rfl
                ·
                  refine g_iconst C (v := (nI 1)) (by decide) dX5_turnsBy_246 ?_
                  refine g_goto C (tgt := 251) (by decide) dX5_turnsBy_247 ?_
                  exact g_zret C E dX5_turnsBy_251 (by decide +kernel) (bI_t ⟨hD.2.1.mp (tb_iff.mp h236), h243⟩).symm (Sq.us fun j hj => congrFun (emb_eq (fun m hm => q2_end hm)) j) rfl
            ·
              have hq := q2_s hw9 hg9 h3 (show k < 12 by omega) (by omega) hD
              have hqk9 : q2 true wh g 0 (5 + re) k k ≤ 9 := by rw [q2_kk]; exact p1_le hw9 hg9 (Nat.le_refl 6) (by omega)
              refine g_iload C 1 rfl dX5_turnsBy_130 ?_
              refine g_iload C 0 rfl dX5_turnsBy_132 ?_
              refine g_ishr C dX5_turnsBy_134 ?_
              refine g_iconst C (v := (nI 1)) (by decide) dX5_turnsBy_135 ?_
              refine g_iand C dX5_turnsBy_136 ?_
              refine g_top (y := nI (D / 2 ^ k % 2)) (bt_nI hD31 (by omega)) ?_
              refine g_iconst C (v := (nI 1)) (by decide) dX5_turnsBy_137 ?_
              refine g_icmpN_ne C (D / 2 ^ k % 2) 1 (by omega) (by omega) (tgt := 222) (by decide) dX5_turnsBy_138 (fun h138 => ?_) (fun h138 => ?_)
              ·
                have hno : ¬ (D.testBit k = true ∧ k ≤ (5 + re)) := fun q => h138 (tb_iff.mpr q.1)
                refine g_iinc C (n := 1) (v := (nI (k + 1))) (L' := [(7, .int (nI (k + 1))), (6, .int (nI D)), (5, .int (nI (5 + re))), (0, .ref (ad w 44)), (1, .ref (ad w 51)), (2, .int (nI 0)), (3, .int (nI 0)), (4, .int (nI 1))]) 0 rfl (nI_add k 1) (by decide) rfl dX5_turnsBy_222 ?_
                refine g_goto C (tgt := 123) (by decide) dX5_turnsBy_225 ?_
                refine g_sub (L' := [(7, .int (nI (k + 1))), (6, .int (nI D)), (5, .int (nI (5 + re))), (0, .ref (ad w 44)), (1, .ref (ad w 51)), (2, .int (nI 0)), (3, .int (nI 0)), (4, .int (nI 1))]) [0, 1, 2, 3, 4, 5, 6, 7] rfl ?_
                refine g_sgE (sg' := (us sg 51 (emb 0 (q2 true wh g 0 (5 + re) (k + 1)) (sg 51)))) (congrArg (us sg 51) (emb_eq (fun m _ => q2_no (hq.2 hno).1 m))) ?_
                exact ih (k + 1) D (by omega) (by omega) (by omega) (hq.2 hno).2
              ·
                refine g_iload C 0 rfl dX5_turnsBy_141 ?_
                refine g_iload C 2 rfl dX5_turnsBy_143 ?_
                refine g_icmpN_gt C k (5 + re) (by omega) (by omega) (tgt := 222) (by decide) dX5_turnsBy_145 (fun h145 => ?_) (fun h145 => ?_)
                ·
                  have hno : ¬ (D.testBit k = true ∧ k ≤ (5 + re)) := fun q => absurd q.2 (by omega)
                  refine g_iinc C (n := 1) (v := (nI (k + 1))) (L' := [(7, .int (nI (k + 1))), (6, .int (nI D)), (5, .int (nI (5 + re))), (0, .ref (ad w 44)), (1, .ref (ad w 51)), (2, .int (nI 0)), (3, .int (nI 0)), (4, .int (nI 1))]) 0 rfl (nI_add k 1) (by decide) rfl dX5_turnsBy_222 ?_
                  refine g_goto C (tgt := 123) (by decide) dX5_turnsBy_225 ?_
                  refine g_sub (L' := [(7, .int (nI (k + 1))), (6, .int (nI D)), (5, .int (nI (5 + re))), (0, .ref (ad w 44)), (1, .ref (ad w 51)), (2, .int (nI 0)), (3, .int (nI 0)), (4, .int (nI 1))]) [0, 1, 2, 3, 4, 5, 6, 7] rfl ?_
                  refine g_sgE (sg' := (us sg 51 (emb 0 (q2 true wh g 0 (5 + re) (k + 1)) (sg 51)))) (congrArg (us sg 51) (emb_eq (fun m _ => q2_no (hq.2 hno).1 m))) ?_
                  exact ih (k + 1) D (by omega) (by omega) (by omega) (hq.2 hno).2
                ·
                  have hyes : D.testBit k = true ∧ k ≤ (5 + re) := ⟨tb_iff.mp h138, by omega⟩
                  refine g_aload_n C 4 rfl rfl dX5_turnsBy_148 ?_
                  refine g_iload_n C 5 rfl rfl dX5_turnsBy_149 ?_
                  refine g_iload C 0 rfl dX5_turnsBy_150 ?_
                  refine g_iadd C dX5_turnsBy_152 ?_
                  refine g_top (y := (nI k)) (by rw [nI_add, Nat.zero_add]) ?_
                  refine g_ialdN C k e_51 (by omega) (by decide) dX5_turnsBy_153 ?_
                  refine g_top (y := ((emb 0 (q2 true wh g 0 (5 + re) k) (sg 51)) k)) rfl ?_
                  refine g_top (y := nI (q2 true wh g 0 (5 + re) k k)) (by have h9 := emb_in (b := 0) (v := q2 true wh g 0 (5 + re) k) (old := sg 51) (k := k) (by omega); rw [Nat.zero_add] at h9; exact h9) ?_
                  refine g_iload C 7 rfl dX5_turnsBy_154 ?_
                  refine g_iadd C dX5_turnsBy_156 ?_
                  refine g_top (y := (nI ((q2 true wh g 0 (5 + re) k k) + 1))) (nI_add (q2 true wh g 0 (5 + re) k k) 1) ?_
                  refine g_istore C (L' := [(8, .int (nI ((q2 true wh g 0 (5 + re) k k) + 1))), (7, .int (nI k)), (6, .int (nI D)), (5, .int (nI (5 + re))), (0, .ref (ad w 44)), (1, .ref (ad w 51)), (2, .int (nI 0)), (3, .int (nI 0)), (4, .int (nI 1))]) (by decide) rfl dX5_turnsBy_157 ?_
                  refine g_iload C 0 rfl dX5_turnsBy_159 ?_
                  refine g_bipush C (v := (nI 9)) (by decide) dX5_turnsBy_161 ?_
                  refine g_icmpN_gt C ((q2 true wh g 0 (5 + re) k k) + 1) 9 (by omega) (by omega) (tgt := 171) (by decide) dX5_turnsBy_163 (fun h163 => ?_) (fun h163 => ?_)
                  ·
                    refine g_iconst C (v := (nI 1)) (by decide) dX5_turnsBy_171 ?_
                    refine g_goto C (tgt := 176) (by decide) dX5_turnsBy_172 ?_
                    refine g_istore C (L' := [(9, .int (nI 1)), (8, .int (nI ((q2 true wh g 0 (5 + re) k k) + 1))), (7, .int (nI k)), (6, .int (nI D)), (5, .int (nI (5 + re))), (0, .ref (ad w 44)), (1, .ref (ad w 51)), (2, .int (nI 0)), (3, .int (nI 0)), (4, .int (nI 1))]) (by decide) rfl dX5_turnsBy_176 ?_
                    refine g_aload_n C 6 rfl rfl dX5_turnsBy_178 ?_
                    refine g_iload_n C 7 rfl rfl dX5_turnsBy_179 ?_
                    refine g_iload C 2 rfl dX5_turnsBy_180 ?_
                    refine g_iadd C dX5_turnsBy_182 ?_
                    refine g_top (y := (nI k)) (by rw [nI_add, Nat.zero_add]) ?_
                    refine g_iload C 0 rfl dX5_turnsBy_183 ?_
                    refine g_if_eq C (tgt := 199) (by decide) dX5_turnsBy_185 (fun h185 => absurd h185 (by decide)) (fun h185 => ?_)
                    refine g_iload C 1 rfl dX5_turnsBy_188 ?_
                    refine g_bipush C (v := (nI 10)) (by decide) dX5_turnsBy_190 ?_
                    refine g_iload C 9 rfl dX5_turnsBy_192 ?_
                    refine g_imul C dX5_turnsBy_194 ?_
                    refine g_top (y := (nI 10)) (pk_mul 10 1) ?_
                    refine g_isub C dX5_turnsBy_195 ?_
                    refine g_top (y := nI (stp true (q2 true wh g 0 (5 + re) k k) 1)) (by rw [show stp true (q2 true wh g 0 (5 + re) k k) 1 = q2 true wh g 0 (5 + re) k k + 1 - 10 from by simp only [stp, if_true]; exact if_pos h163]; exact pk_sub (by omega)) ?_
                    refine g_goto C (tgt := 201) (by decide) dX5_turnsBy_196 ?_
                    refine g_iastN C k e_51 (by omega) (by decide) dX5_turnsBy_201 ?_
                    refine g_sgE (sg' := (us sg 51 (upd (emb 0 (q2 true wh g 0 (5 + re) k) (sg 51)) k (nI (stp true (q2 true wh g 0 (5 + re) k k) 1))))) us_us ?_
                    refine g_iload C 3 rfl dX5_turnsBy_202 ?_
                    refine g_iload C 0 rfl dX5_turnsBy_204 ?_
                    refine g_if_eq C (tgt := 218) (by decide) dX5_turnsBy_206 (fun h206 => absurd h206 (by decide)) (fun h206 => ?_)
                    refine g_iconst C (v := (nI 1)) (by decide) dX5_turnsBy_209 ?_
                    refine g_iload C 2 rfl dX5_turnsBy_210 ?_
                    refine g_iconst C (v := (nI 1)) (by decide) dX5_turnsBy_212 ?_
                    refine g_iadd C dX5_turnsBy_213 ?_
                    refine g_top (y := (nI (k + 1))) (nI_add k 1) ?_
                    refine g_ishl C dX5_turnsBy_214 ?_
                    refine g_top (y := nI (2 ^ (k + 1))) (sh_nI (by omega)) ?_
                    refine g_goto C (tgt := 219) (by decide) dX5_turnsBy_215 ?_
                    refine g_ior C dX5_turnsBy_219 ?_
                    refine g_top (y := nI (D ||| 2 ^ (k + 1))) (or_nI _ _) ?_
                    have hcr : cry true (q2 true wh g 0 (5 + re) k k) 1 = 1 := (by simp only [cry, if_true]; exact if_pos h163)
                    refine g_istore C (L' := [(6, .int (nI (D ||| 2 ^ (k + 1)))), (9, .int (nI 1)), (8, .int (nI ((q2 true wh g 0 (5 + re) k k) + 1))), (7, .int (nI k)), (5, .int (nI (5 + re))), (0, .ref (ad w 44)), (1, .ref (ad w 51)), (2, .int (nI 0)), (3, .int (nI 0)), (4, .int (nI 1))]) (by decide) rfl dX5_turnsBy_220 ?_
                    refine g_iinc C (n := 1) (v := (nI (k + 1))) (L' := [(7, .int (nI (k + 1))), (6, .int (nI (D ||| 2 ^ (k + 1)))), (9, .int (nI 1)), (8, .int (nI ((q2 true wh g 0 (5 + re) k k) + 1))), (5, .int (nI (5 + re))), (0, .ref (ad w 44)), (1, .ref (ad w 51)), (2, .int (nI 0)), (3, .int (nI 0)), (4, .int (nI 1))]) 3 rfl (nI_add k 1) (by decide) rfl dX5_turnsBy_222 ?_
                    refine g_goto C (tgt := 123) (by decide) dX5_turnsBy_225 ?_
                    refine g_sub (L' := [(7, .int (nI (k + 1))), (6, .int (nI (D ||| 2 ^ (k + 1)))), (5, .int (nI (5 + re))), (0, .ref (ad w 44)), (1, .ref (ad w 51)), (2, .int (nI 0)), (3, .int (nI 0)), (4, .int (nI 1))]) [0, 1, 4, 5, 6, 7, 8, 9] rfl ?_
                    refine g_sgE (sg' := (us sg 51 (emb 0 (q2 true wh g 0 (5 + re) (k + 1)) (sg 51)))) (congrArg (us sg 51) (emb_upd0 (by omega) (by rw [q2_k]; exact (hq.1 hyes).1) (fun m _ hm => q2_n hm))) ?_
                    exact ih (k + 1) (D ||| 2 ^ (k + 1)) (by omega) (by omega) (by omega) ((hq.1 hyes).2.1 hcr)
                  ·
                    refine g_iload C 0 rfl dX5_turnsBy_166 ?_
                    refine g_if_ge C (tgt := 175) (by decide) dX5_turnsBy_168 (fun h168 => ?_) (fun h168 => absurd (nI_pos' (by omega)) h168)
                    refine g_iconst C (v := (nI 0)) (by decide) dX5_turnsBy_175 ?_
                    refine g_istore C (L' := [(9, .int (nI 0)), (8, .int (nI ((q2 true wh g 0 (5 + re) k k) + 1))), (7, .int (nI k)), (6, .int (nI D)), (5, .int (nI (5 + re))), (0, .ref (ad w 44)), (1, .ref (ad w 51)), (2, .int (nI 0)), (3, .int (nI 0)), (4, .int (nI 1))]) (by decide) rfl dX5_turnsBy_176 ?_
                    refine g_aload_n C 6 rfl rfl dX5_turnsBy_178 ?_
                    refine g_iload_n C 7 rfl rfl dX5_turnsBy_179 ?_
                    refine g_iload C 2 rfl dX5_turnsBy_180 ?_
                    refine g_iadd C dX5_turnsBy_182 ?_
                    refine g_top (y := (nI k)) (by rw [nI_add, Nat.zero_add]) ?_
                    refine g_iload C 0 rfl dX5_turnsBy_183 ?_
                    refine g_if_eq C (tgt := 199) (by decide) dX5_turnsBy_185 (fun h185 => ?_) (fun h185 => absurd h185 (by decide))
                    refine g_iload C 1 rfl dX5_turnsBy_199 ?_
                    refine g_top (y := nI (stp true (q2 true wh g 0 (5 + re) k k) 1)) (congrArg nI (by simp only [stp, if_true]; exact (if_neg (by omega)).symm)) ?_
                    refine g_iastN C k e_51 (by omega) (by decide) dX5_turnsBy_201 ?_
                    refine g_sgE (sg' := (us sg 51 (upd (emb 0 (q2 true wh g 0 (5 + re) k) (sg 51)) k (nI (stp true (q2 true wh g 0 (5 + re) k k) 1))))) us_us ?_
                    refine g_iload C 3 rfl dX5_turnsBy_202 ?_
                    refine g_iload C 0 rfl dX5_turnsBy_204 ?_
                    refine g_if_eq C (tgt := 218) (by decide) dX5_turnsBy_206 (fun h206 => ?_) (fun h206 => absurd h206 (by decide))
                    refine g_iconst C (v := (nI 0)) (by decide) dX5_turnsBy_218 ?_
                    refine g_ior C dX5_turnsBy_219 ?_
                    refine g_top (y := nI (D ||| 0)) (or_nI _ _) ?_
                    have hcr : ¬ cry true (q2 true wh g 0 (5 + re) k k) 1 = 1 := (by simp only [cry, if_true]; rw [if_neg (by omega)]; decide)
                    refine g_istore C (L' := [(6, .int (nI (D ||| 0))), (9, .int (nI 0)), (8, .int (nI ((q2 true wh g 0 (5 + re) k k) + 1))), (7, .int (nI k)), (5, .int (nI (5 + re))), (0, .ref (ad w 44)), (1, .ref (ad w 51)), (2, .int (nI 0)), (3, .int (nI 0)), (4, .int (nI 1))]) (by decide) rfl dX5_turnsBy_220 ?_
                    refine g_iinc C (n := 1) (v := (nI (k + 1))) (L' := [(7, .int (nI (k + 1))), (6, .int (nI (D ||| 0))), (9, .int (nI 0)), (8, .int (nI ((q2 true wh g 0 (5 + re) k k) + 1))), (5, .int (nI (5 + re))), (0, .ref (ad w 44)), (1, .ref (ad w 51)), (2, .int (nI 0)), (3, .int (nI 0)), (4, .int (nI 1))]) 3 rfl (nI_add k 1) (by decide) rfl dX5_turnsBy_222 ?_
                    refine g_goto C (tgt := 123) (by decide) dX5_turnsBy_225 ?_
                    refine g_sub (L' := [(7, .int (nI (k + 1))), (6, .int (nI (D ||| 0))), (5, .int (nI (5 + re))), (0, .ref (ad w 44)), (1, .ref (ad w 51)), (2, .int (nI 0)), (3, .int (nI 0)), (4, .int (nI 1))]) [0, 1, 4, 5, 6, 7, 8, 9] rfl ?_
                    refine g_sgE (sg' := (us sg 51 (emb 0 (q2 true wh g 0 (5 + re) (k + 1)) (sg 51)))) (congrArg (us sg 51) (emb_upd0 (by omega) (by rw [q2_k]; exact (hq.1 hyes).1) (fun m _ hm => q2_n hm))) ?_
                    exact ih (k + 1) (D ||| 0) (by omega) (by omega) (by omega) (by rw [Nat.or_zero]; exact (hq.1 hyes).2.2 hcr)
        refine g_sgE (sg' := (us sg 51 (emb 0 (q2 true wh g 0 (5 + re) 0) (sg 51)))) (congrArg (us sg 51) (emb_eq (fun m _ => q2_beg.symm))) ?_
        refine g_sub (L' := [(7, .int (nI 0)), (6, .int (nI (D1 true wh g 0 6))), (5, .int (nI (5 + re))), (0, .ref (ad w 44)), (1, .ref (ad w 51)), (2, .int (nI 0)), (3, .int (nI 0)), (4, .int (nI 1))]) [0, 1, 2, 3, 4, 5, 6, 7] rfl ?_
        exact lpb 13 0 (D1 true wh g 0 6) (by omega) (by omega) (Nat.le_refl _) (D2_0 (by omega))
      ·
        refine g_aload_n C 4 rfl rfl dX5_turnsBy_26 ?_
        refine g_iload_n C 5 rfl rfl dX5_turnsBy_27 ?_
        refine g_iload C 0 rfl dX5_turnsBy_28 ?_
        refine g_iadd C dX5_turnsBy_30 ?_
        refine g_top (y := (nI i)) (by rw [nI_add, Nat.zero_add]) ?_
        refine g_iload_n C 6 rfl rfl dX5_turnsBy_31 ?_
        refine g_iadd C dX5_turnsBy_32 ?_
        refine g_top (y := (nI (i + 0))) (nI_add i 0) ?_
        refine g_top (y := (nI (0 + (i + 0)))) (congrArg nI (by omega)) ?_
        refine g_ialdN C (0 + (i + 0)) e_51 (by omega) (by decide) dX5_turnsBy_33 ?_
        refine g_top (y := ((emb 0 (p1 true wh g 0 i) (sg 51)) (0 + (i + 0)))) rfl ?_
        refine g_top (y := nI (wh (i + 0))) (by rw [emb_in (by omega), p1_at]) ?_
        have hb1 := hw9 (i + 0) (by omega)
        have hb2 := hg9 i (by omega)
        refine g_iload C 7 rfl dX5_turnsBy_34 ?_
        refine g_aload_n C 3 rfl rfl dX5_turnsBy_36 ?_
        refine g_getR C (j := 7) cls5 e_44 rfl (by decide) fl_X5_25 dX5_turnsBy_37 ?_
        refine g_iload C 0 rfl dX5_turnsBy_40 ?_
        refine g_ialdN C i e_50 (by omega) (by decide) dX5_turnsBy_42 ?_
        refine g_top (y := (sg 50 i)) rfl ?_
        refine g_top (y := nI (g i)) (hgi i (by omega)) ?_
        refine g_imul C dX5_turnsBy_43 ?_
        refine g_top (y := (nI (g i))) (by rw [pk_mul, Nat.one_mul]) ?_
        refine g_iadd C dX5_turnsBy_44 ?_
        refine g_top (y := (nI ((wh (i + 0)) + (g i)))) (nI_add (wh (i + 0)) (g i)) ?_
        refine g_istore C (L' := [(8, .int (nI ((wh (i + 0)) + (g i)))), (7, .int (nI i)), (6, .int (nI (D1 true wh g 0 i))), (5, .int (nI (5 + re))), (0, .ref (ad w 44)), (1, .ref (ad w 51)), (2, .int (nI 0)), (3, .int (nI 0)), (4, .int (nI 1))]) (by decide) rfl dX5_turnsBy_45 ?_
        refine g_iload C 0 rfl dX5_turnsBy_47 ?_
        refine g_bipush C (v := (nI 9)) (by decide) dX5_turnsBy_49 ?_
        refine g_icmpN_gt C ((wh (i + 0)) + (g i)) 9 (by omega) (by omega) (tgt := 59) (by decide) dX5_turnsBy_51 (fun h51 => ?_) (fun h51 => ?_)
        ·
          refine g_iconst C (v := (nI 1)) (by decide) dX5_turnsBy_59 ?_
          refine g_goto C (tgt := 64) (by decide) dX5_turnsBy_60 ?_
          refine g_istore C (L' := [(9, .int (nI 1)), (8, .int (nI ((wh (i + 0)) + (g i)))), (7, .int (nI i)), (6, .int (nI (D1 true wh g 0 i))), (5, .int (nI (5 + re))), (0, .ref (ad w 44)), (1, .ref (ad w 51)), (2, .int (nI 0)), (3, .int (nI 0)), (4, .int (nI 1))]) (by decide) rfl dX5_turnsBy_64 ?_
          refine g_aload_n C 6 rfl rfl dX5_turnsBy_66 ?_
          refine g_iload_n C 7 rfl rfl dX5_turnsBy_67 ?_
          refine g_iload C 2 rfl dX5_turnsBy_68 ?_
          refine g_iadd C dX5_turnsBy_70 ?_
          refine g_top (y := (nI i)) (by rw [nI_add, Nat.zero_add]) ?_
          refine g_iload_n C 8 rfl rfl dX5_turnsBy_71 ?_
          refine g_iadd C dX5_turnsBy_72 ?_
          refine g_top (y := (nI (i + 0))) (nI_add i 0) ?_
          refine g_top (y := (nI (0 + (i + 0)))) (congrArg nI (by omega)) ?_
          refine g_iload C 0 rfl dX5_turnsBy_73 ?_
          refine g_if_eq C (tgt := 89) (by decide) dX5_turnsBy_75 (fun h75 => absurd h75 (by decide)) (fun h75 => ?_)
          refine g_iload C 1 rfl dX5_turnsBy_78 ?_
          refine g_bipush C (v := (nI 10)) (by decide) dX5_turnsBy_80 ?_
          refine g_iload C 9 rfl dX5_turnsBy_82 ?_
          refine g_imul C dX5_turnsBy_84 ?_
          refine g_top (y := (nI 10)) (pk_mul 10 1) ?_
          refine g_isub C dX5_turnsBy_85 ?_
          refine g_top (y := nI (stp true (wh (i + 0)) (g i))) (by rw [show stp true (wh (i + 0)) (g i) = wh (i + 0) + g i - 10 from by simp only [stp, if_true]; exact if_pos h51]; exact pk_sub (by omega)) ?_
          refine g_goto C (tgt := 91) (by decide) dX5_turnsBy_86 ?_
          refine g_iastN C (0 + (i + 0)) e_51 (by omega) (by decide) dX5_turnsBy_91 ?_
          refine g_sgE (sg' := (us sg 51 (upd (emb 0 (p1 true wh g 0 i) (sg 51)) (0 + (i + 0)) (nI (stp true (wh (i + 0)) (g i)))))) us_us ?_
          refine g_iload C 3 rfl dX5_turnsBy_92 ?_
          refine g_iload C 0 rfl dX5_turnsBy_94 ?_
          refine g_if_eq C (tgt := 110) (by decide) dX5_turnsBy_96 (fun h96 => absurd h96 (by decide)) (fun h96 => ?_)
          refine g_iconst C (v := (nI 1)) (by decide) dX5_turnsBy_99 ?_
          refine g_iload C 2 rfl dX5_turnsBy_100 ?_
          refine g_iload_n C 8 rfl rfl dX5_turnsBy_102 ?_
          refine g_iadd C dX5_turnsBy_103 ?_
          refine g_top (y := (nI (i + 0))) (nI_add i 0) ?_
          refine g_iconst C (v := (nI 1)) (by decide) dX5_turnsBy_104 ?_
          refine g_iadd C dX5_turnsBy_105 ?_
          refine g_top (y := (nI ((i + 0) + 1))) (nI_add (i + 0) 1) ?_
          refine g_ishl C dX5_turnsBy_106 ?_
          refine g_top (y := nI (2 ^ (i + 0 + 1))) (sh_nI (by omega)) ?_
          refine g_goto C (tgt := 111) (by decide) dX5_turnsBy_107 ?_
          refine g_ior C dX5_turnsBy_111 ?_
          refine g_top (y := nI (D1 true wh g 0 i ||| 2 ^ (i + 0 + 1))) (or_nI _ _) ?_
          refine g_istore C (L' := [(6, .int (nI (D1 true wh g 0 i ||| 2 ^ (i + 0 + 1)))), (9, .int (nI 1)), (8, .int (nI ((wh (i + 0)) + (g i)))), (7, .int (nI i)), (5, .int (nI (5 + re))), (0, .ref (ad w 44)), (1, .ref (ad w 51)), (2, .int (nI 0)), (3, .int (nI 0)), (4, .int (nI 1))]) (by decide) rfl dX5_turnsBy_112 ?_
          refine g_iinc C (n := 1) (v := (nI (i + 1))) (L' := [(7, .int (nI (i + 1))), (6, .int (nI (D1 true wh g 0 i ||| 2 ^ (i + 0 + 1)))), (9, .int (nI 1)), (8, .int (nI ((wh (i + 0)) + (g i)))), (5, .int (nI (5 + re))), (0, .ref (ad w 44)), (1, .ref (ad w 51)), (2, .int (nI 0)), (3, .int (nI 0)), (4, .int (nI 1))]) 3 rfl (nI_add i 1) (by decide) rfl dX5_turnsBy_114 ?_
          refine g_goto C (tgt := 19) (by decide) dX5_turnsBy_117 ?_
          have hcr : cry true (wh (i + 0)) (g i) = 1 := (by simp only [cry, if_true]; exact if_pos h51)
          have hD : D1 true wh g 0 (i + 1) = D1 true wh g 0 i ||| 2 ^ (i + 0 + 1) := by
            show (if cry true (wh (i + 0)) (g i) = 1 then _ else _) = _
            rw [hcr, if_pos rfl]
          refine g_sub (L' := [(7, .int (nI (i + 1))), (6, .int (nI (D1 true wh g 0 i ||| 2 ^ (i + 0 + 1)))), (5, .int (nI (5 + re))), (0, .ref (ad w 44)), (1, .ref (ad w 51)), (2, .int (nI 0)), (3, .int (nI 0)), (4, .int (nI 1))]) [0, 1, 4, 5, 6, 7, 8, 9] rfl ?_
          refine g_eq (L' := [(7, .int (nI (i + 1))), (6, .int (nI (D1 true wh g 0 (i + 1)))), (5, .int (nI (5 + re))), (0, .ref (ad w 44)), (1, .ref (ad w 51)), (2, .int (nI 0)), (3, .int (nI 0)), (4, .int (nI 1))]) rfl rfl (by rw [hD]) rfl ?_
          refine g_sgE (sg' := (us sg 51 (emb 0 (p1 true wh g 0 (i + 1)) (sg 51)))) (congrArg (us sg 51) (emb_upd (by omega) p1_s (fun m _ hm => p1_n hm))) ?_
          exact ihlpa (i + 1)  (by omega) (by omega) trivial
        ·
          refine g_iload C 0 rfl dX5_turnsBy_54 ?_
          refine g_if_ge C (tgt := 63) (by decide) dX5_turnsBy_56 (fun h56 => ?_) (fun h56 => absurd (nI_pos' (by have := hw9 (i + 0) (by omega); have := hg9 i (by omega); omega)) h56)
          refine g_iconst C (v := (nI 0)) (by decide) dX5_turnsBy_63 ?_
          refine g_istore C (L' := [(9, .int (nI 0)), (8, .int (nI ((wh (i + 0)) + (g i)))), (7, .int (nI i)), (6, .int (nI (D1 true wh g 0 i))), (5, .int (nI (5 + re))), (0, .ref (ad w 44)), (1, .ref (ad w 51)), (2, .int (nI 0)), (3, .int (nI 0)), (4, .int (nI 1))]) (by decide) rfl dX5_turnsBy_64 ?_
          refine g_aload_n C 6 rfl rfl dX5_turnsBy_66 ?_
          refine g_iload_n C 7 rfl rfl dX5_turnsBy_67 ?_
          refine g_iload C 2 rfl dX5_turnsBy_68 ?_
          refine g_iadd C dX5_turnsBy_70 ?_
          refine g_top (y := (nI i)) (by rw [nI_add, Nat.zero_add]) ?_
          refine g_iload_n C 8 rfl rfl dX5_turnsBy_71 ?_
          refine g_iadd C dX5_turnsBy_72 ?_
          refine g_top (y := (nI (i + 0))) (nI_add i 0) ?_
          refine g_top (y := (nI (0 + (i + 0)))) (congrArg nI (by omega)) ?_
          refine g_iload C 0 rfl dX5_turnsBy_73 ?_
          refine g_if_eq C (tgt := 89) (by decide) dX5_turnsBy_75 (fun h75 => ?_) (fun h75 => absurd h75 (by decide))
          refine g_iload C 1 rfl dX5_turnsBy_89 ?_
          refine g_top (y := nI (stp true (wh (i + 0)) (g i))) (congrArg nI (by simp only [stp, if_true]; exact (if_neg (by omega)).symm)) ?_
          refine g_iastN C (0 + (i + 0)) e_51 (by omega) (by decide) dX5_turnsBy_91 ?_
          refine g_sgE (sg' := (us sg 51 (upd (emb 0 (p1 true wh g 0 i) (sg 51)) (0 + (i + 0)) (nI (stp true (wh (i + 0)) (g i)))))) us_us ?_
          refine g_iload C 3 rfl dX5_turnsBy_92 ?_
          refine g_iload C 0 rfl dX5_turnsBy_94 ?_
          refine g_if_eq C (tgt := 110) (by decide) dX5_turnsBy_96 (fun h96 => ?_) (fun h96 => absurd h96 (by decide))
          refine g_iconst C (v := (nI 0)) (by decide) dX5_turnsBy_110 ?_
          refine g_ior C dX5_turnsBy_111 ?_
          refine g_top (y := nI (D1 true wh g 0 i ||| 0)) (or_nI _ _) ?_
          refine g_istore C (L' := [(6, .int (nI (D1 true wh g 0 i ||| 0))), (9, .int (nI 0)), (8, .int (nI ((wh (i + 0)) + (g i)))), (7, .int (nI i)), (5, .int (nI (5 + re))), (0, .ref (ad w 44)), (1, .ref (ad w 51)), (2, .int (nI 0)), (3, .int (nI 0)), (4, .int (nI 1))]) (by decide) rfl dX5_turnsBy_112 ?_
          refine g_iinc C (n := 1) (v := (nI (i + 1))) (L' := [(7, .int (nI (i + 1))), (6, .int (nI (D1 true wh g 0 i ||| 0))), (9, .int (nI 0)), (8, .int (nI ((wh (i + 0)) + (g i)))), (5, .int (nI (5 + re))), (0, .ref (ad w 44)), (1, .ref (ad w 51)), (2, .int (nI 0)), (3, .int (nI 0)), (4, .int (nI 1))]) 3 rfl (nI_add i 1) (by decide) rfl dX5_turnsBy_114 ?_
          refine g_goto C (tgt := 19) (by decide) dX5_turnsBy_117 ?_
          have hcr : cry true (wh (i + 0)) (g i) = 0 := (by simp only [cry, if_true]; exact if_neg (by omega))
          have hD : D1 true wh g 0 (i + 1) = D1 true wh g 0 i ||| 0 := by
            show (if cry true (wh (i + 0)) (g i) = 1 then _ else _) = _
            rw [hcr, if_neg (by decide), Nat.or_zero]
          refine g_sub (L' := [(7, .int (nI (i + 1))), (6, .int (nI (D1 true wh g 0 i ||| 0))), (5, .int (nI (5 + re))), (0, .ref (ad w 44)), (1, .ref (ad w 51)), (2, .int (nI 0)), (3, .int (nI 0)), (4, .int (nI 1))]) [0, 1, 4, 5, 6, 7, 8, 9] rfl ?_
          refine g_eq (L' := [(7, .int (nI (i + 1))), (6, .int (nI (D1 true wh g 0 (i + 1)))), (5, .int (nI (5 + re))), (0, .ref (ad w 44)), (1, .ref (ad w 51)), (2, .int (nI 0)), (3, .int (nI 0)), (4, .int (nI 1))]) rfl rfl (by rw [hD]) rfl ?_
          refine g_sgE (sg' := (us sg 51 (emb 0 (p1 true wh g 0 (i + 1)) (sg 51)))) (congrArg (us sg 51) (emb_upd (by omega) p1_s (fun m _ hm => p1_n hm))) ?_
          exact ihlpa (i + 1)  (by omega) (by omega) trivial
  refine g_sgE (sg' := (us sg 51 (emb 0 (p1 true wh g 0 0) (sg 51)))) (by rw [hemb0, us_id]) ?_
  refine g_sub (L' := [(7, .int (nI 0)), (6, .int (nI 0)), (5, .int (nI (5 + re))), (0, .ref (ad w 44)), (1, .ref (ad w 51)), (2, .int (nI 0)), (3, .int (nI 0)), (4, .int (nI 1))]) [0, 1, 2, 3, 4, 5, 6, 7] rfl ?_
  exact lpa (6 + 1) 0  (by omega) (by omega) trivial
