def ScX (z : GZ) (w : GW) (b N : Nat) (xs : Nat → Int32) : Prop := match z with
  | (_, _, _, _, s, _, _, _, _, _, _, _, _) => va_X b N xs s s.heap ∧ b < s.heap.size ∧ ¬ gA w b
section GL
variable {z : GZ} {w : GW} {cc : ByteArray} {nL : Nat} {own : String} {d : Nat} {sg : Sg} {tu : Int64} {pc : Nat} {L : List (Nat × Value)} {S : List Value} {b N : Nat} {xs : Nat → Int32}
theorem g_sld (C : Cx z w cc nL own d) (X : ScX z w b N xs) (j : Nat) (hj : j < N) (hN : N < 2 ^ 31) (hdg : decode cc pc = .ok (.iaload, 1))
    (kk : G z w nL sg tu (pc + 1) L (.int (xs j) :: S)) : G z w nL sg tu pc L (.int (nI j) :: .ref b :: S) := by
  obtain ⟨p, l, e, R, s, m, args, below, meth, c, cells, slots, Q⟩ := z
  obtain ⟨-, hx, hb, -⟩ := C
  exact fun H ls locs hH hS hl => va_sld hx hb X.1 X.2.1 X.2.2 hS (vp_in_nI hj hN) hdg (by rw [nI_clamp (by omega)]; exact kk H ls locs hH hS hl)
theorem g_slen (C : Cx z w cc nL own d) (X : ScX z w b N xs) (hdg : decode cc pc = .ok (.arraylength, 1))
    (kk : G z w nL sg tu (pc + 1) L (.int (nI N) :: S)) : G z w nL sg tu pc L (.ref b :: S) := by
  obtain ⟨p, l, e, R, s, m, args, below, meth, c, cells, slots, Q⟩ := z
  obtain ⟨-, hx, hb, -⟩ := C
  exact fun H ls locs hH hS hl => va_slen hx hb X.1 X.2.1 X.2.2 hS hdg (kk H ls locs hH hS hl)
end GL
theorem lw_lt {i N : Nat} (hi : i < 2 ^ 30) (hN : N < 2 ^ 30) : nI N - nI 5 < nI i ↔ N < i + 5 := by
  rw [Int32.lt_iff_toInt_lt, pk_sub_toInt hN (by omega), nI_toInt (by omega)]
  omega
set_option maxRecDepth 100000 in
set_option maxHeartbeats 1000000 in
theorem law_0 {z : GZ} {w : GW} {sg : Sg} {tu : Int64} {b N c : Nat} {xs : Nat → Int32} {a : AS} (C : Cx z w cL_law 4 RL 9) (X : ScX z w b N xs) (hN : N ≤ 2560) (hc : 5 * c + 5 ≤ N) (hO : OA a (10000 * c)) (hCA : CA sg a) (hRA : RA sg a) (kk : ∀ sg' tu' a', OA a' (10000 * (c + 1)) → CA sg' a' → RA sg' a' → G z w 4 sg' tu' 786 [(3, .int (nI (5 * c))), (2, .ref (ad w 44)), (1, .ref (ad w 0)), (0, .ref b)] []) : G z w 4 sg tu 148 [(3, .int (nI (5 * c))), (2, .ref (ad w 44)), (1, .ref (ad w 0)), (0, .ref b)] [] := by
  obtain ⟨r, a2, ⟨v, rfl⟩, hO2, ⟨d1, hd1, hPC⟩, ⟨d2, hd2, hPR⟩⟩ := pr_sets w (10000 * c) a hO (by omega) (xs (5 * c + 1)) (xs (5 * c + 2))
  refine g_aload_n C 2 rfl rfl dL_law_148 ?_
  refine g_aload_n C 3 rfl rfl dL_law_149 ?_
  refine g_iload_n C 0 rfl rfl dL_law_150 ?_
  refine g_iconst C (v := nI 1) (by decide) dL_law_151 ?_
  refine g_iadd C dL_law_152 ?_
  refine g_top (y := (nI (5 * c + 1))) (nI_add (5 * c) 1) ?_
  refine g_sld C X (5 * c + 1) (by omega) (by omega) dL_law_153 ?_
  refine g_aload_n C 3 rfl rfl dL_law_154 ?_
  refine g_iload_n C 0 rfl rfl dL_law_155 ?_
  refine g_iconst C (v := nI 2) (by decide) dL_law_156 ?_
  refine g_iadd C dL_law_157 ?_
  refine g_top (y := (nI (5 * c + 2))) (nI_add (5 * c) 2) ?_
  refine g_sld C X (5 * c + 2) (by omega) (by omega) dL_law_158 ?_
  refine g_callVP [] C (hPC tu sg hCA) mt_X4_sets e_0 rfl ml_L_13 im_X4_sets se_X4_sets (by omega) rfl (Nat.le_of_ble_eq_true rfl) dL_law_159 (fun r1 s1 t1 hP1 => ?_)
  obtain ⟨rfl, hC1, hF1⟩ := hP1
  refine g_eq (S' := [.int v]) rfl rfl rfl rfl ?_
  have hR1 : RA s1 a := RA_same hRA (hF1 45 (by omega)) (congrFun (hF1 44 (by omega)) 3) (hF1 47 (by omega)) (congrFun (hF1 44 (by omega)) 6) (hF1 48 (by omega)) (hF1 49 (by omega))
  refine g_aload_n C 1 rfl rfl dL_law_162 ?_
  refine g_aload_n C 3 rfl rfl dL_law_163 ?_
  refine g_iload_n C 0 rfl rfl dL_law_164 ?_
  refine g_iconst C (v := nI 1) (by decide) dL_law_165 ?_
  refine g_iadd C dL_law_166 ?_
  refine g_top (y := (nI (5 * c + 1))) (nI_add (5 * c) 1) ?_
  refine g_sld C X (5 * c + 1) (by omega) (by omega) dL_law_167 ?_
  refine g_aload_n C 3 rfl rfl dL_law_168 ?_
  refine g_iload_n C 0 rfl rfl dL_law_169 ?_
  refine g_iconst C (v := nI 2) (by decide) dL_law_170 ?_
  refine g_iadd C dL_law_171 ?_
  refine g_top (y := (nI (5 * c + 2))) (nI_add (5 * c) 2) ?_
  refine g_sld C X (5 * c + 2) (by omega) (by omega) dL_law_172 ?_
  refine g_callVP [.int v] C (hPR t1 s1 hR1) mt_X5_sets e_44 rfl ml_L_17 im_X5_sets se_X5_sets (by omega) rfl (Nat.le_of_ble_eq_true rfl) dL_law_173 (fun r2 s2 t2 hP2 => ?_)
  obtain ⟨rfl, hR2, hF2⟩ := hP2
  refine g_eq (S' := [.int v, .int v]) rfl rfl rfl rfl ?_
  have hC2 : CA s2 a2 := CA_same hC1 (rowC_eq (fun k k1 k2 => hF2 k (by omega))) (hF2 0 (by omega)) (fun k k1 k2 => hF2 k (by omega))
  refine g_icmp_eq C (tgt := 786) (by decide) dL_law_176 (fun _ => ?_) (fun h => absurd rfl h)
  exact kk s2 t2 a2 (by rw [Nat.mul_succ]; exact hO2) hC2 hR2
set_option maxRecDepth 100000 in
set_option maxHeartbeats 1000000 in
theorem law_1 {z : GZ} {w : GW} {sg : Sg} {tu : Int64} {b N c : Nat} {xs : Nat → Int32} {a : AS} (C : Cx z w cL_law 4 RL 9) (X : ScX z w b N xs) (hN : N ≤ 2560) (hc : 5 * c + 5 ≤ N) (hO : OA a (10000 * c)) (hCA : CA sg a) (hRA : RA sg a) (kk : ∀ sg' tu' a', OA a' (10000 * (c + 1)) → CA sg' a' → RA sg' a' → G z w 4 sg' tu' 786 [(3, .int (nI (5 * c))), (2, .ref (ad w 44)), (1, .ref (ad w 0)), (0, .ref b)] []) : G z w 4 sg tu 181 [(3, .int (nI (5 * c))), (2, .ref (ad w 44)), (1, .ref (ad w 0)), (0, .ref b)] [] := by
  obtain ⟨r, a2, ⟨v, rfl⟩, hO2, ⟨d1, hd1, hPC⟩, ⟨d2, hd2, hPR⟩⟩ := pr_input w (10000 * c) a hO (by omega) (xs (5 * c + 1))
  refine g_aload_n C 2 rfl rfl dL_law_181 ?_
  refine g_aload_n C 3 rfl rfl dL_law_182 ?_
  refine g_iload_n C 0 rfl rfl dL_law_183 ?_
  refine g_iconst C (v := nI 1) (by decide) dL_law_184 ?_
  refine g_iadd C dL_law_185 ?_
  refine g_top (y := (nI (5 * c + 1))) (nI_add (5 * c) 1) ?_
  refine g_sld C X (5 * c + 1) (by omega) (by omega) dL_law_186 ?_
  refine g_callVP [] C (hPC tu sg hCA) mt_X4_input e_0 rfl ml_L_18 im_X4_input se_X4_input (by omega) rfl (Nat.le_of_ble_eq_true rfl) dL_law_187 (fun r1 s1 t1 hP1 => ?_)
  obtain ⟨rfl, hC1, hF1⟩ := hP1
  refine g_eq (S' := [.int v]) rfl rfl rfl rfl ?_
  have hR1 : RA s1 a := RA_same hRA (hF1 45 (by omega)) (congrFun (hF1 44 (by omega)) 3) (hF1 47 (by omega)) (congrFun (hF1 44 (by omega)) 6) (hF1 48 (by omega)) (hF1 49 (by omega))
  refine g_aload_n C 1 rfl rfl dL_law_190 ?_
  refine g_aload_n C 3 rfl rfl dL_law_191 ?_
  refine g_iload_n C 0 rfl rfl dL_law_192 ?_
  refine g_iconst C (v := nI 1) (by decide) dL_law_193 ?_
  refine g_iadd C dL_law_194 ?_
  refine g_top (y := (nI (5 * c + 1))) (nI_add (5 * c) 1) ?_
  refine g_sld C X (5 * c + 1) (by omega) (by omega) dL_law_195 ?_
  refine g_callVP [.int v] C (hPR t1 s1 hR1) mt_X5_input e_44 rfl ml_L_22 im_X5_input se_X5_input (by omega) rfl (Nat.le_of_ble_eq_true rfl) dL_law_196 (fun r2 s2 t2 hP2 => ?_)
  obtain ⟨rfl, hR2, hF2⟩ := hP2
  refine g_eq (S' := [.int v, .int v]) rfl rfl rfl rfl ?_
  have hC2 : CA s2 a2 := CA_same hC1 (rowC_eq (fun k k1 k2 => hF2 k (by omega))) (hF2 0 (by omega)) (fun k k1 k2 => hF2 k (by omega))
  refine g_icmp_eq C (tgt := 786) (by decide) dL_law_199 (fun _ => ?_) (fun h => absurd rfl h)
  exact kk s2 t2 a2 (by rw [Nat.mul_succ]; exact hO2) hC2 hR2
set_option maxRecDepth 100000 in
set_option maxHeartbeats 1000000 in
theorem law_2 {z : GZ} {w : GW} {sg : Sg} {tu : Int64} {b N c : Nat} {xs : Nat → Int32} {a : AS} (C : Cx z w cL_law 4 RL 9) (X : ScX z w b N xs) (hN : N ≤ 2560) (hc : 5 * c + 5 ≤ N) (hO : OA a (10000 * c)) (hCA : CA sg a) (hRA : RA sg a) (kk : ∀ sg' tu' a', OA a' (10000 * (c + 1)) → CA sg' a' → RA sg' a' → G z w 4 sg' tu' 786 [(3, .int (nI (5 * c))), (2, .ref (ad w 44)), (1, .ref (ad w 0)), (0, .ref b)] []) : G z w 4 sg tu 204 [(3, .int (nI (5 * c))), (2, .ref (ad w 44)), (1, .ref (ad w 0)), (0, .ref b)] [] := by
  obtain ⟨r, a2, ⟨v, rfl⟩, hO2, ⟨d1, hd1, hPC⟩, ⟨d2, hd2, hPR⟩⟩ := pr_shifts w (10000 * c) a hO (by omega) (xs (5 * c + 1))
  refine g_aload_n C 2 rfl rfl dL_law_204 ?_
  refine g_aload_n C 3 rfl rfl dL_law_205 ?_
  refine g_iload_n C 0 rfl rfl dL_law_206 ?_
  refine g_iconst C (v := nI 1) (by decide) dL_law_207 ?_
  refine g_iadd C dL_law_208 ?_
  refine g_top (y := (nI (5 * c + 1))) (nI_add (5 * c) 1) ?_
  refine g_sld C X (5 * c + 1) (by omega) (by omega) dL_law_209 ?_
  refine g_callVP [] C (hPC tu sg hCA) mt_X4_shifts e_0 rfl ml_L_23 im_X4_shifts se_X4_shifts (by omega) rfl (Nat.le_of_ble_eq_true rfl) dL_law_210 (fun r1 s1 t1 hP1 => ?_)
  obtain ⟨rfl, hC1, hF1⟩ := hP1
  refine g_eq (S' := [.int v]) rfl rfl rfl rfl ?_
  have hR1 : RA s1 a := RA_same hRA (hF1 45 (by omega)) (congrFun (hF1 44 (by omega)) 3) (hF1 47 (by omega)) (congrFun (hF1 44 (by omega)) 6) (hF1 48 (by omega)) (hF1 49 (by omega))
  refine g_aload_n C 1 rfl rfl dL_law_213 ?_
  refine g_aload_n C 3 rfl rfl dL_law_214 ?_
  refine g_iload_n C 0 rfl rfl dL_law_215 ?_
  refine g_iconst C (v := nI 1) (by decide) dL_law_216 ?_
  refine g_iadd C dL_law_217 ?_
  refine g_top (y := (nI (5 * c + 1))) (nI_add (5 * c) 1) ?_
  refine g_sld C X (5 * c + 1) (by omega) (by omega) dL_law_218 ?_
  refine g_callVP [.int v] C (hPR t1 s1 hR1) mt_X5_shifts e_44 rfl ml_L_26 im_X5_shifts se_X5_shifts (by omega) rfl (Nat.le_of_ble_eq_true rfl) dL_law_219 (fun r2 s2 t2 hP2 => ?_)
  obtain ⟨rfl, hR2, hF2⟩ := hP2
  refine g_eq (S' := [.int v, .int v]) rfl rfl rfl rfl ?_
  have hC2 : CA s2 a2 := CA_same hC1 (rowC_eq (fun k k1 k2 => hF2 k (by omega))) (hF2 0 (by omega)) (fun k k1 k2 => hF2 k (by omega))
  refine g_icmp_eq C (tgt := 786) (by decide) dL_law_222 (fun _ => ?_) (fun h => absurd rfl h)
  exact kk s2 t2 a2 (by rw [Nat.mul_succ]; exact hO2) hC2 hR2
set_option maxRecDepth 100000 in
set_option maxHeartbeats 1000000 in
theorem law_3 {z : GZ} {w : GW} {sg : Sg} {tu : Int64} {b N c : Nat} {xs : Nat → Int32} {a : AS} (C : Cx z w cL_law 4 RL 9) (X : ScX z w b N xs) (hN : N ≤ 2560) (hc : 5 * c + 5 ≤ N) (hO : OA a (10000 * c)) (hCA : CA sg a) (hRA : RA sg a) (kk : ∀ sg' tu' a', OA a' (10000 * (c + 1)) → CA sg' a' → RA sg' a' → G z w 4 sg' tu' 786 [(3, .int (nI (5 * c))), (2, .ref (ad w 44)), (1, .ref (ad w 0)), (0, .ref b)] []) : G z w 4 sg tu 227 [(3, .int (nI (5 * c))), (2, .ref (ad w 44)), (1, .ref (ad w 0)), (0, .ref b)] [] := by
  obtain ⟨r, a2, ⟨v, rfl⟩, hO2, ⟨d1, hd1, hPC⟩, ⟨d2, hd2, hPR⟩⟩ := pr_reaches w (10000 * c) a hO (by omega) (xs (5 * c + 1))
  refine g_aload_n C 2 rfl rfl dL_law_227 ?_
  refine g_aload_n C 3 rfl rfl dL_law_228 ?_
  refine g_iload_n C 0 rfl rfl dL_law_229 ?_
  refine g_iconst C (v := nI 1) (by decide) dL_law_230 ?_
  refine g_iadd C dL_law_231 ?_
  refine g_top (y := (nI (5 * c + 1))) (nI_add (5 * c) 1) ?_
  refine g_sld C X (5 * c + 1) (by omega) (by omega) dL_law_232 ?_
  refine g_callVP [] C (hPC tu sg hCA) mt_X4_reaches e_0 rfl ml_L_27 im_X4_reaches se_X4_reaches (by omega) rfl (Nat.le_of_ble_eq_true rfl) dL_law_233 (fun r1 s1 t1 hP1 => ?_)
  obtain ⟨rfl, hC1, hF1⟩ := hP1
  refine g_eq (S' := [.int v]) rfl rfl rfl rfl ?_
  have hR1 : RA s1 a := RA_same hRA (hF1 45 (by omega)) (congrFun (hF1 44 (by omega)) 3) (hF1 47 (by omega)) (congrFun (hF1 44 (by omega)) 6) (hF1 48 (by omega)) (hF1 49 (by omega))
  refine g_aload_n C 1 rfl rfl dL_law_236 ?_
  refine g_aload_n C 3 rfl rfl dL_law_237 ?_
  refine g_iload_n C 0 rfl rfl dL_law_238 ?_
  refine g_iconst C (v := nI 1) (by decide) dL_law_239 ?_
  refine g_iadd C dL_law_240 ?_
  refine g_top (y := (nI (5 * c + 1))) (nI_add (5 * c) 1) ?_
  refine g_sld C X (5 * c + 1) (by omega) (by omega) dL_law_241 ?_
  refine g_callVP [.int v] C (hPR t1 s1 hR1) mt_X5_reaches e_44 rfl ml_L_30 im_X5_reaches se_X5_reaches (by omega) rfl (Nat.le_of_ble_eq_true rfl) dL_law_242 (fun r2 s2 t2 hP2 => ?_)
  obtain ⟨rfl, hR2, hF2⟩ := hP2
  refine g_eq (S' := [.int v, .int v]) rfl rfl rfl rfl ?_
  have hC2 : CA s2 a2 := CA_same hC1 (rowC_eq (fun k k1 k2 => hF2 k (by omega))) (hF2 0 (by omega)) (fun k k1 k2 => hF2 k (by omega))
  refine g_icmp_eq C (tgt := 786) (by decide) dL_law_245 (fun _ => ?_) (fun h => absurd rfl h)
  exact kk s2 t2 a2 (by rw [Nat.mul_succ]; exact hO2) hC2 hR2
set_option maxRecDepth 100000 in
set_option maxHeartbeats 1000000 in
theorem law_4 {z : GZ} {w : GW} {sg : Sg} {tu : Int64} {b N c : Nat} {xs : Nat → Int32} {a : AS} (C : Cx z w cL_law 4 RL 9) (X : ScX z w b N xs) (hN : N ≤ 2560) (hc : 5 * c + 5 ≤ N) (hO : OA a (10000 * c)) (hCA : CA sg a) (hRA : RA sg a) (kk : ∀ sg' tu' a', OA a' (10000 * (c + 1)) → CA sg' a' → RA sg' a' → G z w 4 sg' tu' 786 [(3, .int (nI (5 * c))), (2, .ref (ad w 44)), (1, .ref (ad w 0)), (0, .ref b)] []) : G z w 4 sg tu 250 [(3, .int (nI (5 * c))), (2, .ref (ad w 44)), (1, .ref (ad w 0)), (0, .ref b)] [] := by
  obtain ⟨r, a2, ⟨v, rfl⟩, hO2, ⟨d1, hd1, hPC⟩, ⟨d2, hd2, hPR⟩⟩ := pr_wears w (10000 * c) a hO (by omega) (xs (5 * c + 1)) (xs (5 * c + 2))
  refine g_aload_n C 2 rfl rfl dL_law_250 ?_
  refine g_aload_n C 3 rfl rfl dL_law_251 ?_
  refine g_iload_n C 0 rfl rfl dL_law_252 ?_
  refine g_iconst C (v := nI 1) (by decide) dL_law_253 ?_
  refine g_iadd C dL_law_254 ?_
  refine g_top (y := (nI (5 * c + 1))) (nI_add (5 * c) 1) ?_
  refine g_sld C X (5 * c + 1) (by omega) (by omega) dL_law_255 ?_
  refine g_aload_n C 3 rfl rfl dL_law_256 ?_
  refine g_iload_n C 0 rfl rfl dL_law_257 ?_
  refine g_iconst C (v := nI 2) (by decide) dL_law_258 ?_
  refine g_iadd C dL_law_259 ?_
  refine g_top (y := (nI (5 * c + 2))) (nI_add (5 * c) 2) ?_
  refine g_sld C X (5 * c + 2) (by omega) (by omega) dL_law_260 ?_
  refine g_callVP [] C (hPC tu sg hCA) mt_X4_wears e_0 rfl ml_L_31 im_X4_wears se_X4_wears (by omega) rfl (Nat.le_of_ble_eq_true rfl) dL_law_261 (fun r1 s1 t1 hP1 => ?_)
  obtain ⟨rfl, hC1, hF1⟩ := hP1
  refine g_eq (S' := [.int v]) rfl rfl rfl rfl ?_
  have hR1 : RA s1 a := RA_same hRA (hF1 45 (by omega)) (congrFun (hF1 44 (by omega)) 3) (hF1 47 (by omega)) (congrFun (hF1 44 (by omega)) 6) (hF1 48 (by omega)) (hF1 49 (by omega))
  refine g_aload_n C 1 rfl rfl dL_law_264 ?_
  refine g_aload_n C 3 rfl rfl dL_law_265 ?_
  refine g_iload_n C 0 rfl rfl dL_law_266 ?_
  refine g_iconst C (v := nI 1) (by decide) dL_law_267 ?_
  refine g_iadd C dL_law_268 ?_
  refine g_top (y := (nI (5 * c + 1))) (nI_add (5 * c) 1) ?_
  refine g_sld C X (5 * c + 1) (by omega) (by omega) dL_law_269 ?_
  refine g_aload_n C 3 rfl rfl dL_law_270 ?_
  refine g_iload_n C 0 rfl rfl dL_law_271 ?_
  refine g_iconst C (v := nI 2) (by decide) dL_law_272 ?_
  refine g_iadd C dL_law_273 ?_
  refine g_top (y := (nI (5 * c + 2))) (nI_add (5 * c) 2) ?_
  refine g_sld C X (5 * c + 2) (by omega) (by omega) dL_law_274 ?_
  refine g_callVP [.int v] C (hPR t1 s1 hR1) mt_X5_wears e_44 rfl ml_L_34 im_X5_wears se_X5_wears (by omega) rfl (Nat.le_of_ble_eq_true rfl) dL_law_275 (fun r2 s2 t2 hP2 => ?_)
  obtain ⟨rfl, hR2, hF2⟩ := hP2
  refine g_eq (S' := [.int v, .int v]) rfl rfl rfl rfl ?_
  have hC2 : CA s2 a2 := CA_same hC1 (rowC_eq (fun k k1 k2 => hF2 k (by omega))) (hF2 0 (by omega)) (fun k k1 k2 => hF2 k (by omega))
  refine g_icmp_eq C (tgt := 786) (by decide) dL_law_278 (fun _ => ?_) (fun h => absurd rfl h)
  exact kk s2 t2 a2 (by rw [Nat.mul_succ]; exact hO2) hC2 hR2
set_option maxRecDepth 100000 in
set_option maxHeartbeats 1000000 in
theorem law_5 {z : GZ} {w : GW} {sg : Sg} {tu : Int64} {b N c : Nat} {xs : Nat → Int32} {a : AS} (C : Cx z w cL_law 4 RL 9) (X : ScX z w b N xs) (hN : N ≤ 2560) (hc : 5 * c + 5 ≤ N) (hO : OA a (10000 * c)) (hCA : CA sg a) (hRA : RA sg a) (kk : ∀ sg' tu' a', OA a' (10000 * (c + 1)) → CA sg' a' → RA sg' a' → G z w 4 sg' tu' 786 [(3, .int (nI (5 * c))), (2, .ref (ad w 44)), (1, .ref (ad w 0)), (0, .ref b)] []) : G z w 4 sg tu 283 [(3, .int (nI (5 * c))), (2, .ref (ad w 44)), (1, .ref (ad w 0)), (0, .ref b)] [] := by
  obtain ⟨r, a2, ⟨v, rfl⟩, hO2, ⟨d1, hd1, hPC⟩, ⟨d2, hd2, hPR⟩⟩ := pr_clears w (10000 * c) a hO (by omega)
  refine g_aload_n C 2 rfl rfl dL_law_283 ?_
  refine g_callVP [] C (hPC tu sg hCA) mt_X4_clears e_0 rfl ml_L_35 im_X4_clears se_X4_clears (by omega) rfl (Nat.le_of_ble_eq_true rfl) dL_law_284 (fun r1 s1 t1 hP1 => ?_)
  obtain ⟨rfl, hC1, hF1⟩ := hP1
  refine g_eq (S' := [.int v]) rfl rfl rfl rfl ?_
  have hR1 : RA s1 a := RA_same hRA (hF1 45 (by omega)) (congrFun (hF1 44 (by omega)) 3) (hF1 47 (by omega)) (congrFun (hF1 44 (by omega)) 6) (hF1 48 (by omega)) (hF1 49 (by omega))
  refine g_aload_n C 1 rfl rfl dL_law_287 ?_
  refine g_callVP [.int v] C (hPR t1 s1 hR1) mt_X5_clears e_44 rfl ml_L_39 im_X5_clears se_X5_clears (by omega) rfl (Nat.le_of_ble_eq_true rfl) dL_law_288 (fun r2 s2 t2 hP2 => ?_)
  obtain ⟨rfl, hR2, hF2⟩ := hP2
  refine g_eq (S' := [.int v, .int v]) rfl rfl rfl rfl ?_
  have hC2 : CA s2 a2 := CA_same hC1 (rowC_eq (fun k k1 k2 => hF2 k (by omega))) (hF2 0 (by omega)) (fun k k1 k2 => hF2 k (by omega))
  refine g_icmp_eq C (tgt := 786) (by decide) dL_law_291 (fun _ => ?_) (fun h => absurd rfl h)
  exact kk s2 t2 a2 (by rw [Nat.mul_succ]; exact hO2) hC2 hR2
set_option maxRecDepth 100000 in
set_option maxHeartbeats 1000000 in
theorem law_6 {z : GZ} {w : GW} {sg : Sg} {tu : Int64} {b N c : Nat} {xs : Nat → Int32} {a : AS} (C : Cx z w cL_law 4 RL 9) (X : ScX z w b N xs) (hN : N ≤ 2560) (hc : 5 * c + 5 ≤ N) (hO : OA a (10000 * c)) (hCA : CA sg a) (hRA : RA sg a) (kk : ∀ sg' tu' a', OA a' (10000 * (c + 1)) → CA sg' a' → RA sg' a' → G z w 4 sg' tu' 786 [(3, .int (nI (5 * c))), (2, .ref (ad w 44)), (1, .ref (ad w 0)), (0, .ref b)] []) : G z w 4 sg tu 296 [(3, .int (nI (5 * c))), (2, .ref (ad w 44)), (1, .ref (ad w 0)), (0, .ref b)] [] := by
  obtain ⟨r, a2, ⟨v, rfl⟩, hO2, ⟨d1, hd1, hPC⟩, ⟨d2, hd2, hPR⟩⟩ := pr_lays w (10000 * c) a hO (by omega) (((Int32.toInt64 (xs (5 * c + 1))) <<< (Int32.toInt64 (nI 32) &&& 63)) ||| ((Int32.toInt64 (xs (5 * c + 2))) &&& 4294967295))
  refine g_aload_n C 2 rfl rfl dL_law_296 ?_
  refine g_aload_n C 3 rfl rfl dL_law_297 ?_
  refine g_iload_n C 0 rfl rfl dL_law_298 ?_
  refine g_iconst C (v := nI 1) (by decide) dL_law_299 ?_
  refine g_iadd C dL_law_300 ?_
  refine g_top (y := (nI (5 * c + 1))) (nI_add (5 * c) 1) ?_
  refine g_sld C X (5 * c + 1) (by omega) (by omega) dL_law_301 ?_
  refine g_i2l C dL_law_302 ?_
  refine g_bipush C (v := nI 32) (by decide) dL_law_303 ?_
  refine g_lshl C dL_law_305 ?_
  refine g_aload_n C 3 rfl rfl dL_law_306 ?_
  refine g_iload_n C 0 rfl rfl dL_law_307 ?_
  refine g_iconst C (v := nI 2) (by decide) dL_law_308 ?_
  refine g_iadd C dL_law_309 ?_
  refine g_top (y := (nI (5 * c + 2))) (nI_add (5 * c) 2) ?_
  refine g_sld C X (5 * c + 2) (by omega) (by omega) dL_law_310 ?_
  refine g_i2l C dL_law_311 ?_
  refine g_ldc2 C cn_L_40 dL_law_312 ?_
  refine g_land C dL_law_315 ?_
  refine g_lor C dL_law_316 ?_
  refine g_callVP [] C (hPC tu sg hCA) mt_X4_lays e_0 rfl ml_L_42 im_X4_lays se_X4_lays (by omega) rfl (Nat.le_of_ble_eq_true rfl) dL_law_317 (fun r1 s1 t1 hP1 => ?_)
  obtain ⟨rfl, hC1, hF1⟩ := hP1
  refine g_eq (S' := [.int v]) rfl rfl rfl rfl ?_
  have hR1 : RA s1 a := RA_same hRA (hF1 45 (by omega)) (congrFun (hF1 44 (by omega)) 3) (hF1 47 (by omega)) (congrFun (hF1 44 (by omega)) 6) (hF1 48 (by omega)) (hF1 49 (by omega))
  refine g_aload_n C 1 rfl rfl dL_law_320 ?_
  refine g_aload_n C 3 rfl rfl dL_law_321 ?_
  refine g_iload_n C 0 rfl rfl dL_law_322 ?_
  refine g_iconst C (v := nI 1) (by decide) dL_law_323 ?_
  refine g_iadd C dL_law_324 ?_
  refine g_top (y := (nI (5 * c + 1))) (nI_add (5 * c) 1) ?_
  refine g_sld C X (5 * c + 1) (by omega) (by omega) dL_law_325 ?_
  refine g_i2l C dL_law_326 ?_
  refine g_bipush C (v := nI 32) (by decide) dL_law_327 ?_
  refine g_lshl C dL_law_329 ?_
  refine g_aload_n C 3 rfl rfl dL_law_330 ?_
  refine g_iload_n C 0 rfl rfl dL_law_331 ?_
  refine g_iconst C (v := nI 2) (by decide) dL_law_332 ?_
  refine g_iadd C dL_law_333 ?_
  refine g_top (y := (nI (5 * c + 2))) (nI_add (5 * c) 2) ?_
  refine g_sld C X (5 * c + 2) (by omega) (by omega) dL_law_334 ?_
  refine g_i2l C dL_law_335 ?_
  refine g_ldc2 C cn_L_40 dL_law_336 ?_
  refine g_land C dL_law_339 ?_
  refine g_lor C dL_law_340 ?_
  refine g_callVP [.int v] C (hPR t1 s1 hR1) mt_X5_lays e_44 rfl ml_L_46 im_X5_lays se_X5_lays (by omega) rfl (Nat.le_of_ble_eq_true rfl) dL_law_341 (fun r2 s2 t2 hP2 => ?_)
  obtain ⟨rfl, hR2, hF2⟩ := hP2
  refine g_eq (S' := [.int v, .int v]) rfl rfl rfl rfl ?_
  have hC2 : CA s2 a2 := CA_same hC1 (rowC_eq (fun k k1 k2 => hF2 k (by omega))) (hF2 0 (by omega)) (fun k k1 k2 => hF2 k (by omega))
  refine g_icmp_eq C (tgt := 786) (by decide) dL_law_344 (fun _ => ?_) (fun h => absurd rfl h)
  exact kk s2 t2 a2 (by rw [Nat.mul_succ]; exact hO2) hC2 hR2
set_option maxRecDepth 100000 in
set_option maxHeartbeats 1000000 in
theorem law_7 {z : GZ} {w : GW} {sg : Sg} {tu : Int64} {b N c : Nat} {xs : Nat → Int32} {a : AS} (C : Cx z w cL_law 4 RL 9) (X : ScX z w b N xs) (hN : N ≤ 2560) (hc : 5 * c + 5 ≤ N) (hO : OA a (10000 * c)) (hCA : CA sg a) (hRA : RA sg a) (kk : ∀ sg' tu' a', OA a' (10000 * (c + 1)) → CA sg' a' → RA sg' a' → G z w 4 sg' tu' 786 [(3, .int (nI (5 * c))), (2, .ref (ad w 44)), (1, .ref (ad w 0)), (0, .ref b)] []) : G z w 4 sg tu 349 [(3, .int (nI (5 * c))), (2, .ref (ad w 44)), (1, .ref (ad w 0)), (0, .ref b)] [] := by
  obtain ⟨r, a2, ⟨v, rfl⟩, hO2, ⟨d1, hd1, hPC⟩, ⟨d2, hd2, hPR⟩⟩ := pr_ups w (10000 * c) a hO (by omega) (xs (5 * c + 1))
  refine g_aload_n C 2 rfl rfl dL_law_349 ?_
  refine g_aload_n C 3 rfl rfl dL_law_350 ?_
  refine g_iload_n C 0 rfl rfl dL_law_351 ?_
  refine g_iconst C (v := nI 1) (by decide) dL_law_352 ?_
  refine g_iadd C dL_law_353 ?_
  refine g_top (y := (nI (5 * c + 1))) (nI_add (5 * c) 1) ?_
  refine g_sld C X (5 * c + 1) (by omega) (by omega) dL_law_354 ?_
  refine g_callVP [] C (hPC tu sg hCA) mt_X4_ups e_0 rfl ml_L_47 im_X4_ups se_X4_ups (by omega) rfl (Nat.le_of_ble_eq_true rfl) dL_law_355 (fun r1 s1 t1 hP1 => ?_)
  obtain ⟨rfl, hC1, hF1⟩ := hP1
  refine g_eq (S' := [.int v]) rfl rfl rfl rfl ?_
  have hR1 : RA s1 a := RA_same hRA (hF1 45 (by omega)) (congrFun (hF1 44 (by omega)) 3) (hF1 47 (by omega)) (congrFun (hF1 44 (by omega)) 6) (hF1 48 (by omega)) (hF1 49 (by omega))
  refine g_aload_n C 1 rfl rfl dL_law_358 ?_
  refine g_aload_n C 3 rfl rfl dL_law_359 ?_
  refine g_iload_n C 0 rfl rfl dL_law_360 ?_
  refine g_iconst C (v := nI 1) (by decide) dL_law_361 ?_
  refine g_iadd C dL_law_362 ?_
  refine g_top (y := (nI (5 * c + 1))) (nI_add (5 * c) 1) ?_
  refine g_sld C X (5 * c + 1) (by omega) (by omega) dL_law_363 ?_
  refine g_callVP [.int v] C (hPR t1 s1 hR1) mt_X5_ups e_44 rfl ml_L_50 im_X5_ups se_X5_ups (by omega) rfl (Nat.le_of_ble_eq_true rfl) dL_law_364 (fun r2 s2 t2 hP2 => ?_)
  obtain ⟨rfl, hR2, hF2⟩ := hP2
  refine g_eq (S' := [.int v, .int v]) rfl rfl rfl rfl ?_
  have hC2 : CA s2 a2 := CA_same hC1 (rowC_eq (fun k k1 k2 => hF2 k (by omega))) (hF2 0 (by omega)) (fun k k1 k2 => hF2 k (by omega))
  refine g_icmp_eq C (tgt := 786) (by decide) dL_law_367 (fun _ => ?_) (fun h => absurd rfl h)
  exact kk s2 t2 a2 (by rw [Nat.mul_succ]; exact hO2) hC2 hR2
set_option maxRecDepth 100000 in
set_option maxHeartbeats 1000000 in
theorem law_8 {z : GZ} {w : GW} {sg : Sg} {tu : Int64} {b N c : Nat} {xs : Nat → Int32} {a : AS} (C : Cx z w cL_law 4 RL 9) (X : ScX z w b N xs) (hN : N ≤ 2560) (hc : 5 * c + 5 ≤ N) (hO : OA a (10000 * c)) (hCA : CA sg a) (hRA : RA sg a) (kk : ∀ sg' tu' a', OA a' (10000 * (c + 1)) → CA sg' a' → RA sg' a' → G z w 4 sg' tu' 786 [(3, .int (nI (5 * c))), (2, .ref (ad w 44)), (1, .ref (ad w 0)), (0, .ref b)] []) : G z w 4 sg tu 372 [(3, .int (nI (5 * c))), (2, .ref (ad w 44)), (1, .ref (ad w 0)), (0, .ref b)] [] := by
  obtain ⟨r, a2, ⟨v, rfl⟩, hO2, ⟨d1, hd1, hPC⟩, ⟨d2, hd2, hPR⟩⟩ := pr_downs w (10000 * c) a hO (by omega) (xs (5 * c + 1))
  refine g_aload_n C 2 rfl rfl dL_law_372 ?_
  refine g_aload_n C 3 rfl rfl dL_law_373 ?_
  refine g_iload_n C 0 rfl rfl dL_law_374 ?_
  refine g_iconst C (v := nI 1) (by decide) dL_law_375 ?_
  refine g_iadd C dL_law_376 ?_
  refine g_top (y := (nI (5 * c + 1))) (nI_add (5 * c) 1) ?_
  refine g_sld C X (5 * c + 1) (by omega) (by omega) dL_law_377 ?_
  refine g_callVP [] C (hPC tu sg hCA) mt_X4_downs e_0 rfl ml_L_51 im_X4_downs se_X4_downs (by omega) rfl (Nat.le_of_ble_eq_true rfl) dL_law_378 (fun r1 s1 t1 hP1 => ?_)
  obtain ⟨rfl, hC1, hF1⟩ := hP1
  refine g_eq (S' := [.int v]) rfl rfl rfl rfl ?_
  have hR1 : RA s1 a := RA_same hRA (hF1 45 (by omega)) (congrFun (hF1 44 (by omega)) 3) (hF1 47 (by omega)) (congrFun (hF1 44 (by omega)) 6) (hF1 48 (by omega)) (hF1 49 (by omega))
  refine g_aload_n C 1 rfl rfl dL_law_381 ?_
  refine g_aload_n C 3 rfl rfl dL_law_382 ?_
  refine g_iload_n C 0 rfl rfl dL_law_383 ?_
  refine g_iconst C (v := nI 1) (by decide) dL_law_384 ?_
  refine g_iadd C dL_law_385 ?_
  refine g_top (y := (nI (5 * c + 1))) (nI_add (5 * c) 1) ?_
  refine g_sld C X (5 * c + 1) (by omega) (by omega) dL_law_386 ?_
  refine g_callVP [.int v] C (hPR t1 s1 hR1) mt_X5_downs e_44 rfl ml_L_54 im_X5_downs se_X5_downs (by omega) rfl (Nat.le_of_ble_eq_true rfl) dL_law_387 (fun r2 s2 t2 hP2 => ?_)
  obtain ⟨rfl, hR2, hF2⟩ := hP2
  refine g_eq (S' := [.int v, .int v]) rfl rfl rfl rfl ?_
  have hC2 : CA s2 a2 := CA_same hC1 (rowC_eq (fun k k1 k2 => hF2 k (by omega))) (hF2 0 (by omega)) (fun k k1 k2 => hF2 k (by omega))
  refine g_icmp_eq C (tgt := 786) (by decide) dL_law_390 (fun _ => ?_) (fun h => absurd rfl h)
  exact kk s2 t2 a2 (by rw [Nat.mul_succ]; exact hO2) hC2 hR2
set_option maxRecDepth 100000 in
set_option maxHeartbeats 1000000 in
theorem law_9 {z : GZ} {w : GW} {sg : Sg} {tu : Int64} {b N c : Nat} {xs : Nat → Int32} {a : AS} (C : Cx z w cL_law 4 RL 9) (X : ScX z w b N xs) (hN : N ≤ 2560) (hc : 5 * c + 5 ≤ N) (hO : OA a (10000 * c)) (hCA : CA sg a) (hRA : RA sg a) (kk : ∀ sg' tu' a', OA a' (10000 * (c + 1)) → CA sg' a' → RA sg' a' → G z w 4 sg' tu' 786 [(3, .int (nI (5 * c))), (2, .ref (ad w 44)), (1, .ref (ad w 0)), (0, .ref b)] []) : G z w 4 sg tu 395 [(3, .int (nI (5 * c))), (2, .ref (ad w 44)), (1, .ref (ad w 0)), (0, .ref b)] [] := by
  obtain ⟨r, a2, ⟨v, rfl⟩, hO2, ⟨d1, hd1, hPC⟩, ⟨d2, hd2, hPR⟩⟩ := pr_times w (10000 * c) a hO (by omega) (xs (5 * c + 1)) (xs (5 * c + 2))
  refine g_aload_n C 2 rfl rfl dL_law_395 ?_
  refine g_aload_n C 3 rfl rfl dL_law_396 ?_
  refine g_iload_n C 0 rfl rfl dL_law_397 ?_
  refine g_iconst C (v := nI 1) (by decide) dL_law_398 ?_
  refine g_iadd C dL_law_399 ?_
  refine g_top (y := (nI (5 * c + 1))) (nI_add (5 * c) 1) ?_
  refine g_sld C X (5 * c + 1) (by omega) (by omega) dL_law_400 ?_
  refine g_aload_n C 3 rfl rfl dL_law_401 ?_
  refine g_iload_n C 0 rfl rfl dL_law_402 ?_
  refine g_iconst C (v := nI 2) (by decide) dL_law_403 ?_
  refine g_iadd C dL_law_404 ?_
  refine g_top (y := (nI (5 * c + 2))) (nI_add (5 * c) 2) ?_
  refine g_sld C X (5 * c + 2) (by omega) (by omega) dL_law_405 ?_
  refine g_callVP [] C (hPC tu sg hCA) mt_X4_times e_0 rfl ml_L_55 im_X4_times se_X4_times (by omega) rfl (Nat.le_of_ble_eq_true rfl) dL_law_406 (fun r1 s1 t1 hP1 => ?_)
  obtain ⟨rfl, hC1, hF1⟩ := hP1
  refine g_eq (S' := [.int v]) rfl rfl rfl rfl ?_
  have hR1 : RA s1 a := RA_same hRA (hF1 45 (by omega)) (congrFun (hF1 44 (by omega)) 3) (hF1 47 (by omega)) (congrFun (hF1 44 (by omega)) 6) (hF1 48 (by omega)) (hF1 49 (by omega))
  refine g_aload_n C 1 rfl rfl dL_law_409 ?_
  refine g_aload_n C 3 rfl rfl dL_law_410 ?_
  refine g_iload_n C 0 rfl rfl dL_law_411 ?_
  refine g_iconst C (v := nI 1) (by decide) dL_law_412 ?_
  refine g_iadd C dL_law_413 ?_
  refine g_top (y := (nI (5 * c + 1))) (nI_add (5 * c) 1) ?_
  refine g_sld C X (5 * c + 1) (by omega) (by omega) dL_law_414 ?_
  refine g_aload_n C 3 rfl rfl dL_law_415 ?_
  refine g_iload_n C 0 rfl rfl dL_law_416 ?_
  refine g_iconst C (v := nI 2) (by decide) dL_law_417 ?_
  refine g_iadd C dL_law_418 ?_
  refine g_top (y := (nI (5 * c + 2))) (nI_add (5 * c) 2) ?_
  refine g_sld C X (5 * c + 2) (by omega) (by omega) dL_law_419 ?_
  refine g_callVP [.int v] C (hPR t1 s1 hR1) mt_X5_times e_44 rfl ml_L_58 im_X5_times se_X5_times (by omega) rfl (Nat.le_of_ble_eq_true rfl) dL_law_420 (fun r2 s2 t2 hP2 => ?_)
  obtain ⟨rfl, hR2, hF2⟩ := hP2
  refine g_eq (S' := [.int v, .int v]) rfl rfl rfl rfl ?_
  have hC2 : CA s2 a2 := CA_same hC1 (rowC_eq (fun k k1 k2 => hF2 k (by omega))) (hF2 0 (by omega)) (fun k k1 k2 => hF2 k (by omega))
  refine g_icmp_eq C (tgt := 786) (by decide) dL_law_423 (fun _ => ?_) (fun h => absurd rfl h)
  exact kk s2 t2 a2 (by rw [Nat.mul_succ]; exact hO2) hC2 hR2
set_option maxRecDepth 100000 in
set_option maxHeartbeats 1000000 in
theorem law_10 {z : GZ} {w : GW} {sg : Sg} {tu : Int64} {b N c : Nat} {xs : Nat → Int32} {a : AS} (C : Cx z w cL_law 4 RL 9) (X : ScX z w b N xs) (hN : N ≤ 2560) (hc : 5 * c + 5 ≤ N) (hO : OA a (10000 * c)) (hCA : CA sg a) (hRA : RA sg a) (kk : ∀ sg' tu' a', OA a' (10000 * (c + 1)) → CA sg' a' → RA sg' a' → G z w 4 sg' tu' 786 [(3, .int (nI (5 * c))), (2, .ref (ad w 44)), (1, .ref (ad w 0)), (0, .ref b)] []) : G z w 4 sg tu 428 [(3, .int (nI (5 * c))), (2, .ref (ad w 44)), (1, .ref (ad w 0)), (0, .ref b)] [] := by
  obtain ⟨r, a2, ⟨v, rfl⟩, hO2, ⟨d1, hd1, hPC⟩, ⟨d2, hd2, hPR⟩⟩ := pr_divides w (10000 * c) a hO (by omega)
  refine g_aload_n C 2 rfl rfl dL_law_428 ?_
  refine g_callVP [] C (hPC tu sg hCA) mt_X4_divides e_0 rfl ml_L_59 im_X4_divides se_X4_divides (by omega) rfl (Nat.le_of_ble_eq_true rfl) dL_law_429 (fun r1 s1 t1 hP1 => ?_)
  obtain ⟨rfl, hC1, hF1⟩ := hP1
  refine g_eq (S' := [.int v]) rfl rfl rfl rfl ?_
  have hR1 : RA s1 a := RA_same hRA (hF1 45 (by omega)) (congrFun (hF1 44 (by omega)) 3) (hF1 47 (by omega)) (congrFun (hF1 44 (by omega)) 6) (hF1 48 (by omega)) (hF1 49 (by omega))
  refine g_aload_n C 1 rfl rfl dL_law_432 ?_
  refine g_callVP [.int v] C (hPR t1 s1 hR1) mt_X5_divides e_44 rfl ml_L_62 im_X5_divides se_X5_divides (by omega) rfl (Nat.le_of_ble_eq_true rfl) dL_law_433 (fun r2 s2 t2 hP2 => ?_)
  obtain ⟨rfl, hR2, hF2⟩ := hP2
  refine g_eq (S' := [.int v, .int v]) rfl rfl rfl rfl ?_
  have hC2 : CA s2 a2 := CA_same hC1 (rowC_eq (fun k k1 k2 => hF2 k (by omega))) (hF2 0 (by omega)) (fun k k1 k2 => hF2 k (by omega))
  refine g_icmp_eq C (tgt := 786) (by decide) dL_law_436 (fun _ => ?_) (fun h => absurd rfl h)
  exact kk s2 t2 a2 (by rw [Nat.mul_succ]; exact hO2) hC2 hR2
set_option maxRecDepth 100000 in
set_option maxHeartbeats 1000000 in
theorem law_11 {z : GZ} {w : GW} {sg : Sg} {tu : Int64} {b N c : Nat} {xs : Nat → Int32} {a : AS} (C : Cx z w cL_law 4 RL 9) (X : ScX z w b N xs) (hN : N ≤ 2560) (hc : 5 * c + 5 ≤ N) (hO : OA a (10000 * c)) (hCA : CA sg a) (hRA : RA sg a) (kk : ∀ sg' tu' a', OA a' (10000 * (c + 1)) → CA sg' a' → RA sg' a' → G z w 4 sg' tu' 786 [(3, .int (nI (5 * c))), (2, .ref (ad w 44)), (1, .ref (ad w 0)), (0, .ref b)] []) : G z w 4 sg tu 441 [(3, .int (nI (5 * c))), (2, .ref (ad w 44)), (1, .ref (ad w 0)), (0, .ref b)] [] := by
  obtain ⟨r, a2, ⟨v, rfl⟩, hO2, ⟨d1, hd1, hPC⟩, ⟨d2, hd2, hPR⟩⟩ := pr_turns w (10000 * c) a hO (by omega) (xs (5 * c + 1)) (xs (5 * c + 2))
  refine g_aload_n C 2 rfl rfl dL_law_441 ?_
  refine g_aload_n C 3 rfl rfl dL_law_442 ?_
  refine g_iload_n C 0 rfl rfl dL_law_443 ?_
  refine g_iconst C (v := nI 1) (by decide) dL_law_444 ?_
  refine g_iadd C dL_law_445 ?_
  refine g_top (y := (nI (5 * c + 1))) (nI_add (5 * c) 1) ?_
  refine g_sld C X (5 * c + 1) (by omega) (by omega) dL_law_446 ?_
  refine g_aload_n C 3 rfl rfl dL_law_447 ?_
  refine g_iload_n C 0 rfl rfl dL_law_448 ?_
  refine g_iconst C (v := nI 2) (by decide) dL_law_449 ?_
  refine g_iadd C dL_law_450 ?_
  refine g_top (y := (nI (5 * c + 2))) (nI_add (5 * c) 2) ?_
  refine g_sld C X (5 * c + 2) (by omega) (by omega) dL_law_451 ?_
  refine g_callVP [] C (hPC tu sg hCA) mt_X4_turns e_0 rfl ml_L_63 im_X4_turns se_X4_turns (by omega) rfl (Nat.le_of_ble_eq_true rfl) dL_law_452 (fun r1 s1 t1 hP1 => ?_)
  obtain ⟨rfl, hC1, hF1⟩ := hP1
  refine g_eq (S' := [.int v]) rfl rfl rfl rfl ?_
  have hR1 : RA s1 a := RA_same hRA (hF1 45 (by omega)) (congrFun (hF1 44 (by omega)) 3) (hF1 47 (by omega)) (congrFun (hF1 44 (by omega)) 6) (hF1 48 (by omega)) (hF1 49 (by omega))
  refine g_aload_n C 1 rfl rfl dL_law_455 ?_
  refine g_aload_n C 3 rfl rfl dL_law_456 ?_
  refine g_iload_n C 0 rfl rfl dL_law_457 ?_
  refine g_iconst C (v := nI 1) (by decide) dL_law_458 ?_
  refine g_iadd C dL_law_459 ?_
  refine g_top (y := (nI (5 * c + 1))) (nI_add (5 * c) 1) ?_
  refine g_sld C X (5 * c + 1) (by omega) (by omega) dL_law_460 ?_
  refine g_aload_n C 3 rfl rfl dL_law_461 ?_
  refine g_iload_n C 0 rfl rfl dL_law_462 ?_
  refine g_iconst C (v := nI 2) (by decide) dL_law_463 ?_
  refine g_iadd C dL_law_464 ?_
  refine g_top (y := (nI (5 * c + 2))) (nI_add (5 * c) 2) ?_
  refine g_sld C X (5 * c + 2) (by omega) (by omega) dL_law_465 ?_
  refine g_callVP [.int v] C (hPR t1 s1 hR1) mt_X5_turns e_44 rfl ml_L_66 im_X5_turns se_X5_turns (by omega) rfl (Nat.le_of_ble_eq_true rfl) dL_law_466 (fun r2 s2 t2 hP2 => ?_)
  obtain ⟨rfl, hR2, hF2⟩ := hP2
  refine g_eq (S' := [.int v, .int v]) rfl rfl rfl rfl ?_
  have hC2 : CA s2 a2 := CA_same hC1 (rowC_eq (fun k k1 k2 => hF2 k (by omega))) (hF2 0 (by omega)) (fun k k1 k2 => hF2 k (by omega))
  refine g_icmp_eq C (tgt := 786) (by decide) dL_law_469 (fun _ => ?_) (fun h => absurd rfl h)
  exact kk s2 t2 a2 (by rw [Nat.mul_succ]; exact hO2) hC2 hR2
set_option maxRecDepth 100000 in
set_option maxHeartbeats 1000000 in
theorem law_12 {z : GZ} {w : GW} {sg : Sg} {tu : Int64} {b N c : Nat} {xs : Nat → Int32} {a : AS} (C : Cx z w cL_law 4 RL 9) (X : ScX z w b N xs) (hN : N ≤ 2560) (hc : 5 * c + 5 ≤ N) (hO : OA a (10000 * c)) (hCA : CA sg a) (hRA : RA sg a) (kk : ∀ sg' tu' a', OA a' (10000 * (c + 1)) → CA sg' a' → RA sg' a' → G z w 4 sg' tu' 786 [(3, .int (nI (5 * c))), (2, .ref (ad w 44)), (1, .ref (ad w 0)), (0, .ref b)] []) : G z w 4 sg tu 474 [(3, .int (nI (5 * c))), (2, .ref (ad w 44)), (1, .ref (ad w 0)), (0, .ref b)] [] := by
  obtain ⟨r, a2, ⟨v, rfl⟩, hO2, ⟨d1, hd1, hPC⟩, ⟨d2, hd2, hPR⟩⟩ := pr_drum w (10000 * c) a hO (by omega) (xs (5 * c + 1)) (xs (5 * c + 2))
  refine g_aload_n C 2 rfl rfl dL_law_474 ?_
  refine g_aload_n C 3 rfl rfl dL_law_475 ?_
  refine g_iload_n C 0 rfl rfl dL_law_476 ?_
  refine g_iconst C (v := nI 1) (by decide) dL_law_477 ?_
  refine g_iadd C dL_law_478 ?_
  refine g_top (y := (nI (5 * c + 1))) (nI_add (5 * c) 1) ?_
  refine g_sld C X (5 * c + 1) (by omega) (by omega) dL_law_479 ?_
  refine g_aload_n C 3 rfl rfl dL_law_480 ?_
  refine g_iload_n C 0 rfl rfl dL_law_481 ?_
  refine g_iconst C (v := nI 2) (by decide) dL_law_482 ?_
  refine g_iadd C dL_law_483 ?_
  refine g_top (y := (nI (5 * c + 2))) (nI_add (5 * c) 2) ?_
  refine g_sld C X (5 * c + 2) (by omega) (by omega) dL_law_484 ?_
  refine g_callVP [] C (hPC tu sg hCA) mt_X4_drum e_0 rfl ml_L_67 im_X4_drum se_X4_drum (by omega) rfl (Nat.le_of_ble_eq_true rfl) dL_law_485 (fun r1 s1 t1 hP1 => ?_)
  obtain ⟨rfl, hC1, hF1⟩ := hP1
  refine g_eq (S' := [.int v]) rfl rfl rfl rfl ?_
  have hR1 : RA s1 a := RA_same hRA (hF1 45 (by omega)) (congrFun (hF1 44 (by omega)) 3) (hF1 47 (by omega)) (congrFun (hF1 44 (by omega)) 6) (hF1 48 (by omega)) (hF1 49 (by omega))
  refine g_aload_n C 1 rfl rfl dL_law_488 ?_
  refine g_aload_n C 3 rfl rfl dL_law_489 ?_
  refine g_iload_n C 0 rfl rfl dL_law_490 ?_
  refine g_iconst C (v := nI 1) (by decide) dL_law_491 ?_
  refine g_iadd C dL_law_492 ?_
  refine g_top (y := (nI (5 * c + 1))) (nI_add (5 * c) 1) ?_
  refine g_sld C X (5 * c + 1) (by omega) (by omega) dL_law_493 ?_
  refine g_aload_n C 3 rfl rfl dL_law_494 ?_
  refine g_iload_n C 0 rfl rfl dL_law_495 ?_
  refine g_iconst C (v := nI 2) (by decide) dL_law_496 ?_
  refine g_iadd C dL_law_497 ?_
  refine g_top (y := (nI (5 * c + 2))) (nI_add (5 * c) 2) ?_
  refine g_sld C X (5 * c + 2) (by omega) (by omega) dL_law_498 ?_
  refine g_callVP [.int v] C (hPR t1 s1 hR1) mt_X5_drum e_44 rfl ml_L_70 im_X5_drum se_X5_drum (by omega) rfl (Nat.le_of_ble_eq_true rfl) dL_law_499 (fun r2 s2 t2 hP2 => ?_)
  obtain ⟨rfl, hR2, hF2⟩ := hP2
  refine g_eq (S' := [.int v, .int v]) rfl rfl rfl rfl ?_
  have hC2 : CA s2 a2 := CA_same hC1 (rowC_eq (fun k k1 k2 => hF2 k (by omega))) (hF2 0 (by omega)) (fun k k1 k2 => hF2 k (by omega))
  refine g_icmp_eq C (tgt := 786) (by decide) dL_law_502 (fun _ => ?_) (fun h => absurd rfl h)
  exact kk s2 t2 a2 (by rw [Nat.mul_succ]; exact hO2) hC2 hR2
set_option maxRecDepth 100000 in
set_option maxHeartbeats 1000000 in
theorem law_13 {z : GZ} {w : GW} {sg : Sg} {tu : Int64} {b N c : Nat} {xs : Nat → Int32} {a : AS} (C : Cx z w cL_law 4 RL 9) (X : ScX z w b N xs) (hN : N ≤ 2560) (hc : 5 * c + 5 ≤ N) (hO : OA a (10000 * c)) (hCA : CA sg a) (hRA : RA sg a) (kk : ∀ sg' tu' a', OA a' (10000 * (c + 1)) → CA sg' a' → RA sg' a' → G z w 4 sg' tu' 786 [(3, .int (nI (5 * c))), (2, .ref (ad w 44)), (1, .ref (ad w 0)), (0, .ref b)] []) : G z w 4 sg tu 507 [(3, .int (nI (5 * c))), (2, .ref (ad w 44)), (1, .ref (ad w 0)), (0, .ref b)] [] := by
  obtain ⟨r, a2, ⟨v, rfl⟩, hO2, ⟨d1, hd1, hPC⟩, ⟨d2, hd2, hPR⟩⟩ := pr_wheel w (10000 * c) a hO (by omega) (xs (5 * c + 1))
  refine g_aload_n C 2 rfl rfl dL_law_507 ?_
  refine g_aload_n C 3 rfl rfl dL_law_508 ?_
  refine g_iload_n C 0 rfl rfl dL_law_509 ?_
  refine g_iconst C (v := nI 1) (by decide) dL_law_510 ?_
  refine g_iadd C dL_law_511 ?_
  refine g_top (y := (nI (5 * c + 1))) (nI_add (5 * c) 1) ?_
  refine g_sld C X (5 * c + 1) (by omega) (by omega) dL_law_512 ?_
  refine g_callVP [] C (hPC tu sg hCA) mt_X4_wheel e_0 rfl ml_L_71 im_X4_wheel se_X4_wheel (by omega) rfl (Nat.le_of_ble_eq_true rfl) dL_law_513 (fun r1 s1 t1 hP1 => ?_)
  obtain ⟨rfl, hC1, hF1⟩ := hP1
  refine g_eq (S' := [.int v]) rfl rfl rfl rfl ?_
  have hR1 : RA s1 a := RA_same hRA (hF1 45 (by omega)) (congrFun (hF1 44 (by omega)) 3) (hF1 47 (by omega)) (congrFun (hF1 44 (by omega)) 6) (hF1 48 (by omega)) (hF1 49 (by omega))
  refine g_aload_n C 1 rfl rfl dL_law_516 ?_
  refine g_aload_n C 3 rfl rfl dL_law_517 ?_
  refine g_iload_n C 0 rfl rfl dL_law_518 ?_
  refine g_iconst C (v := nI 1) (by decide) dL_law_519 ?_
  refine g_iadd C dL_law_520 ?_
  refine g_top (y := (nI (5 * c + 1))) (nI_add (5 * c) 1) ?_
  refine g_sld C X (5 * c + 1) (by omega) (by omega) dL_law_521 ?_
  refine g_callVP [.int v] C (hPR t1 s1 hR1) mt_X5_wheel e_44 rfl ml_L_74 im_X5_wheel se_X5_wheel (by omega) rfl (Nat.le_of_ble_eq_true rfl) dL_law_522 (fun r2 s2 t2 hP2 => ?_)
  obtain ⟨rfl, hR2, hF2⟩ := hP2
  refine g_eq (S' := [.int v, .int v]) rfl rfl rfl rfl ?_
  have hC2 : CA s2 a2 := CA_same hC1 (rowC_eq (fun k k1 k2 => hF2 k (by omega))) (hF2 0 (by omega)) (fun k k1 k2 => hF2 k (by omega))
  refine g_icmp_eq C (tgt := 786) (by decide) dL_law_525 (fun _ => ?_) (fun h => absurd rfl h)
  exact kk s2 t2 a2 (by rw [Nat.mul_succ]; exact hO2) hC2 hR2
set_option maxRecDepth 100000 in
set_option maxHeartbeats 1000000 in
theorem law_14 {z : GZ} {w : GW} {sg : Sg} {tu : Int64} {b N c : Nat} {xs : Nat → Int32} {a : AS} (C : Cx z w cL_law 4 RL 9) (X : ScX z w b N xs) (hN : N ≤ 2560) (hc : 5 * c + 5 ≤ N) (hO : OA a (10000 * c)) (hCA : CA sg a) (hRA : RA sg a) (kk : ∀ sg' tu' a', OA a' (10000 * (c + 1)) → CA sg' a' → RA sg' a' → G z w 4 sg' tu' 786 [(3, .int (nI (5 * c))), (2, .ref (ad w 44)), (1, .ref (ad w 0)), (0, .ref b)] []) : G z w 4 sg tu 530 [(3, .int (nI (5 * c))), (2, .ref (ad w 44)), (1, .ref (ad w 0)), (0, .ref b)] [] := by
  obtain ⟨r, a2, ⟨v, rfl⟩, hO2, ⟨d1, hd1, hPC⟩, ⟨d2, hd2, hPR⟩⟩ := pr_value w (10000 * c) a hO (by omega)
  refine g_aload_n C 2 rfl rfl dL_law_530 ?_
  refine g_callVP [] C (hPC tu sg hCA) mt_X4_value e_0 rfl ml_L_75 im_X4_value se_X4_value (by omega) rfl (Nat.le_of_ble_eq_true rfl) dL_law_531 (fun r1 s1 t1 hP1 => ?_)
  obtain ⟨rfl, hC1, hF1⟩ := hP1
  refine g_eq (S' := [.long v]) rfl rfl rfl rfl ?_
  have hR1 : RA s1 a := RA_same hRA (hF1 45 (by omega)) (congrFun (hF1 44 (by omega)) 3) (hF1 47 (by omega)) (congrFun (hF1 44 (by omega)) 6) (hF1 48 (by omega)) (hF1 49 (by omega))
  refine g_aload_n C 1 rfl rfl dL_law_534 ?_
  refine g_callVP [.long v] C (hPR t1 s1 hR1) mt_X5_value e_44 rfl ml_L_79 im_X5_value se_X5_value (by omega) rfl (Nat.le_of_ble_eq_true rfl) dL_law_535 (fun r2 s2 t2 hP2 => ?_)
  obtain ⟨rfl, hR2, hF2⟩ := hP2
  refine g_eq (S' := [.long v, .long v]) rfl rfl rfl rfl ?_
  have hC2 : CA s2 a2 := CA_same hC1 (rowC_eq (fun k k1 k2 => hF2 k (by omega))) (hF2 0 (by omega)) (fun k k1 k2 => hF2 k (by omega))
  refine g_lcmp C dL_law_538 ?_
  refine g_lif_eq C (tgt := 786) (by decide) dL_law_539 (fun _ => ?_) (fun h => absurd rfl h)
  exact kk s2 t2 a2 (by rw [Nat.mul_succ]; exact hO2) hC2 hR2
set_option maxRecDepth 100000 in
set_option maxHeartbeats 1000000 in
theorem law_15 {z : GZ} {w : GW} {sg : Sg} {tu : Int64} {b N c : Nat} {xs : Nat → Int32} {a : AS} (C : Cx z w cL_law 4 RL 9) (X : ScX z w b N xs) (hN : N ≤ 2560) (hc : 5 * c + 5 ≤ N) (hO : OA a (10000 * c)) (hCA : CA sg a) (hRA : RA sg a) (kk : ∀ sg' tu' a', OA a' (10000 * (c + 1)) → CA sg' a' → RA sg' a' → G z w 4 sg' tu' 786 [(3, .int (nI (5 * c))), (2, .ref (ad w 44)), (1, .ref (ad w 0)), (0, .ref b)] []) : G z w 4 sg tu 544 [(3, .int (nI (5 * c))), (2, .ref (ad w 44)), (1, .ref (ad w 0)), (0, .ref b)] [] := by
  obtain ⟨r, a2, ⟨v, rfl⟩, hO2, ⟨d1, hd1, hPC⟩, ⟨d2, hd2, hPR⟩⟩ := pr_counter w (10000 * c) a hO (by omega) (xs (5 * c + 1))
  refine g_aload_n C 2 rfl rfl dL_law_544 ?_
  refine g_aload_n C 3 rfl rfl dL_law_545 ?_
  refine g_iload_n C 0 rfl rfl dL_law_546 ?_
  refine g_iconst C (v := nI 1) (by decide) dL_law_547 ?_
  refine g_iadd C dL_law_548 ?_
  refine g_top (y := (nI (5 * c + 1))) (nI_add (5 * c) 1) ?_
  refine g_sld C X (5 * c + 1) (by omega) (by omega) dL_law_549 ?_
  refine g_callVP [] C (hPC tu sg hCA) mt_X4_counter e_0 rfl ml_L_80 im_X4_counter se_X4_counter (by omega) rfl (Nat.le_of_ble_eq_true rfl) dL_law_550 (fun r1 s1 t1 hP1 => ?_)
  obtain ⟨rfl, hC1, hF1⟩ := hP1
  refine g_eq (S' := [.int v]) rfl rfl rfl rfl ?_
  have hR1 : RA s1 a := RA_same hRA (hF1 45 (by omega)) (congrFun (hF1 44 (by omega)) 3) (hF1 47 (by omega)) (congrFun (hF1 44 (by omega)) 6) (hF1 48 (by omega)) (hF1 49 (by omega))
  refine g_aload_n C 1 rfl rfl dL_law_553 ?_
  refine g_aload_n C 3 rfl rfl dL_law_554 ?_
  refine g_iload_n C 0 rfl rfl dL_law_555 ?_
  refine g_iconst C (v := nI 1) (by decide) dL_law_556 ?_
  refine g_iadd C dL_law_557 ?_
  refine g_top (y := (nI (5 * c + 1))) (nI_add (5 * c) 1) ?_
  refine g_sld C X (5 * c + 1) (by omega) (by omega) dL_law_558 ?_
  refine g_callVP [.int v] C (hPR t1 s1 hR1) mt_X5_counter e_44 rfl ml_L_83 im_X5_counter se_X5_counter (by omega) rfl (Nat.le_of_ble_eq_true rfl) dL_law_559 (fun r2 s2 t2 hP2 => ?_)
  obtain ⟨rfl, hR2, hF2⟩ := hP2
  refine g_eq (S' := [.int v, .int v]) rfl rfl rfl rfl ?_
  have hC2 : CA s2 a2 := CA_same hC1 (rowC_eq (fun k k1 k2 => hF2 k (by omega))) (hF2 0 (by omega)) (fun k k1 k2 => hF2 k (by omega))
  refine g_icmp_eq C (tgt := 786) (by decide) dL_law_562 (fun _ => ?_) (fun h => absurd rfl h)
  exact kk s2 t2 a2 (by rw [Nat.mul_succ]; exact hO2) hC2 hR2
set_option maxRecDepth 100000 in
set_option maxHeartbeats 1000000 in
theorem law_16 {z : GZ} {w : GW} {sg : Sg} {tu : Int64} {b N c : Nat} {xs : Nat → Int32} {a : AS} (C : Cx z w cL_law 4 RL 9) (X : ScX z w b N xs) (hN : N ≤ 2560) (hc : 5 * c + 5 ≤ N) (hO : OA a (10000 * c)) (hCA : CA sg a) (hRA : RA sg a) (kk : ∀ sg' tu' a', OA a' (10000 * (c + 1)) → CA sg' a' → RA sg' a' → G z w 4 sg' tu' 786 [(3, .int (nI (5 * c))), (2, .ref (ad w 44)), (1, .ref (ad w 0)), (0, .ref b)] []) : G z w 4 sg tu 567 [(3, .int (nI (5 * c))), (2, .ref (ad w 44)), (1, .ref (ad w 0)), (0, .ref b)] [] := by
  obtain ⟨r, a2, ⟨v, rfl⟩, hO2, ⟨d1, hd1, hPC⟩, ⟨d2, hd2, hPR⟩⟩ := pr_count w (10000 * c) a hO (by omega) (xs (5 * c + 1))
  refine g_aload_n C 2 rfl rfl dL_law_567 ?_
  refine g_aload_n C 3 rfl rfl dL_law_568 ?_
  refine g_iload_n C 0 rfl rfl dL_law_569 ?_
  refine g_iconst C (v := nI 1) (by decide) dL_law_570 ?_
  refine g_iadd C dL_law_571 ?_
  refine g_top (y := (nI (5 * c + 1))) (nI_add (5 * c) 1) ?_
  refine g_sld C X (5 * c + 1) (by omega) (by omega) dL_law_572 ?_
  refine g_callVP [] C (hPC tu sg hCA) mt_X4_count e_0 rfl ml_L_84 im_X4_count se_X4_count (by omega) rfl (Nat.le_of_ble_eq_true rfl) dL_law_573 (fun r1 s1 t1 hP1 => ?_)
  obtain ⟨rfl, hC1, hF1⟩ := hP1
  refine g_eq (S' := [.int v]) rfl rfl rfl rfl ?_
  have hR1 : RA s1 a := RA_same hRA (hF1 45 (by omega)) (congrFun (hF1 44 (by omega)) 3) (hF1 47 (by omega)) (congrFun (hF1 44 (by omega)) 6) (hF1 48 (by omega)) (hF1 49 (by omega))
  refine g_aload_n C 1 rfl rfl dL_law_576 ?_
  refine g_aload_n C 3 rfl rfl dL_law_577 ?_
  refine g_iload_n C 0 rfl rfl dL_law_578 ?_
  refine g_iconst C (v := nI 1) (by decide) dL_law_579 ?_
  refine g_iadd C dL_law_580 ?_
  refine g_top (y := (nI (5 * c + 1))) (nI_add (5 * c) 1) ?_
  refine g_sld C X (5 * c + 1) (by omega) (by omega) dL_law_581 ?_
  refine g_callVP [.int v] C (hPR t1 s1 hR1) mt_X5_count e_44 rfl ml_L_87 im_X5_count se_X5_count (by omega) rfl (Nat.le_of_ble_eq_true rfl) dL_law_582 (fun r2 s2 t2 hP2 => ?_)
  obtain ⟨rfl, hR2, hF2⟩ := hP2
  refine g_eq (S' := [.int v, .int v]) rfl rfl rfl rfl ?_
  have hC2 : CA s2 a2 := CA_same hC1 (rowC_eq (fun k k1 k2 => hF2 k (by omega))) (hF2 0 (by omega)) (fun k k1 k2 => hF2 k (by omega))
  refine g_icmp_eq C (tgt := 786) (by decide) dL_law_585 (fun _ => ?_) (fun h => absurd rfl h)
  exact kk s2 t2 a2 (by rw [Nat.mul_succ]; exact hO2) hC2 hR2
set_option maxRecDepth 100000 in
set_option maxHeartbeats 1000000 in
theorem law_17 {z : GZ} {w : GW} {sg : Sg} {tu : Int64} {b N c : Nat} {xs : Nat → Int32} {a : AS} (C : Cx z w cL_law 4 RL 9) (X : ScX z w b N xs) (hN : N ≤ 2560) (hc : 5 * c + 5 ≤ N) (hO : OA a (10000 * c)) (hCA : CA sg a) (hRA : RA sg a) (kk : ∀ sg' tu' a', OA a' (10000 * (c + 1)) → CA sg' a' → RA sg' a' → G z w 4 sg' tu' 786 [(3, .int (nI (5 * c))), (2, .ref (ad w 44)), (1, .ref (ad w 0)), (0, .ref b)] []) : G z w 4 sg tu 590 [(3, .int (nI (5 * c))), (2, .ref (ad w 44)), (1, .ref (ad w 0)), (0, .ref b)] [] := by
  obtain ⟨r, a2, ⟨v, rfl⟩, hO2, ⟨d1, hd1, hPC⟩, ⟨d2, hd2, hPR⟩⟩ := pr_trial w (10000 * c) a hO (by omega) (xs (5 * c + 1))
  refine g_aload_n C 2 rfl rfl dL_law_590 ?_
  refine g_aload_n C 3 rfl rfl dL_law_591 ?_
  refine g_iload_n C 0 rfl rfl dL_law_592 ?_
  refine g_iconst C (v := nI 1) (by decide) dL_law_593 ?_
  refine g_iadd C dL_law_594 ?_
  refine g_top (y := (nI (5 * c + 1))) (nI_add (5 * c) 1) ?_
  refine g_sld C X (5 * c + 1) (by omega) (by omega) dL_law_595 ?_
  refine g_callVP [] C (hPC tu sg hCA) mt_X4_trial e_0 rfl ml_L_88 im_X4_trial se_X4_trial (by omega) rfl (Nat.le_of_ble_eq_true rfl) dL_law_596 (fun r1 s1 t1 hP1 => ?_)
  obtain ⟨rfl, hC1, hF1⟩ := hP1
  refine g_eq (S' := [.long v]) rfl rfl rfl rfl ?_
  have hR1 : RA s1 a := RA_same hRA (hF1 45 (by omega)) (congrFun (hF1 44 (by omega)) 3) (hF1 47 (by omega)) (congrFun (hF1 44 (by omega)) 6) (hF1 48 (by omega)) (hF1 49 (by omega))
  refine g_aload_n C 1 rfl rfl dL_law_599 ?_
  refine g_aload_n C 3 rfl rfl dL_law_600 ?_
  refine g_iload_n C 0 rfl rfl dL_law_601 ?_
  refine g_iconst C (v := nI 1) (by decide) dL_law_602 ?_
  refine g_iadd C dL_law_603 ?_
  refine g_top (y := (nI (5 * c + 1))) (nI_add (5 * c) 1) ?_
  refine g_sld C X (5 * c + 1) (by omega) (by omega) dL_law_604 ?_
  refine g_callVP [.long v] C (hPR t1 s1 hR1) mt_X5_trial e_44 rfl ml_L_92 im_X5_trial se_X5_trial (by omega) rfl (Nat.le_of_ble_eq_true rfl) dL_law_605 (fun r2 s2 t2 hP2 => ?_)
  obtain ⟨rfl, hR2, hF2⟩ := hP2
  refine g_eq (S' := [.long v, .long v]) rfl rfl rfl rfl ?_
  have hC2 : CA s2 a2 := CA_same hC1 (rowC_eq (fun k k1 k2 => hF2 k (by omega))) (hF2 0 (by omega)) (fun k k1 k2 => hF2 k (by omega))
  refine g_lcmp C dL_law_608 ?_
  refine g_lif_eq C (tgt := 786) (by decide) dL_law_609 (fun _ => ?_) (fun h => absurd rfl h)
  exact kk s2 t2 a2 (by rw [Nat.mul_succ]; exact hO2) hC2 hR2
set_option maxRecDepth 100000 in
set_option maxHeartbeats 1000000 in
theorem law_18 {z : GZ} {w : GW} {sg : Sg} {tu : Int64} {b N c : Nat} {xs : Nat → Int32} {a : AS} (C : Cx z w cL_law 4 RL 9) (X : ScX z w b N xs) (hN : N ≤ 2560) (hc : 5 * c + 5 ≤ N) (hO : OA a (10000 * c)) (hCA : CA sg a) (hRA : RA sg a) (kk : ∀ sg' tu' a', OA a' (10000 * (c + 1)) → CA sg' a' → RA sg' a' → G z w 4 sg' tu' 786 [(3, .int (nI (5 * c))), (2, .ref (ad w 44)), (1, .ref (ad w 0)), (0, .ref b)] []) : G z w 4 sg tu 614 [(3, .int (nI (5 * c))), (2, .ref (ad w 44)), (1, .ref (ad w 0)), (0, .ref b)] [] := by
  obtain ⟨r, a2, ⟨v, rfl⟩, hO2, ⟨d1, hd1, hPC⟩, ⟨d2, hd2, hPR⟩⟩ := pr_explains w (10000 * c) a hO (by omega) (((Int32.toInt64 (xs (5 * c + 1))) <<< (Int32.toInt64 (nI 32) &&& 63)) ||| ((Int32.toInt64 (xs (5 * c + 2))) &&& 4294967295)) (xs (5 * c + 3)) (xs (5 * c + 4))
  refine g_aload_n C 2 rfl rfl dL_law_614 ?_
  refine g_aload_n C 3 rfl rfl dL_law_615 ?_
  refine g_iload_n C 0 rfl rfl dL_law_616 ?_
  refine g_iconst C (v := nI 1) (by decide) dL_law_617 ?_
  refine g_iadd C dL_law_618 ?_
  refine g_top (y := (nI (5 * c + 1))) (nI_add (5 * c) 1) ?_
  refine g_sld C X (5 * c + 1) (by omega) (by omega) dL_law_619 ?_
  refine g_i2l C dL_law_620 ?_
  refine g_bipush C (v := nI 32) (by decide) dL_law_621 ?_
  refine g_lshl C dL_law_623 ?_
  refine g_aload_n C 3 rfl rfl dL_law_624 ?_
  refine g_iload_n C 0 rfl rfl dL_law_625 ?_
  refine g_iconst C (v := nI 2) (by decide) dL_law_626 ?_
  refine g_iadd C dL_law_627 ?_
  refine g_top (y := (nI (5 * c + 2))) (nI_add (5 * c) 2) ?_
  refine g_sld C X (5 * c + 2) (by omega) (by omega) dL_law_628 ?_
  refine g_i2l C dL_law_629 ?_
  refine g_ldc2 C cn_L_40 dL_law_630 ?_
  refine g_land C dL_law_633 ?_
  refine g_lor C dL_law_634 ?_
  refine g_aload_n C 3 rfl rfl dL_law_635 ?_
  refine g_iload_n C 0 rfl rfl dL_law_636 ?_
  refine g_iconst C (v := nI 3) (by decide) dL_law_637 ?_
  refine g_iadd C dL_law_638 ?_
  refine g_top (y := (nI (5 * c + 3))) (nI_add (5 * c) 3) ?_
  refine g_sld C X (5 * c + 3) (by omega) (by omega) dL_law_639 ?_
  refine g_aload_n C 3 rfl rfl dL_law_640 ?_
  refine g_iload_n C 0 rfl rfl dL_law_641 ?_
  refine g_iconst C (v := nI 4) (by decide) dL_law_642 ?_
  refine g_iadd C dL_law_643 ?_
  refine g_top (y := (nI (5 * c + 4))) (nI_add (5 * c) 4) ?_
  refine g_sld C X (5 * c + 4) (by omega) (by omega) dL_law_644 ?_
  refine g_callVP [] C (hPC tu sg hCA) mt_X4_explains e_0 rfl ml_L_93 im_X4_explains se_X4_explains (by omega) rfl (Nat.le_of_ble_eq_true rfl) dL_law_645 (fun r1 s1 t1 hP1 => ?_)
  obtain ⟨rfl, hC1, hF1⟩ := hP1
  refine g_eq (S' := [.int v]) rfl rfl rfl rfl ?_
  have hR1 : RA s1 a := RA_same hRA (hF1 45 (by omega)) (congrFun (hF1 44 (by omega)) 3) (hF1 47 (by omega)) (congrFun (hF1 44 (by omega)) 6) (hF1 48 (by omega)) (hF1 49 (by omega))
  refine g_aload_n C 1 rfl rfl dL_law_648 ?_
  refine g_aload_n C 3 rfl rfl dL_law_649 ?_
  refine g_iload_n C 0 rfl rfl dL_law_650 ?_
  refine g_iconst C (v := nI 1) (by decide) dL_law_651 ?_
  refine g_iadd C dL_law_652 ?_
  refine g_top (y := (nI (5 * c + 1))) (nI_add (5 * c) 1) ?_
  refine g_sld C X (5 * c + 1) (by omega) (by omega) dL_law_653 ?_
  refine g_i2l C dL_law_654 ?_
  refine g_bipush C (v := nI 32) (by decide) dL_law_655 ?_
  refine g_lshl C dL_law_657 ?_
  refine g_aload_n C 3 rfl rfl dL_law_658 ?_
  refine g_iload_n C 0 rfl rfl dL_law_659 ?_
  refine g_iconst C (v := nI 2) (by decide) dL_law_660 ?_
  refine g_iadd C dL_law_661 ?_
  refine g_top (y := (nI (5 * c + 2))) (nI_add (5 * c) 2) ?_
  refine g_sld C X (5 * c + 2) (by omega) (by omega) dL_law_662 ?_
  refine g_i2l C dL_law_663 ?_
  refine g_ldc2 C cn_L_40 dL_law_664 ?_
  refine g_land C dL_law_667 ?_
  refine g_lor C dL_law_668 ?_
  refine g_aload_n C 3 rfl rfl dL_law_669 ?_
  refine g_iload_n C 0 rfl rfl dL_law_670 ?_
  refine g_iconst C (v := nI 3) (by decide) dL_law_671 ?_
  refine g_iadd C dL_law_672 ?_
  refine g_top (y := (nI (5 * c + 3))) (nI_add (5 * c) 3) ?_
  refine g_sld C X (5 * c + 3) (by omega) (by omega) dL_law_673 ?_
  refine g_aload_n C 3 rfl rfl dL_law_674 ?_
  refine g_iload_n C 0 rfl rfl dL_law_675 ?_
  refine g_iconst C (v := nI 4) (by decide) dL_law_676 ?_
  refine g_iadd C dL_law_677 ?_
  refine g_top (y := (nI (5 * c + 4))) (nI_add (5 * c) 4) ?_
  refine g_sld C X (5 * c + 4) (by omega) (by omega) dL_law_678 ?_
  refine g_callVP [.int v] C (hPR t1 s1 hR1) mt_X5_explains e_44 rfl ml_L_97 im_X5_explains se_X5_explains (by omega) rfl (Nat.le_of_ble_eq_true rfl) dL_law_679 (fun r2 s2 t2 hP2 => ?_)
  obtain ⟨rfl, hR2, hF2⟩ := hP2
  refine g_eq (S' := [.int v, .int v]) rfl rfl rfl rfl ?_
  have hC2 : CA s2 a2 := CA_same hC1 (rowC_eq (fun k k1 k2 => hF2 k (by omega))) (hF2 0 (by omega)) (fun k k1 k2 => hF2 k (by omega))
  refine g_icmp_eq C (tgt := 786) (by decide) dL_law_682 (fun _ => ?_) (fun h => absurd rfl h)
  exact kk s2 t2 a2 (by rw [Nat.mul_succ]; exact hO2) hC2 hR2
set_option maxRecDepth 100000 in
set_option maxHeartbeats 1000000 in
theorem law_19 {z : GZ} {w : GW} {sg : Sg} {tu : Int64} {b N c : Nat} {xs : Nat → Int32} {a : AS} (C : Cx z w cL_law 4 RL 9) (X : ScX z w b N xs) (hN : N ≤ 2560) (hc : 5 * c + 5 ≤ N) (hO : OA a (10000 * c)) (hCA : CA sg a) (hRA : RA sg a) (kk : ∀ sg' tu' a', OA a' (10000 * (c + 1)) → CA sg' a' → RA sg' a' → G z w 4 sg' tu' 786 [(3, .int (nI (5 * c))), (2, .ref (ad w 44)), (1, .ref (ad w 0)), (0, .ref b)] []) : G z w 4 sg tu 687 [(3, .int (nI (5 * c))), (2, .ref (ad w 44)), (1, .ref (ad w 0)), (0, .ref b)] [] := by
  obtain ⟨r, a2, ⟨v, rfl⟩, hO2, ⟨d1, hd1, hPC⟩, ⟨d2, hd2, hPR⟩⟩ := pr_type w (10000 * c) a hO (by omega) (xs (5 * c + 1))
  refine g_aload_n C 2 rfl rfl dL_law_687 ?_
  refine g_aload_n C 3 rfl rfl dL_law_688 ?_
  refine g_iload_n C 0 rfl rfl dL_law_689 ?_
  refine g_iconst C (v := nI 1) (by decide) dL_law_690 ?_
  refine g_iadd C dL_law_691 ?_
  refine g_top (y := (nI (5 * c + 1))) (nI_add (5 * c) 1) ?_
  refine g_sld C X (5 * c + 1) (by omega) (by omega) dL_law_692 ?_
  refine g_callVP [] C (hPC tu sg hCA) mt_X4_type e_0 rfl ml_L_98 im_X4_type se_X4_type (by omega) rfl (Nat.le_of_ble_eq_true rfl) dL_law_693 (fun r1 s1 t1 hP1 => ?_)
  obtain ⟨rfl, hC1, hF1⟩ := hP1
  refine g_eq (S' := [.int v]) rfl rfl rfl rfl ?_
  have hR1 : RA s1 a := RA_same hRA (hF1 45 (by omega)) (congrFun (hF1 44 (by omega)) 3) (hF1 47 (by omega)) (congrFun (hF1 44 (by omega)) 6) (hF1 48 (by omega)) (hF1 49 (by omega))
  refine g_aload_n C 1 rfl rfl dL_law_696 ?_
  refine g_aload_n C 3 rfl rfl dL_law_697 ?_
  refine g_iload_n C 0 rfl rfl dL_law_698 ?_
  refine g_iconst C (v := nI 1) (by decide) dL_law_699 ?_
  refine g_iadd C dL_law_700 ?_
  refine g_top (y := (nI (5 * c + 1))) (nI_add (5 * c) 1) ?_
  refine g_sld C X (5 * c + 1) (by omega) (by omega) dL_law_701 ?_
  refine g_callVP [.int v] C (hPR t1 s1 hR1) mt_X5_type e_44 rfl ml_L_101 im_X5_type se_X5_type (by omega) rfl (Nat.le_of_ble_eq_true rfl) dL_law_702 (fun r2 s2 t2 hP2 => ?_)
  obtain ⟨rfl, hR2, hF2⟩ := hP2
  refine g_eq (S' := [.int v, .int v]) rfl rfl rfl rfl ?_
  have hC2 : CA s2 a2 := CA_same hC1 (rowC_eq (fun k k1 k2 => hF2 k (by omega))) (hF2 0 (by omega)) (fun k k1 k2 => hF2 k (by omega))
  refine g_icmp_eq C (tgt := 786) (by decide) dL_law_705 (fun _ => ?_) (fun h => absurd rfl h)
  exact kk s2 t2 a2 (by rw [Nat.mul_succ]; exact hO2) hC2 hR2
set_option maxRecDepth 100000 in
set_option maxHeartbeats 1000000 in
theorem law_20 {z : GZ} {w : GW} {sg : Sg} {tu : Int64} {b N c : Nat} {xs : Nat → Int32} {a : AS} (C : Cx z w cL_law 4 RL 9) (X : ScX z w b N xs) (hN : N ≤ 2560) (hc : 5 * c + 5 ≤ N) (hO : OA a (10000 * c)) (hCA : CA sg a) (hRA : RA sg a) (kk : ∀ sg' tu' a', OA a' (10000 * (c + 1)) → CA sg' a' → RA sg' a' → G z w 4 sg' tu' 786 [(3, .int (nI (5 * c))), (2, .ref (ad w 44)), (1, .ref (ad w 0)), (0, .ref b)] []) : G z w 4 sg tu 710 [(3, .int (nI (5 * c))), (2, .ref (ad w 44)), (1, .ref (ad w 0)), (0, .ref b)] [] := by
  obtain ⟨r, a2, ⟨v, rfl⟩, hO2, ⟨d1, hd1, hPC⟩, ⟨d2, hd2, hPR⟩⟩ := pr_wipes w (10000 * c) a hO (by omega)
  refine g_aload_n C 2 rfl rfl dL_law_710 ?_
  refine g_callVP [] C (hPC tu sg hCA) mt_X4_wipes e_0 rfl ml_L_102 im_X4_wipes se_X4_wipes (by omega) rfl (Nat.le_of_ble_eq_true rfl) dL_law_711 (fun r1 s1 t1 hP1 => ?_)
  obtain ⟨rfl, hC1, hF1⟩ := hP1
  refine g_eq (S' := [.int v]) rfl rfl rfl rfl ?_
  have hR1 : RA s1 a := RA_same hRA (hF1 45 (by omega)) (congrFun (hF1 44 (by omega)) 3) (hF1 47 (by omega)) (congrFun (hF1 44 (by omega)) 6) (hF1 48 (by omega)) (hF1 49 (by omega))
  refine g_aload_n C 1 rfl rfl dL_law_714 ?_
  refine g_callVP [.int v] C (hPR t1 s1 hR1) mt_X5_wipes e_44 rfl ml_L_105 im_X5_wipes se_X5_wipes (by omega) rfl (Nat.le_of_ble_eq_true rfl) dL_law_715 (fun r2 s2 t2 hP2 => ?_)
  obtain ⟨rfl, hR2, hF2⟩ := hP2
  refine g_eq (S' := [.int v, .int v]) rfl rfl rfl rfl ?_
  have hC2 : CA s2 a2 := CA_same hC1 (rowC_eq (fun k k1 k2 => hF2 k (by omega))) (hF2 0 (by omega)) (fun k k1 k2 => hF2 k (by omega))
  refine g_icmp_eq C (tgt := 786) (by decide) dL_law_718 (fun _ => ?_) (fun h => absurd rfl h)
  exact kk s2 t2 a2 (by rw [Nat.mul_succ]; exact hO2) hC2 hR2
set_option maxRecDepth 100000 in
set_option maxHeartbeats 1000000 in
theorem law_21 {z : GZ} {w : GW} {sg : Sg} {tu : Int64} {b N c : Nat} {xs : Nat → Int32} {a : AS} (C : Cx z w cL_law 4 RL 9) (X : ScX z w b N xs) (hN : N ≤ 2560) (hc : 5 * c + 5 ≤ N) (hO : OA a (10000 * c)) (hCA : CA sg a) (hRA : RA sg a) (kk : ∀ sg' tu' a', OA a' (10000 * (c + 1)) → CA sg' a' → RA sg' a' → G z w 4 sg' tu' 786 [(3, .int (nI (5 * c))), (2, .ref (ad w 44)), (1, .ref (ad w 0)), (0, .ref b)] []) : G z w 4 sg tu 723 [(3, .int (nI (5 * c))), (2, .ref (ad w 44)), (1, .ref (ad w 0)), (0, .ref b)] [] := by
  obtain ⟨r, a2, ⟨v, rfl⟩, hO2, ⟨d1, hd1, hPC⟩, ⟨d2, hd2, hPR⟩⟩ := pr_does w (10000 * c) a hO (by omega)
  refine g_aload_n C 2 rfl rfl dL_law_723 ?_
  refine g_callVP [] C (hPC tu sg hCA) mt_X4_does e_0 rfl ml_L_106 im_X4_does se_X4_does (by omega) rfl (Nat.le_of_ble_eq_true rfl) dL_law_724 (fun r1 s1 t1 hP1 => ?_)
  obtain ⟨rfl, hC1, hF1⟩ := hP1
  refine g_eq (S' := [.int v]) rfl rfl rfl rfl ?_
  have hR1 : RA s1 a := RA_same hRA (hF1 45 (by omega)) (congrFun (hF1 44 (by omega)) 3) (hF1 47 (by omega)) (congrFun (hF1 44 (by omega)) 6) (hF1 48 (by omega)) (hF1 49 (by omega))
  refine g_aload_n C 1 rfl rfl dL_law_727 ?_
  refine g_callVP [.int v] C (hPR t1 s1 hR1) mt_X5_does e_44 rfl ml_L_109 im_X5_does se_X5_does (by omega) rfl (Nat.le_of_ble_eq_true rfl) dL_law_728 (fun r2 s2 t2 hP2 => ?_)
  obtain ⟨rfl, hR2, hF2⟩ := hP2
  refine g_eq (S' := [.int v, .int v]) rfl rfl rfl rfl ?_
  have hC2 : CA s2 a2 := CA_same hC1 (rowC_eq (fun k k1 k2 => hF2 k (by omega))) (hF2 0 (by omega)) (fun k k1 k2 => hF2 k (by omega))
  refine g_icmp_eq C (tgt := 786) (by decide) dL_law_731 (fun _ => ?_) (fun h => absurd rfl h)
  exact kk s2 t2 a2 (by rw [Nat.mul_succ]; exact hO2) hC2 hR2
set_option maxRecDepth 100000 in
set_option maxHeartbeats 1000000 in
theorem law_22 {z : GZ} {w : GW} {sg : Sg} {tu : Int64} {b N c : Nat} {xs : Nat → Int32} {a : AS} (C : Cx z w cL_law 4 RL 9) (X : ScX z w b N xs) (hN : N ≤ 2560) (hc : 5 * c + 5 ≤ N) (hO : OA a (10000 * c)) (hCA : CA sg a) (hRA : RA sg a) (kk : ∀ sg' tu' a', OA a' (10000 * (c + 1)) → CA sg' a' → RA sg' a' → G z w 4 sg' tu' 786 [(3, .int (nI (5 * c))), (2, .ref (ad w 44)), (1, .ref (ad w 0)), (0, .ref b)] []) : G z w 4 sg tu 736 [(3, .int (nI (5 * c))), (2, .ref (ad w 44)), (1, .ref (ad w 0)), (0, .ref b)] [] := by
  obtain ⟨r, a2, ⟨v, rfl⟩, hO2, ⟨d1, hd1, hPC⟩, ⟨d2, hd2, hPR⟩⟩ := pr_back w (10000 * c) a hO (by omega)
  refine g_aload_n C 2 rfl rfl dL_law_736 ?_
  refine g_callVP [] C (hPC tu sg hCA) mt_X4_back e_0 rfl ml_L_110 im_X4_back se_X4_back (by omega) rfl (Nat.le_of_ble_eq_true rfl) dL_law_737 (fun r1 s1 t1 hP1 => ?_)
  obtain ⟨rfl, hC1, hF1⟩ := hP1
  refine g_eq (S' := [.int v]) rfl rfl rfl rfl ?_
  have hR1 : RA s1 a := RA_same hRA (hF1 45 (by omega)) (congrFun (hF1 44 (by omega)) 3) (hF1 47 (by omega)) (congrFun (hF1 44 (by omega)) 6) (hF1 48 (by omega)) (hF1 49 (by omega))
  refine g_aload_n C 1 rfl rfl dL_law_740 ?_
  refine g_callVP [.int v] C (hPR t1 s1 hR1) mt_X5_back e_44 rfl ml_L_113 im_X5_back se_X5_back (by omega) rfl (Nat.le_of_ble_eq_true rfl) dL_law_741 (fun r2 s2 t2 hP2 => ?_)
  obtain ⟨rfl, hR2, hF2⟩ := hP2
  refine g_eq (S' := [.int v, .int v]) rfl rfl rfl rfl ?_
  have hC2 : CA s2 a2 := CA_same hC1 (rowC_eq (fun k k1 k2 => hF2 k (by omega))) (hF2 0 (by omega)) (fun k k1 k2 => hF2 k (by omega))
  refine g_icmp_eq C (tgt := 786) (by decide) dL_law_744 (fun _ => ?_) (fun h => absurd rfl h)
  exact kk s2 t2 a2 (by rw [Nat.mul_succ]; exact hO2) hC2 hR2
set_option maxRecDepth 100000 in
set_option maxHeartbeats 1000000 in
theorem law_23 {z : GZ} {w : GW} {sg : Sg} {tu : Int64} {b N c : Nat} {xs : Nat → Int32} {a : AS} (C : Cx z w cL_law 4 RL 9) (X : ScX z w b N xs) (hN : N ≤ 2560) (hc : 5 * c + 5 ≤ N) (hO : OA a (10000 * c)) (hCA : CA sg a) (hRA : RA sg a) (kk : ∀ sg' tu' a', OA a' (10000 * (c + 1)) → CA sg' a' → RA sg' a' → G z w 4 sg' tu' 786 [(3, .int (nI (5 * c))), (2, .ref (ad w 44)), (1, .ref (ad w 0)), (0, .ref b)] []) : G z w 4 sg tu 749 [(3, .int (nI (5 * c))), (2, .ref (ad w 44)), (1, .ref (ad w 0)), (0, .ref b)] [] := by
  obtain ⟨r, a2, ⟨v, rfl⟩, hO2, ⟨d1, hd1, hPC⟩, ⟨d2, hd2, hPR⟩⟩ := pr_told w (10000 * c) a hO (by omega) (xs (5 * c + 1))
  refine g_aload_n C 2 rfl rfl dL_law_749 ?_
  refine g_aload_n C 3 rfl rfl dL_law_750 ?_
  refine g_iload_n C 0 rfl rfl dL_law_751 ?_
  refine g_iconst C (v := nI 1) (by decide) dL_law_752 ?_
  refine g_iadd C dL_law_753 ?_
  refine g_top (y := (nI (5 * c + 1))) (nI_add (5 * c) 1) ?_
  refine g_sld C X (5 * c + 1) (by omega) (by omega) dL_law_754 ?_
  refine g_callVP [] C (hPC tu sg hCA) mt_X4_told e_0 rfl ml_L_114 im_X4_told se_X4_told (by omega) rfl (Nat.le_of_ble_eq_true rfl) dL_law_755 (fun r1 s1 t1 hP1 => ?_)
  obtain ⟨rfl, hC1, hF1⟩ := hP1
  refine g_eq (S' := [.int v]) rfl rfl rfl rfl ?_
  have hR1 : RA s1 a := RA_same hRA (hF1 45 (by omega)) (congrFun (hF1 44 (by omega)) 3) (hF1 47 (by omega)) (congrFun (hF1 44 (by omega)) 6) (hF1 48 (by omega)) (hF1 49 (by omega))
  refine g_aload_n C 1 rfl rfl dL_law_758 ?_
  refine g_aload_n C 3 rfl rfl dL_law_759 ?_
  refine g_iload_n C 0 rfl rfl dL_law_760 ?_
  refine g_iconst C (v := nI 1) (by decide) dL_law_761 ?_
  refine g_iadd C dL_law_762 ?_
  refine g_top (y := (nI (5 * c + 1))) (nI_add (5 * c) 1) ?_
  refine g_sld C X (5 * c + 1) (by omega) (by omega) dL_law_763 ?_
  refine g_callVP [.int v] C (hPR t1 s1 hR1) mt_X5_told e_44 rfl ml_L_117 im_X5_told se_X5_told (by omega) rfl (Nat.le_of_ble_eq_true rfl) dL_law_764 (fun r2 s2 t2 hP2 => ?_)
  obtain ⟨rfl, hR2, hF2⟩ := hP2
  refine g_eq (S' := [.int v, .int v]) rfl rfl rfl rfl ?_
  have hC2 : CA s2 a2 := CA_same hC1 (rowC_eq (fun k k1 k2 => hF2 k (by omega))) (hF2 0 (by omega)) (fun k k1 k2 => hF2 k (by omega))
  refine g_icmp_eq C (tgt := 786) (by decide) dL_law_767 (fun _ => ?_) (fun h => absurd rfl h)
  exact kk s2 t2 a2 (by rw [Nat.mul_succ]; exact hO2) hC2 hR2
set_option maxRecDepth 100000 in
set_option maxHeartbeats 1000000 in
theorem law_24 {z : GZ} {w : GW} {sg : Sg} {tu : Int64} {b N c : Nat} {xs : Nat → Int32} {a : AS} (C : Cx z w cL_law 4 RL 9) (X : ScX z w b N xs) (hN : N ≤ 2560) (hc : 5 * c + 5 ≤ N) (hO : OA a (10000 * c)) (hCA : CA sg a) (hRA : RA sg a) (kk : ∀ sg' tu' a', OA a' (10000 * (c + 1)) → CA sg' a' → RA sg' a' → G z w 4 sg' tu' 786 [(3, .int (nI (5 * c))), (2, .ref (ad w 44)), (1, .ref (ad w 0)), (0, .ref b)] []) : G z w 4 sg tu 772 [(3, .int (nI (5 * c))), (2, .ref (ad w 44)), (1, .ref (ad w 0)), (0, .ref b)] [] := by
  obtain ⟨r, a2, ⟨v, rfl⟩, hO2, ⟨d1, hd1, hPC⟩, ⟨d2, hd2, hPR⟩⟩ := pr_digest w (10000 * c) a hO (by omega)
  refine g_aload_n C 2 rfl rfl dL_law_772 ?_
  refine g_callVP [] C (hPC tu sg hCA) mt_X4_digest e_0 rfl ml_L_118 im_X4_digest se_X4_digest (by omega) rfl (Nat.le_of_ble_eq_true rfl) dL_law_773 (fun r1 s1 t1 hP1 => ?_)
  obtain ⟨rfl, hC1, hF1⟩ := hP1
  refine g_eq (S' := [.long v]) rfl rfl rfl rfl ?_
  have hR1 : RA s1 a := RA_same hRA (hF1 45 (by omega)) (congrFun (hF1 44 (by omega)) 3) (hF1 47 (by omega)) (congrFun (hF1 44 (by omega)) 6) (hF1 48 (by omega)) (hF1 49 (by omega))
  refine g_aload_n C 1 rfl rfl dL_law_776 ?_
  refine g_callVP [.long v] C (hPR t1 s1 hR1) mt_X5_digest e_44 rfl ml_L_121 im_X5_digest se_X5_digest (by omega) rfl (Nat.le_of_ble_eq_true rfl) dL_law_777 (fun r2 s2 t2 hP2 => ?_)
  obtain ⟨rfl, hR2, hF2⟩ := hP2
  refine g_eq (S' := [.long v, .long v]) rfl rfl rfl rfl ?_
  have hC2 : CA s2 a2 := CA_same hC1 (rowC_eq (fun k k1 k2 => hF2 k (by omega))) (hF2 0 (by omega)) (fun k k1 k2 => hF2 k (by omega))
  refine g_lcmp C dL_law_780 ?_
  refine g_lif_eq C (tgt := 786) (by decide) dL_law_781 (fun _ => ?_) (fun h => absurd rfl h)
  exact kk s2 t2 a2 (by rw [Nat.mul_succ]; exact hO2) hC2 hR2
set_option maxRecDepth 100000 in
set_option maxHeartbeats 1000000 in
theorem law_loop {z : GZ} {w : GW} {b N : Nat} {xs : Nat → Int32} (C : Cx z w cL_law 4 RL 9) (X : ScX z w b N xs) (hN : N ≤ 2560) (hend : ∀ sg tu L, G z w 4 sg tu 793 L [.int (nI 1)]) : ∀ (n c : Nat) (sg : Sg) (tu : Int64) (a : AS), c + n = 513 → c ≤ 512 → OA a (10000 * c) → CA sg a → RA sg a → G z w 4 sg tu 18 [(3, .int (nI (5 * c))), (2, .ref (ad w 44)), (1, .ref (ad w 0)), (0, .ref b)] [] := by
  intro n
  induction n with
  | zero => intro c sg tu a h1 h2; exact absurd h1 (by omega)
  | succ n ih =>
    intro c sg tu a h1 h2 hO hCA hRA
    refine g_iload_n C 0 rfl rfl dL_law_18 ?_
    refine g_aload_n C 3 rfl rfl dL_law_19 ?_
    refine g_slen C X dL_law_20 ?_
    refine g_iconst C (v := nI 5) (by decide) dL_law_21 ?_
    refine g_isub C dL_law_22 ?_
    refine g_icmp_gt C (tgt := 792) (by decide) dL_law_23 (fun hg => ?_) (fun hg => ?_)
    · refine g_iconst C (v := nI 1) (by decide) dL_law_792 ?_
      exact hend sg tu _
    · have hc : 5 * c + 5 ≤ N := by
        have h9 : ¬ N < 5 * c + 5 := fun q => hg ((lw_lt (by omega) (by omega)).mpr q)
        omega
      have kk : ∀ sg' tu' a', OA a' (10000 * (c + 1)) → CA sg' a' → RA sg' a' → G z w 4 sg' tu' 786 [(3, .int (nI (5 * c))), (2, .ref (ad w 44)), (1, .ref (ad w 0)), (0, .ref b)] [] := by
        intro sg' tu' a' hO' hC' hR'
        refine g_iinc C (n := 5) (v := nI (5 * (c + 1))) (L' := [(3, .int (nI (5 * (c + 1)))), (2, .ref (ad w 44)), (1, .ref (ad w 0)), (0, .ref b)]) 0 rfl (nI_add (5 * c) 5) (by decide) rfl dL_law_786 ?_
        refine g_goto C (tgt := 18) (by decide) dL_law_789 ?_
        exact ih (c + 1) sg' tu' a' (by omega) (by omega) hO' hC' hR'
      refine g_aload_n C 3 rfl rfl dL_law_26 ?_
      refine g_iload_n C 0 rfl rfl dL_law_27 ?_
      refine g_sld C X (5 * c) (by omega) (by omega) dL_law_28 ?_
      refine g_bipush C (v := nI 31) (by decide) dL_law_29 ?_
      refine g_iand C dL_law_31 ?_
      obtain ⟨j, hj, ej⟩ := pk_andE (xs (5 * c)) (m := nI 31) 5 (by decide)
      have hj2 : j < 32 := hj
      refine g_top (y := nI j) ej ?_
      by_cases h24 : j ≤ 24
      · rcases (show j = 0 ∨ j = 1 ∨ j = 2 ∨ j = 3 ∨ j = 4 ∨ j = 5 ∨ j = 6 ∨ j = 7 ∨ j = 8 ∨ j = 9 ∨ j = 10 ∨ j = 11 ∨ j = 12 ∨ j = 13 ∨ j = 14 ∨ j = 15 ∨ j = 16 ∨ j = 17 ∨ j = 18 ∨ j = 19 ∨ j = 20 ∨ j = 21 ∨ j = 22 ∨ j = 23 ∨ j = 24 by omega) with rfl | rfl | rfl | rfl | rfl | rfl | rfl | rfl | rfl | rfl | rfl | rfl | rfl | rfl | rfl | rfl | rfl | rfl | rfl | rfl | rfl | rfl | rfl | rfl | rfl
        · refine g_tabIn C (off := 116) (tgt := 148) dL_law_32 (by decide) (by decide) (by decide) (by decide) ?_
          exact law_0 C X hN hc hO hCA hRA kk
        · refine g_tabIn C (off := 149) (tgt := 181) dL_law_32 (by decide) (by decide) (by decide) (by decide) ?_
          exact law_1 C X hN hc hO hCA hRA kk
        · refine g_tabIn C (off := 172) (tgt := 204) dL_law_32 (by decide) (by decide) (by decide) (by decide) ?_
          exact law_2 C X hN hc hO hCA hRA kk
        · refine g_tabIn C (off := 195) (tgt := 227) dL_law_32 (by decide) (by decide) (by decide) (by decide) ?_
          exact law_3 C X hN hc hO hCA hRA kk
        · refine g_tabIn C (off := 218) (tgt := 250) dL_law_32 (by decide) (by decide) (by decide) (by decide) ?_
          exact law_4 C X hN hc hO hCA hRA kk
        · refine g_tabIn C (off := 251) (tgt := 283) dL_law_32 (by decide) (by decide) (by decide) (by decide) ?_
          exact law_5 C X hN hc hO hCA hRA kk
        · refine g_tabIn C (off := 264) (tgt := 296) dL_law_32 (by decide) (by decide) (by decide) (by decide) ?_
          exact law_6 C X hN hc hO hCA hRA kk
        · refine g_tabIn C (off := 317) (tgt := 349) dL_law_32 (by decide) (by decide) (by decide) (by decide) ?_
          exact law_7 C X hN hc hO hCA hRA kk
        · refine g_tabIn C (off := 340) (tgt := 372) dL_law_32 (by decide) (by decide) (by decide) (by decide) ?_
          exact law_8 C X hN hc hO hCA hRA kk
        · refine g_tabIn C (off := 363) (tgt := 395) dL_law_32 (by decide) (by decide) (by decide) (by decide) ?_
          exact law_9 C X hN hc hO hCA hRA kk
        · refine g_tabIn C (off := 396) (tgt := 428) dL_law_32 (by decide) (by decide) (by decide) (by decide) ?_
          exact law_10 C X hN hc hO hCA hRA kk
        · refine g_tabIn C (off := 409) (tgt := 441) dL_law_32 (by decide) (by decide) (by decide) (by decide) ?_
          exact law_11 C X hN hc hO hCA hRA kk
        · refine g_tabIn C (off := 442) (tgt := 474) dL_law_32 (by decide) (by decide) (by decide) (by decide) ?_
          exact law_12 C X hN hc hO hCA hRA kk
        · refine g_tabIn C (off := 475) (tgt := 507) dL_law_32 (by decide) (by decide) (by decide) (by decide) ?_
          exact law_13 C X hN hc hO hCA hRA kk
        · refine g_tabIn C (off := 498) (tgt := 530) dL_law_32 (by decide) (by decide) (by decide) (by decide) ?_
          exact law_14 C X hN hc hO hCA hRA kk
        · refine g_tabIn C (off := 512) (tgt := 544) dL_law_32 (by decide) (by decide) (by decide) (by decide) ?_
          exact law_15 C X hN hc hO hCA hRA kk
        · refine g_tabIn C (off := 535) (tgt := 567) dL_law_32 (by decide) (by decide) (by decide) (by decide) ?_
          exact law_16 C X hN hc hO hCA hRA kk
        · refine g_tabIn C (off := 558) (tgt := 590) dL_law_32 (by decide) (by decide) (by decide) (by decide) ?_
          exact law_17 C X hN hc hO hCA hRA kk
        · refine g_tabIn C (off := 582) (tgt := 614) dL_law_32 (by decide) (by decide) (by decide) (by decide) ?_
          exact law_18 C X hN hc hO hCA hRA kk
        · refine g_tabIn C (off := 655) (tgt := 687) dL_law_32 (by decide) (by decide) (by decide) (by decide) ?_
          exact law_19 C X hN hc hO hCA hRA kk
        · refine g_tabIn C (off := 678) (tgt := 710) dL_law_32 (by decide) (by decide) (by decide) (by decide) ?_
          exact law_20 C X hN hc hO hCA hRA kk
        · refine g_tabIn C (off := 691) (tgt := 723) dL_law_32 (by decide) (by decide) (by decide) (by decide) ?_
          exact law_21 C X hN hc hO hCA hRA kk
        · refine g_tabIn C (off := 704) (tgt := 736) dL_law_32 (by decide) (by decide) (by decide) (by decide) ?_
          exact law_22 C X hN hc hO hCA hRA kk
        · refine g_tabIn C (off := 717) (tgt := 749) dL_law_32 (by decide) (by decide) (by decide) (by decide) ?_
          exact law_23 C X hN hc hO hCA hRA kk
        · refine g_tabIn C (off := 740) (tgt := 772) dL_law_32 (by decide) (by decide) (by decide) (by decide) ?_
          exact law_24 C X hN hc hO hCA hRA kk
      · refine g_tabOut C (tgt := 786) dL_law_32 (by rw [nI_toInt (by omega)]; omega) (by decide) ?_
        exact kk sg tu a (OA_up (by omega) hO) hCA hRA
