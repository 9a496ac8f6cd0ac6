theorem dg_fin (t f : Nat → Int32) : 31 * (31 * (31 * (mxs (mxs (mxs (mxs (mxs 2892 t 5) (cnT f) 8) (drT f) (3 * 6)) (fun k => f (12 + k)) 12) (fun k => f (24 + k)) 7) + vlX f 12 12 0) + trv (gN f) (reN f) 9) + Int32.toInt64 (ex6 (vlX f 12 12 0) 3 f 6).1 = dgE t f := by
  have h : ∀ X : Int64, mxs (mxs X (fun k => f (12 + k)) 12) (fun k => f (24 + k)) 7 = mxs X (fun k => f (12 + k)) 19 := fun X =>
    (mxs_cg 7 (fun k hk => by show f (24 + k) = f (12 + (12 + k)); congr 1; omega)).trans (mxs_add (t := fun k => f (12 + k)) (a := 12) 7)
  rw [h, show 3 * 6 = 18 from rfl]
  unfold dgE dgD dgC dgB dgA
  rfl
set_option maxRecDepth 100000 in
set_option maxHeartbeats 400000 in
theorem c_X4_digest (w : GW) (tu : Int64) (sg : Sg) (B : Nat) (hok : ROk (rowC sg 1)) (hx : XOk (rowC sg 1) B) (hB : B < 2 ^ 31) : Kt w yX4_digest cX4_digest 5 (some .long) 5 [.ref (ad w 0)] sg tu (some (.long (dgE (tC sg) (rowC sg 1)))) sg tu := by
  refine Kt.of2 RX4 rfl [(0, .ref (ad w 0))] (by decide) rfl (Nat.le_of_ble_eq_true rfl) (fun z C E => ?_)
  refine g_ldc2 C cn_X4_178 dX4_digest_0 ?_
  refine g_lstore_n C (L' := [(1, .long 2892), (0, .ref (ad w 0))]) rfl (by decide) rfl dX4_digest_3 ?_
  refine g_iconst C (v := (nI 0)) (by decide) dX4_digest_4 ?_
  refine g_istore_n C (L' := [(3, .int (nI 0)), (1, .long 2892), (0, .ref (ad w 0))]) rfl (by decide) rfl dX4_digest_5 ?_
  have lpi : ∀ (nf i : Nat), 5 < i + nf → i ≤ 5 → (True) → G z w 5 sg tu 6 [(3, .int (nI i)), (1, .long (mxs 2892 (tC sg) i)), (0, .ref (ad w 0))] [] := by
    intro nf
    induction nf with
    | zero => intro i  h1 h2 hI; exact absurd h1 (by omega)
    | succ nf ihlpi =>
      intro i  h1 h2 hI
      refine g_iload_n C 0 rfl rfl dX4_digest_6 ?_
      refine g_iconst C (v := (nI 4)) (by decide) dX4_digest_7 ?_
      refine g_icmpN_gt C i 4 (by omega) (by omega) (tgt := 30) (by decide) dX4_digest_8 (fun h8 => ?_) (fun h8 => ?_)
      ·
        have hiN : 5 = i := by omega
        subst hiN
        refine g_iconst C (v := (nI 0)) (by decide) dX4_digest_30 ?_
        refine g_istore_n C (L' := [(3, .int (nI 0)), (1, .long (mxs 2892 (tC sg) 5)), (0, .ref (ad w 0))]) rfl (by decide) rfl dX4_digest_31 ?_
        obtain ⟨X1, eX1⟩ : ∃ q : Int64, q = (mxs 2892 (tC sg) 5) := ⟨_, rfl⟩
        refine g_eq (L' := [(3, .int (nI 0)), (1, .long X1), (0, .ref (ad w 0))]) rfl rfl (by rw [eX1]) rfl ?_
        have lpc : ∀ (nf c : Nat), 8 < c + nf → c ≤ 8 → (True) → G z w 5 sg tu 32 [(3, .int (nI c)), (1, .long (mxs X1 (cnT (rowC sg 1)) c)), (0, .ref (ad w 0))] [] := by
          intro nf
          induction nf with
          | zero => intro c  h1 h2 hI; exact absurd h1 (by omega)
          | succ nf ihlpc =>
            intro c  h1 h2 hI
            refine g_iload_n C 0 rfl rfl dX4_digest_32 ?_
            refine g_bipush C (v := (nI 7)) (by decide) dX4_digest_33 ?_
            refine g_icmpN_gt C c 7 (by omega) (by omega) (tgt := 57) (by decide) dX4_digest_35 (fun h35 => ?_) (fun h35 => ?_)
            ·
              have hiN : 8 = c := by omega
              subst hiN
              refine g_iconst C (v := (nI 0)) (by decide) dX4_digest_57 ?_
              refine g_istore_n C (L' := [(3, .int (nI 0)), (1, .long (mxs X1 (cnT (rowC sg 1)) 8)), (0, .ref (ad w 0))]) rfl (by decide) rfl dX4_digest_58 ?_
              obtain ⟨X2, eX2⟩ : ∃ q : Int64, q = (mxs X1 (cnT (rowC sg 1)) 8) := ⟨_, rfl⟩
              refine g_eq (L' := [(3, .int (nI 0)), (1, .long X2), (0, .ref (ad w 0))]) rfl rfl (by rw [eX2]) rfl ?_
              have lpd : ∀ (nf d : Nat), 6 < d + nf → d ≤ 6 → (True) → G z w 5 sg tu 59 [(3, .int (nI d)), (1, .long (mxs X2 (drT (rowC sg 1)) (3 * d))), (0, .ref (ad w 0))] [] := by
                intro nf
                induction nf with
                | zero => intro d  h1 h2 hI; exact absurd h1 (by omega)
                | succ nf ihlpd =>
                  intro d  h1 h2 hI
                  refine g_iload_n C 0 rfl rfl dX4_digest_59 ?_
                  refine g_bipush C (v := (nI 6)) (by decide) dX4_digest_60 ?_
                  refine g_icmpN_ge C d 6 (by omega) (by omega) (tgt := 101) (by decide) dX4_digest_62 (fun h62 => ?_) (fun h62 => ?_)
                  ·
                    have hiN : 6 = d := by omega
                    subst hiN
                    refine g_iconst C (v := (nI 0)) (by decide) dX4_digest_101 ?_
                    refine g_istore_n C (L' := [(3, .int (nI 0)), (1, .long (mxs X2 (drT (rowC sg 1)) (3 * 6))), (0, .ref (ad w 0))]) rfl (by decide) rfl dX4_digest_102 ?_
                    obtain ⟨X3, eX3⟩ : ∃ q : Int64, q = (mxs X2 (drT (rowC sg 1)) (3 * 6)) := ⟨_, rfl⟩
                    refine g_eq (L' := [(3, .int (nI 0)), (1, .long X3), (0, .ref (ad w 0))]) rfl rfl (by rw [eX3]) rfl ?_
                    have lpk : ∀ (nf k : Nat), 12 < k + nf → k ≤ 12 → (True) → G z w 5 sg tu 103 [(3, .int (nI k)), (1, .long (mxs X3 (fun k => (rowC sg 1) (12 + k)) k)), (0, .ref (ad w 0))] [] := by
                      intro nf
                      induction nf with
                      | zero => intro k  h1 h2 hI; exact absurd h1 (by omega)
                      | succ nf ihlpk =>
                        intro k  h1 h2 hI
                        refine g_iload_n C 0 rfl rfl dX4_digest_103 ?_
                        refine g_bipush C (v := (nI 12)) (by decide) dX4_digest_104 ?_
                        refine g_icmpN_ge C k 12 (by omega) (by omega) (tgt := 128) (by decide) dX4_digest_106 (fun h106 => ?_) (fun h106 => ?_)
                        ·
                          have hiN : 12 = k := by omega
                          subst hiN
                          refine g_iconst C (v := (nI 0)) (by decide) dX4_digest_128 ?_
                          refine g_istore_n C (L' := [(3, .int (nI 0)), (1, .long (mxs X3 (fun k => (rowC sg 1) (12 + k)) 12)), (0, .ref (ad w 0))]) rfl (by decide) rfl dX4_digest_129 ?_
                          obtain ⟨X4, eX4⟩ : ∃ q : Int64, q = (mxs X3 (fun k => (rowC sg 1) (12 + k)) 12) := ⟨_, rfl⟩
                          refine g_eq (L' := [(3, .int (nI 0)), (1, .long X4), (0, .ref (ad w 0))]) rfl rfl (by rw [eX4]) rfl ?_
                          have lpm : ∀ (nf m : Nat), 7 < m + nf → m ≤ 7 → (True) → G z w 5 sg tu 130 [(3, .int (nI m)), (1, .long (mxs X4 (fun k => (rowC sg 1) (24 + k)) m)), (0, .ref (ad w 0))] [] := by
                            intro nf
                            induction nf with
                            | zero => intro m  h1 h2 hI; exact absurd h1 (by omega)
                            | succ nf ihlpm =>
                              intro m  h1 h2 hI
                              refine g_iload_n C 0 rfl rfl dX4_digest_130 ?_
                              refine g_bipush C (v := (nI 7)) (by decide) dX4_digest_131 ?_
                              refine g_icmpN_ge C m 7 (by omega) (by omega) (tgt := 155) (by decide) dX4_digest_133 (fun h133 => ?_) (fun h133 => ?_)
                              ·
                                have hiN : 7 = m := by omega
                                subst hiN
                                refine g_ldc2 C cn_X4_180 dX4_digest_155 ?_
                                refine g_lload_n C 1 rfl rfl dX4_digest_158 ?_
                                refine g_lmul C dX4_digest_159 ?_
                                refine g_aload_n C 2 rfl rfl dX4_digest_160 ?_
                                refine g_callV1 [.long (31 * (mxs X4 (fun k => (rowC sg 1) (24 + k)) 7))] C (c_X4_value w tu sg  ) mt_X4_value e_0 rfl ml_X4_197 im_X4_value se_X4_value (by decide) rfl (Nat.le_of_ble_eq_true rfl) dX4_digest_161 ?_
                                refine g_eq (L' := [(3, .int (nI 7)), (1, .long (mxs X4 (fun k => (rowC sg 1) (24 + k)) 7)), (0, .ref (ad w 0))]) (S' := [.long (vlX (rowC sg 1) 12 12 0), .long (31 * (mxs X4 (fun k => (rowC sg 1) (24 + k)) 7))]) rfl rfl rfl rfl ?_
                                refine g_ladd C dX4_digest_164 ?_
                                refine g_lstore_n C (L' := [(1, .long ((31 * (mxs X4 (fun k => (rowC sg 1) (24 + k)) 7)) + (vlX (rowC sg 1) 12 12 0))), (3, .int (nI 7)), (0, .ref (ad w 0))]) rfl (by decide) rfl dX4_digest_165 ?_
                                refine g_ldc2 C cn_X4_180 dX4_digest_166 ?_
                                refine g_lload_n C 0 rfl rfl dX4_digest_169 ?_
                                refine g_lmul C dX4_digest_170 ?_
                                refine g_aload_n C 2 rfl rfl dX4_digest_171 ?_
                                refine g_bipush C (v := (nI 9)) (by decide) dX4_digest_172 ?_
                                refine g_callV1 [.long (31 * ((31 * (mxs X4 (fun k => (rowC sg 1) (24 + k)) 7)) + (vlX (rowC sg 1) 12 12 0)))] C (c_X4_trial_ok w tu sg 9 (by decide) (by decide) hok) mt_X4_trial e_0 rfl ml_X4_201 im_X4_trial se_X4_trial (by decide) rfl (Nat.le_of_ble_eq_true rfl) dX4_digest_174 ?_
                                refine g_eq (L' := [(1, .long ((31 * (mxs X4 (fun k => (rowC sg 1) (24 + k)) 7)) + (vlX (rowC sg 1) 12 12 0))), (3, .int (nI 7)), (0, .ref (ad w 0))]) (S' := [.long (trv (gN (rowC sg 1)) (reN (rowC sg 1)) 9), .long (31 * ((31 * (mxs X4 (fun k => (rowC sg 1) (24 + k)) 7)) + (vlX (rowC sg 1) 12 12 0)))]) rfl rfl rfl rfl ?_
                                refine g_ladd C dX4_digest_177 ?_
                                refine g_lstore_n C (L' := [(1, .long ((31 * ((31 * (mxs X4 (fun k => (rowC sg 1) (24 + k)) 7)) + (vlX (rowC sg 1) 12 12 0))) + (trv (gN (rowC sg 1)) (reN (rowC sg 1)) 9))), (3, .int (nI 7)), (0, .ref (ad w 0))]) rfl (by decide) rfl dX4_digest_178 ?_
                                refine g_ldc2 C cn_X4_180 dX4_digest_179 ?_
                                refine g_lload_n C 0 rfl rfl dX4_digest_182 ?_
                                refine g_lmul C dX4_digest_183 ?_
                                refine g_aload_n C 2 rfl rfl dX4_digest_184 ?_
                                refine g_aload_n C 2 rfl rfl dX4_digest_185 ?_
                                refine g_callV1 [.ref (ad w 0), .long (31 * ((31 * ((31 * (mxs X4 (fun k => (rowC sg 1) (24 + k)) 7)) + (vlX (rowC sg 1) 12 12 0))) + (trv (gN (rowC sg 1)) (reN (rowC sg 1)) 9)))] C (c_X4_value w tu sg  ) mt_X4_value e_0 rfl ml_X4_197 im_X4_value se_X4_value (by decide) rfl (Nat.le_of_ble_eq_true rfl) dX4_digest_186 ?_
                                refine g_eq (L' := [(1, .long ((31 * ((31 * (mxs X4 (fun k => (rowC sg 1) (24 + k)) 7)) + (vlX (rowC sg 1) 12 12 0))) + (trv (gN (rowC sg 1)) (reN (rowC sg 1)) 9))), (3, .int (nI 7)), (0, .ref (ad w 0))]) (S' := [.long (vlX (rowC sg 1) 12 12 0), .ref (ad w 0), .long (31 * ((31 * ((31 * (mxs X4 (fun k => (rowC sg 1) (24 + k)) 7)) + (vlX (rowC sg 1) 12 12 0))) + (trv (gN (rowC sg 1)) (reN (rowC sg 1)) 9)))]) rfl rfl rfl rfl ?_
                                refine g_iconst C (v := (nI 3)) (by decide) dX4_digest_189 ?_
                                refine g_iconst C (v := (nI 0)) (by decide) dX4_digest_190 ?_
                                refine g_callV1 [.long (31 * ((31 * ((31 * (mxs X4 (fun k => (rowC sg 1) (24 + k)) 7)) + (vlX (rowC sg 1) 12 12 0))) + (trv (gN (rowC sg 1)) (reN (rowC sg 1)) 9)))] C (c_X4_explains_0 w tu sg (vlX (rowC sg 1) 12 12 0) 3 (vl_lt hok) (by decide) (by decide) hok) mt_X4_explains e_0 rfl ml_X4_205 im_X4_explains se_X4_explains (by decide) rfl (Nat.le_of_ble_eq_true rfl) dX4_digest_191 ?_
                                refine g_eq (L' := [(1, .long ((31 * ((31 * (mxs X4 (fun k => (rowC sg 1) (24 + k)) 7)) + (vlX (rowC sg 1) 12 12 0))) + (trv (gN (rowC sg 1)) (reN (rowC sg 1)) 9))), (3, .int (nI 7)), (0, .ref (ad w 0))]) (S' := [.int ((ex6 (vlX (rowC sg 1) 12 12 0) 3 (rowC sg 1) 6).1), .long (31 * ((31 * ((31 * (mxs X4 (fun k => (rowC sg 1) (24 + k)) 7)) + (vlX (rowC sg 1) 12 12 0))) + (trv (gN (rowC sg 1)) (reN (rowC sg 1)) 9)))]) rfl rfl rfl rfl ?_
                                refine g_i2l C dX4_digest_194 ?_
                                refine g_ladd C dX4_digest_195 ?_
                                exact g_lret C E dX4_digest_196 (by rw [eX4, eX3, eX2, eX1]; exact dg_fin (tC sg) (rowC sg 1)) Sq.rf rfl
                              ·
                                refine g_ldc2 C cn_X4_180 dX4_digest_136 ?_
                                refine g_lload_n C 1 rfl rfl dX4_digest_139 ?_
                                refine g_lmul C dX4_digest_140 ?_
                                refine g_aload_n C 2 rfl rfl dX4_digest_141 ?_
                                refine g_iload_n C 0 rfl rfl dX4_digest_142 ?_
                                refine g_callV1 [.long (31 * (mxs X4 (fun k => (rowC sg 1) (24 + k)) m))] C (c_X4_counter_ok w tu sg m (by omega) (nn_c (by omega) hx)) mt_X4_counter e_0 rfl ml_X4_194 im_X4_counter se_X4_counter (by decide) rfl (Nat.le_of_ble_eq_true rfl) dX4_digest_143 ?_
                                refine g_eq (L' := [(3, .int (nI m)), (1, .long (mxs X4 (fun k => (rowC sg 1) (24 + k)) m)), (0, .ref (ad w 0))]) (S' := [.int ((rowC sg 1) (24 + m)), .long (31 * (mxs X4 (fun k => (rowC sg 1) (24 + k)) m))]) rfl rfl rfl rfl ?_
                                refine g_i2l C dX4_digest_146 ?_
                                refine g_ladd C dX4_digest_147 ?_
                                refine g_lstore_n C (L' := [(1, .long ((31 * (mxs X4 (fun k => (rowC sg 1) (24 + k)) m)) + (Int32.toInt64 ((rowC sg 1) (24 + m))))), (3, .int (nI m)), (0, .ref (ad w 0))]) rfl (by decide) rfl dX4_digest_148 ?_
                                refine g_iinc C (n := 1) (v := (nI (m + 1))) (L' := [(3, .int (nI (m + 1))), (1, .long ((31 * (mxs X4 (fun k => (rowC sg 1) (24 + k)) m)) + (Int32.toInt64 ((rowC sg 1) (24 + m))))), (0, .ref (ad w 0))]) 1 rfl (nI_add m 1) (by decide) rfl dX4_digest_149 ?_
                                refine g_goto C (tgt := 130) (by decide) dX4_digest_152 ?_
                                refine g_sub (L' := [(3, .int (nI (m + 1))), (1, .long ((31 * (mxs X4 (fun k => (rowC sg 1) (24 + k)) m)) + (Int32.toInt64 ((rowC sg 1) (24 + m))))), (0, .ref (ad w 0))]) [0, 1, 2] rfl ?_
                                refine g_eq (L' := [(3, .int (nI (m + 1))), (1, .long (mxs X4 (fun k => (rowC sg 1) (24 + k)) (m + 1))), (0, .ref (ad w 0))]) rfl rfl rfl rfl ?_
                                exact ihlpm (m + 1)  (by omega) (by omega) trivial
                          exact lpm (7 + 1) 0  (by omega) (by omega) trivial
                        ·
                          refine g_ldc2 C cn_X4_180 dX4_digest_109 ?_
                          refine g_lload_n C 1 rfl rfl dX4_digest_112 ?_
                          refine g_lmul C dX4_digest_113 ?_
                          refine g_aload_n C 2 rfl rfl dX4_digest_114 ?_
                          refine g_iload_n C 0 rfl rfl dX4_digest_115 ?_
                          refine g_callV1 [.long (31 * (mxs X3 (fun k => (rowC sg 1) (12 + k)) k))] C (c_X4_wheel_ok w tu sg k (by omega) hok) mt_X4_wheel e_0 rfl ml_X4_191 im_X4_wheel se_X4_wheel (by decide) rfl (Nat.le_of_ble_eq_true rfl) dX4_digest_116 ?_
                          refine g_eq (L' := [(3, .int (nI k)), (1, .long (mxs X3 (fun k => (rowC sg 1) (12 + k)) k)), (0, .ref (ad w 0))]) (S' := [.int ((rowC sg 1) (12 + k)), .long (31 * (mxs X3 (fun k => (rowC sg 1) (12 + k)) k))]) rfl rfl rfl rfl ?_
                          refine g_i2l C dX4_digest_119 ?_
                          refine g_ladd C dX4_digest_120 ?_
                          refine g_lstore_n C (L' := [(1, .long ((31 * (mxs X3 (fun k => (rowC sg 1) (12 + k)) k)) + (Int32.toInt64 ((rowC sg 1) (12 + k))))), (3, .int (nI k)), (0, .ref (ad w 0))]) rfl (by decide) rfl dX4_digest_121 ?_
                          refine g_iinc C (n := 1) (v := (nI (k + 1))) (L' := [(3, .int (nI (k + 1))), (1, .long ((31 * (mxs X3 (fun k => (rowC sg 1) (12 + k)) k)) + (Int32.toInt64 ((rowC sg 1) (12 + k))))), (0, .ref (ad w 0))]) 1 rfl (nI_add k 1) (by decide) rfl dX4_digest_122 ?_
                          refine g_goto C (tgt := 103) (by decide) dX4_digest_125 ?_
                          refine g_sub (L' := [(3, .int (nI (k + 1))), (1, .long ((31 * (mxs X3 (fun k => (rowC sg 1) (12 + k)) k)) + (Int32.toInt64 ((rowC sg 1) (12 + k))))), (0, .ref (ad w 0))]) [0, 1, 2] rfl ?_
                          refine g_eq (L' := [(3, .int (nI (k + 1))), (1, .long (mxs X3 (fun k => (rowC sg 1) (12 + k)) (k + 1))), (0, .ref (ad w 0))]) rfl rfl rfl rfl ?_
                          exact ihlpk (k + 1)  (by omega) (by omega) trivial
                    exact lpk (12 + 1) 0  (by omega) (by omega) trivial
                  ·
                    refine g_iconst C (v := (nI 0)) (by decide) dX4_digest_65 ?_
                    refine g_istore C (L' := [(4, .int (nI 0)), (3, .int (nI d)), (1, .long (mxs X2 (drT (rowC sg 1)) (3 * d))), (0, .ref (ad w 0))]) (by decide) rfl dX4_digest_66 ?_
                    have lpq : ∀ (nf q : Nat), 3 < q + nf → q ≤ 3 → (True) → G z w 5 sg tu 68 [(4, .int (nI q)), (3, .int (nI d)), (1, .long (mxs X2 (drT (rowC sg 1)) (3 * d + q))), (0, .ref (ad w 0))] [] := by
                      intro nf
                      induction nf with
                      | zero => intro q  h1 h2 hI; exact absurd h1 (by omega)
                      | succ nf ihlpq =>
                        intro q  h1 h2 hI
                        refine g_iload C 0 rfl dX4_digest_68 ?_
                        refine g_iconst C (v := (nI 2)) (by decide) dX4_digest_70 ?_
                        refine g_icmpN_gt C q 2 (by omega) (by omega) (tgt := 95) (by decide) dX4_digest_71 (fun h71 => ?_) (fun h71 => ?_)
                        ·
                          have hiN : 3 = q := by omega
                          subst hiN
                          refine g_iinc C (n := 1) (v := (nI (d + 1))) (L' := [(3, .int (nI (d + 1))), (4, .int (nI 3)), (1, .long (mxs X2 (drT (rowC sg 1)) (3 * d + 3))), (0, .ref (ad w 0))]) 1 rfl (nI_add d 1) (by decide) rfl dX4_digest_95 ?_
                          refine g_goto C (tgt := 59) (by decide) dX4_digest_98 ?_
                          refine g_sub (L' := [(3, .int (nI (d + 1))), (1, .long (mxs X2 (drT (rowC sg 1)) (3 * d + 3))), (0, .ref (ad w 0))]) [0, 2, 3] rfl ?_
                          refine g_eq (L' := [(3, .int (nI (d + 1))), (1, .long (mxs X2 (drT (rowC sg 1)) (3 * (d + 1)))), (0, .ref (ad w 0))]) rfl rfl rfl rfl ?_
                          exact ihlpd (d + 1)  (by omega) (by omega) trivial
                        ·
                          refine g_ldc2 C cn_X4_180 dX4_digest_74 ?_
                          refine g_lload_n C 2 rfl rfl dX4_digest_77 ?_
                          refine g_lmul C dX4_digest_78 ?_
                          refine g_aload_n C 3 rfl rfl dX4_digest_79 ?_
                          refine g_iload_n C 1 rfl rfl dX4_digest_80 ?_
                          refine g_iload C 0 rfl dX4_digest_81 ?_
                          refine g_callV1 [.long (31 * (mxs X2 (drT (rowC sg 1)) (3 * d + q)))] C (c_X4_drum_n w tu sg d q (by omega) (by omega) hok) mt_X4_drum e_0 rfl ml_X4_188 im_X4_drum se_X4_drum (by decide) rfl (Nat.le_of_ble_eq_true rfl) dX4_digest_83 ?_
                          refine g_eq (L' := [(4, .int (nI q)), (3, .int (nI d)), (1, .long (mxs X2 (drT (rowC sg 1)) (3 * d + q))), (0, .ref (ad w 0))]) (S' := [.int (drT (rowC sg 1) (3 * d + q)), .long (31 * (mxs X2 (drT (rowC sg 1)) (3 * d + q)))]) rfl rfl rfl rfl ?_
                          refine g_i2l C dX4_digest_86 ?_
                          refine g_ladd C dX4_digest_87 ?_
                          refine g_lstore_n C (L' := [(1, .long ((31 * (mxs X2 (drT (rowC sg 1)) (3 * d + q))) + (Int32.toInt64 (drT (rowC sg 1) (3 * d + q))))), (4, .int (nI q)), (3, .int (nI d)), (0, .ref (ad w 0))]) rfl (by decide) rfl dX4_digest_88 ?_
                          refine g_iinc C (n := 1) (v := (nI (q + 1))) (L' := [(4, .int (nI (q + 1))), (1, .long ((31 * (mxs X2 (drT (rowC sg 1)) (3 * d + q))) + (Int32.toInt64 (drT (rowC sg 1) (3 * d + q))))), (3, .int (nI d)), (0, .ref (ad w 0))]) 1 rfl (nI_add q 1) (by decide) rfl dX4_digest_89 ?_
                          refine g_goto C (tgt := 68) (by decide) dX4_digest_92 ?_
                          refine g_sub (L' := [(4, .int (nI (q + 1))), (3, .int (nI d)), (1, .long ((31 * (mxs X2 (drT (rowC sg 1)) (3 * d + q))) + (Int32.toInt64 (drT (rowC sg 1) (3 * d + q))))), (0, .ref (ad w 0))]) [0, 2, 1, 3] rfl ?_
                          refine g_eq (L' := [(4, .int (nI (q + 1))), (3, .int (nI d)), (1, .long (mxs X2 (drT (rowC sg 1)) (3 * d + (q + 1)))), (0, .ref (ad w 0))]) rfl rfl rfl rfl ?_
                          exact ihlpq (q + 1)  (by omega) (by omega) trivial
                    exact lpq (3 + 1) 0  (by omega) (by omega) trivial
              exact lpd (6 + 1) 0  (by omega) (by omega) trivial
            ·
              refine g_ldc2 C cn_X4_180 dX4_digest_38 ?_
              refine g_lload_n C 1 rfl rfl dX4_digest_41 ?_
              refine g_lmul C dX4_digest_42 ?_
              refine g_aload_n C 2 rfl rfl dX4_digest_43 ?_
              refine g_iload_n C 0 rfl rfl dX4_digest_44 ?_
              refine g_callV1 [.long (31 * (mxs X1 (cnT (rowC sg 1)) c))] C (c_X4_count_n w tu sg c B (by omega) hok hx hB) mt_X4_count e_0 rfl ml_X4_185 im_X4_count se_X4_count (by decide) rfl (Nat.le_of_ble_eq_true rfl) dX4_digest_45 ?_
              refine g_eq (L' := [(3, .int (nI c)), (1, .long (mxs X1 (cnT (rowC sg 1)) c)), (0, .ref (ad w 0))]) (S' := [.int (cnT (rowC sg 1) c), .long (31 * (mxs X1 (cnT (rowC sg 1)) c))]) rfl rfl rfl rfl ?_
              refine g_i2l C dX4_digest_48 ?_
              refine g_ladd C dX4_digest_49 ?_
              refine g_lstore_n C (L' := [(1, .long ((31 * (mxs X1 (cnT (rowC sg 1)) c)) + (Int32.toInt64 (cnT (rowC sg 1) c)))), (3, .int (nI c)), (0, .ref (ad w 0))]) rfl (by decide) rfl dX4_digest_50 ?_
              refine g_iinc C (n := 1) (v := (nI (c + 1))) (L' := [(3, .int (nI (c + 1))), (1, .long ((31 * (mxs X1 (cnT (rowC sg 1)) c)) + (Int32.toInt64 (cnT (rowC sg 1) c)))), (0, .ref (ad w 0))]) 1 rfl (nI_add c 1) (by decide) rfl dX4_digest_51 ?_
              refine g_goto C (tgt := 32) (by decide) dX4_digest_54 ?_
              refine g_sub (L' := [(3, .int (nI (c + 1))), (1, .long ((31 * (mxs X1 (cnT (rowC sg 1)) c)) + (Int32.toInt64 (cnT (rowC sg 1) c)))), (0, .ref (ad w 0))]) [0, 1, 2] rfl ?_
              refine g_eq (L' := [(3, .int (nI (c + 1))), (1, .long (mxs X1 (cnT (rowC sg 1)) (c + 1))), (0, .ref (ad w 0))]) rfl rfl rfl rfl ?_
              exact ihlpc (c + 1)  (by omega) (by omega) trivial
        exact lpc (8 + 1) 0  (by omega) (by omega) trivial
      ·
        refine g_ldc2 C cn_X4_180 dX4_digest_11 ?_
        refine g_lload_n C 1 rfl rfl dX4_digest_14 ?_
        refine g_lmul C dX4_digest_15 ?_
        refine g_aload_n C 2 rfl rfl dX4_digest_16 ?_
        refine g_iload_n C 0 rfl rfl dX4_digest_17 ?_
        refine g_callV1 [.long (31 * (mxs 2892 (tC sg) i))] C (c_X4_told_n w tu sg i (by omega)) mt_X4_told e_0 rfl ml_X4_182 im_X4_told se_X4_told (by decide) rfl (Nat.le_of_ble_eq_true rfl) dX4_digest_18 ?_
        refine g_eq (L' := [(3, .int (nI i)), (1, .long (mxs 2892 (tC sg) i)), (0, .ref (ad w 0))]) (S' := [.int (tC sg i), .long (31 * (mxs 2892 (tC sg) i))]) rfl rfl rfl rfl ?_
        refine g_i2l C dX4_digest_21 ?_
        refine g_ladd C dX4_digest_22 ?_
        refine g_lstore_n C (L' := [(1, .long ((31 * (mxs 2892 (tC sg) i)) + (Int32.toInt64 (tC sg i)))), (3, .int (nI i)), (0, .ref (ad w 0))]) rfl (by decide) rfl dX4_digest_23 ?_
        refine g_iinc C (n := 1) (v := (nI (i + 1))) (L' := [(3, .int (nI (i + 1))), (1, .long ((31 * (mxs 2892 (tC sg) i)) + (Int32.toInt64 (tC sg i)))), (0, .ref (ad w 0))]) 1 rfl (nI_add i 1) (by decide) rfl dX4_digest_24 ?_
        refine g_goto C (tgt := 6) (by decide) dX4_digest_27 ?_
        refine g_sub (L' := [(3, .int (nI (i + 1))), (1, .long ((31 * (mxs 2892 (tC sg) i)) + (Int32.toInt64 (tC sg i)))), (0, .ref (ad w 0))]) [0, 1, 2] rfl ?_
        refine g_eq (L' := [(3, .int (nI (i + 1))), (1, .long (mxs 2892 (tC sg) (i + 1))), (0, .ref (ad w 0))]) rfl rfl rfl rfl ?_
        exact ihlpi (i + 1)  (by omega) (by omega) trivial
  exact lpi (5 + 1) 0  (by omega) (by omega) trivial
