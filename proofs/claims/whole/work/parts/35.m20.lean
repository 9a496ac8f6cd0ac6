def mxs (h0 : Int64) (t : Nat → Int32) : Nat → Int64
  | 0 => h0
  | k + 1 => 31 * mxs h0 t k + Int32.toInt64 (t k)
def toT (sg : Sg) (k : Nat) : Int32 := if k < 3 then sg 48 k else if k = 3 then sg 44 6 else sg 44 3
def cnT (f : Nat → Int32) (k : Nat) : Int32 := if k = 0 then nbX f 0 6 (nI 0) else if k = 1 then nbX (fun d => whX (f (6 + d)) (dN f d + 1)) 0 6 (nI 0) else if k = 2 then nbX f 24 7 (nI 0) else if k = 7 then wsX f 6 else f (28 + k)
def drT (f : Nat → Int32) (q : Nat) : Int32 := if q % 3 = 0 then f (q / 3) else if q % 3 = 1 then whX (f (6 + q / 3)) (dN f (q / 3) + 1) else f (6 + q / 3)
def dgA (t : Nat → Int32) : Int64 := mxs 2892 t 5
def dgB (t f : Nat → Int32) : Int64 := mxs (dgA t) (cnT f) 8
def dgC (t f : Nat → Int32) : Int64 := mxs (dgB t f) (drT f) 18
def dgD (t f : Nat → Int32) : Int64 := mxs (dgC t f) (fun k => f (12 + k)) 19
theorem mxs_0 (h0 : Int64) (t : Nat → Int32) : h0 = mxs h0 t 0 := rfl
theorem dgA_e (t : Nat → Int32) : mxs 2892 t 5 = dgA t := rfl
theorem dgB_e (t f : Nat → Int32) : mxs (dgA t) (cnT f) 8 = dgB t f := rfl
theorem dgC_e (t f : Nat → Int32) : mxs (dgB t f) (drT f) 18 = dgC t f := rfl
theorem dgD_e (t f : Nat → Int32) : mxs (dgC t f) (fun k => f (12 + k)) 19 = dgD t f := rfl
theorem mxs_s {h0 : Int64} {t : Nat → Int32} {k : Nat} {x : Int64} {y : Int32} (hx : x = mxs h0 t k) (hy : y = t k) : 31 * x + Int32.toInt64 y = mxs h0 t (k + 1) := by rw [hx, hy]; rfl
def dgE (t f : Nat → Int32) : Int64 := 31 * (31 * (31 * dgD t f + vlX f 12 12 0) + trv (gN f) (reN f) 9) + Int32.toInt64 (ex6 (vlX f 12 12 0) 3 f 6).1
theorem digsq {sg : Sg} {a b c d : Nat → Int32} : us (us (us (us (us sg 50 a) 50 a) 51 b) 50 c) 51 d = us (us sg 50 c) 51 d := by
  rw [us_us, us_nrm (sg := us sg 50 a) (by decide), us_us]
set_option maxRecDepth 100000 in
set_option maxHeartbeats 1000000 in
theorem dgs_120 {z : GZ} {w : GW} {sg : Sg} (C : Cx z w cX5_digest 3 RX5 4) (E : Ends z w (some .long) (some (.long (dgE (toT sg) (sg 45)))) (us (us sg 50 (gwI (sg 45) 5 9)) 51 (emb 0 (twI (gw (sg 45) 5 9) (reN (sg 45)) 3) (sg 51))) (dgE (toT sg) (sg 45))) (hok : ROk (sg 45)) : G z w 3 (us sg 50 (fun d => whX ((sg 45) (6 + d)) (dN (sg 45) d + 1))) (dgD (toT sg) (sg 45)) 120 [(1, .int (nI 19)), (0, .ref (ad w 44))] [] := by
  refine g_aload_n C 1 rfl rfl dX5_digest_120 ?_
  refine g_callV1 [] C (c_X5_value w (dgD (toT sg) (sg 45)) (us sg 50 (fun d => whX ((sg 45) (6 + d)) (dN (sg 45) d + 1)))  ) mt_X5_value e_44 rfl ml_X5_233 im_X5_value se_X5_value (by decide) rfl (Nat.le_of_ble_eq_true rfl) dX5_digest_121 ?_
  refine g_eq (L' := [(1, .int (nI 19)), (0, .ref (ad w 44))]) (S' := [.long (vlX (sg 45) 12 12 0)]) rfl rfl rfl rfl ?_
  refine g_lstore_n C (L' := [(1, .long (vlX (sg 45) 12 12 0)), (0, .ref (ad w 44))]) rfl (by decide) rfl dX5_digest_124 ?_
  refine g_aload_n C 1 rfl rfl dX5_digest_125 ?_
  refine g_lload_n C 0 rfl rfl dX5_digest_126 ?_
  refine g_callV0 [] C (c_X5_mix w (dgD (toT sg) (sg 45)) (us sg 50 (fun d => whX ((sg 45) (6 + d)) (dN (sg 45) d + 1))) (vlX (sg 45) 12 12 0) ) mt_X5_mix e_44 rfl ml_X5_229 im_X5_mix se_X5_mix (by decide) rfl (Nat.le_of_ble_eq_true rfl) dX5_digest_127 ?_
  refine g_eq (sg' := (us sg 50 (fun d => whX ((sg 45) (6 + d)) (dN (sg 45) d + 1)))) (L' := [(1, .long (vlX (sg 45) 12 12 0)), (0, .ref (ad w 44))]) (S' := []) rfl rfl rfl rfl ?_
  refine g_aload_n C 1 rfl rfl dX5_digest_130 ?_
  refine g_aload_n C 1 rfl rfl dX5_digest_131 ?_
  refine g_bipush C (v := (nI 9)) (by decide) dX5_digest_132 ?_
  refine g_callV1 [.ref (ad w 44)] C (c_X5_trialOf w (31 * (dgD (toT sg) (sg 45)) + (vlX (sg 45) 12 12 0)) (us sg 50 (fun d => whX ((sg 45) (6 + d)) (dN (sg 45) d + 1))) 9 (by decide) hok) mt_X5_trialOf e_44 rfl ml_X5_171 im_X5_trialOf se_X5_trialOf (by decide) rfl (Nat.le_of_ble_eq_true rfl) dX5_digest_134 ?_
  refine g_eq (sg' := (us (us (us sg 50 (fun d => whX ((sg 45) (6 + d)) (dN (sg 45) d + 1))) 50 (fun d => whX ((sg 45) (6 + d)) (dN (sg 45) d + 1))) 51 (emb 0 (twI (gN (sg 45)) (reN (sg 45)) 9) (sg 51)))) (L' := [(1, .long (vlX (sg 45) 12 12 0)), (0, .ref (ad w 44))]) (S' := [.long (trv (gN (sg 45)) (reN (sg 45)) 9), .ref (ad w 44)]) rfl rfl rfl rfl ?_
  refine g_callV0 [] C (c_X5_mix w (31 * (dgD (toT sg) (sg 45)) + (vlX (sg 45) 12 12 0)) (us (us (us sg 50 (fun d => whX ((sg 45) (6 + d)) (dN (sg 45) d + 1))) 50 (fun d => whX ((sg 45) (6 + d)) (dN (sg 45) d + 1))) 51 (emb 0 (twI (gN (sg 45)) (reN (sg 45)) 9) (sg 51))) (trv (gN (sg 45)) (reN (sg 45)) 9) ) mt_X5_mix e_44 rfl ml_X5_229 im_X5_mix se_X5_mix (by decide) rfl (Nat.le_of_ble_eq_true rfl) dX5_digest_137 ?_
  refine g_eq (sg' := (us (us (us sg 50 (fun d => whX ((sg 45) (6 + d)) (dN (sg 45) d + 1))) 50 (fun d => whX ((sg 45) (6 + d)) (dN (sg 45) d + 1))) 51 (emb 0 (twI (gN (sg 45)) (reN (sg 45)) 9) (sg 51)))) (L' := [(1, .long (vlX (sg 45) 12 12 0)), (0, .ref (ad w 44))]) (S' := []) rfl rfl rfl rfl ?_
  refine g_aload_n C 1 rfl rfl dX5_digest_140 ?_
  refine g_aload_n C 1 rfl rfl dX5_digest_141 ?_
  refine g_lload_n C 0 rfl rfl dX5_digest_142 ?_
  refine g_iconst C (v := (nI 3)) (by decide) dX5_digest_143 ?_
  refine g_iconst C (v := (nI 0)) (by decide) dX5_digest_144 ?_
  refine g_callV1 [.ref (ad w 44)] C (c_X5_explained_0 w (31 * (31 * (dgD (toT sg) (sg 45)) + (vlX (sg 45) 12 12 0)) + (trv (gN (sg 45)) (reN (sg 45)) 9)) (us (us (us sg 50 (fun d => whX ((sg 45) (6 + d)) (dN (sg 45) d + 1))) 50 (fun d => whX ((sg 45) (6 + d)) (dN (sg 45) d + 1))) 51 (emb 0 (twI (gN (sg 45)) (reN (sg 45)) 9) (sg 51))) (vlX (sg 45) 12 12 0) 3 (by decide) hok) mt_X5_explained e_44 rfl ml_X5_174 im_X5_explained se_X5_explained (by decide) rfl (Nat.le_of_ble_eq_true rfl) dX5_digest_145 ?_
  refine g_eq (sg' := (us (us (us (us (us sg 50 (fun d => whX ((sg 45) (6 + d)) (dN (sg 45) d + 1))) 50 (fun d => whX ((sg 45) (6 + d)) (dN (sg 45) d + 1))) 51 (emb 0 (twI (gN (sg 45)) (reN (sg 45)) 9) (sg 51))) 50 (gwI (sg 45) 5 9)) 51 (emb 0 (twI (gw (sg 45) 5 9) (reN (sg 45)) 3) (emb 0 (twI (gN (sg 45)) (reN (sg 45)) 9) (sg 51))))) (L' := [(1, .long (vlX (sg 45) 12 12 0)), (0, .ref (ad w 44))]) (S' := [.int ((ex6 (vlX (sg 45) 12 12 0) 3 (sg 45) 6).1), .ref (ad w 44)]) rfl rfl rfl rfl ?_
  refine g_i2l C dX5_digest_148 ?_
  refine g_callV0 [] C (c_X5_mix w (31 * (31 * (dgD (toT sg) (sg 45)) + (vlX (sg 45) 12 12 0)) + (trv (gN (sg 45)) (reN (sg 45)) 9)) (us (us (us (us (us sg 50 (fun d => whX ((sg 45) (6 + d)) (dN (sg 45) d + 1))) 50 (fun d => whX ((sg 45) (6 + d)) (dN (sg 45) d + 1))) 51 (emb 0 (twI (gN (sg 45)) (reN (sg 45)) 9) (sg 51))) 50 (gwI (sg 45) 5 9)) 51 (emb 0 (twI (gw (sg 45) 5 9) (reN (sg 45)) 3) (emb 0 (twI (gN (sg 45)) (reN (sg 45)) 9) (sg 51)))) (Int32.toInt64 ((ex6 (vlX (sg 45) 12 12 0) 3 (sg 45) 6).1)) ) mt_X5_mix e_44 rfl ml_X5_229 im_X5_mix se_X5_mix (by decide) rfl (Nat.le_of_ble_eq_true rfl) dX5_digest_149 ?_
  refine g_eq (sg' := (us (us (us (us (us sg 50 (fun d => whX ((sg 45) (6 + d)) (dN (sg 45) d + 1))) 50 (fun d => whX ((sg 45) (6 + d)) (dN (sg 45) d + 1))) 51 (emb 0 (twI (gN (sg 45)) (reN (sg 45)) 9) (sg 51))) 50 (gwI (sg 45) 5 9)) 51 (emb 0 (twI (gw (sg 45) 5 9) (reN (sg 45)) 3) (emb 0 (twI (gN (sg 45)) (reN (sg 45)) 9) (sg 51))))) (L' := [(1, .long (vlX (sg 45) 12 12 0)), (0, .ref (ad w 44))]) (S' := []) rfl rfl rfl rfl ?_
  refine g_aload_n C 1 rfl rfl dX5_digest_152 ?_
  refine g_getL C (j := 15) cls5 e_44 rfl (by decide) fl_X5_223 dX5_digest_153 ?_
  exact g_lret C E dX5_digest_156 rfl (Sq.trans (Sq.of digsq) (sq2 (fun _ _ => rfl) (fun k hk => by unfold emb; rw [if_pos (by omega), if_pos (by omega)]))) rfl
set_option maxRecDepth 100000 in
set_option maxHeartbeats 1000000 in
theorem dgs_94 {z : GZ} {w : GW} {sg : Sg} (C : Cx z w cX5_digest 3 RX5 4) (E : Ends z w (some .long) (some (.long (dgE (toT sg) (sg 45)))) (us (us sg 50 (gwI (sg 45) 5 9)) 51 (emb 0 (twI (gw (sg 45) 5 9) (reN (sg 45)) 3) (sg 51))) (dgE (toT sg) (sg 45))) (hok : ROk (sg 45)) : G z w 3 (us sg 50 (fun d => whX ((sg 45) (6 + d)) (dN (sg 45) d + 1))) (mxs (dgC (toT sg) (sg 45)) (fun k => sg 45 (12 + k)) 0) 94 [(1, .int (nI 0)), (0, .ref (ad w 44))] [] := by
  have lp : ∀ (nf i : Nat), 19 < i + nf → i ≤ 19 → (True) → G z w 3 (us sg 50 (fun d => whX ((sg 45) (6 + d)) (dN (sg 45) d + 1))) (mxs (dgC (toT sg) (sg 45)) (fun k => sg 45 (12 + k)) i) 94 [(1, .int (nI i)), (0, .ref (ad w 44))] [] := by
    intro nf
    induction nf with
    | zero => intro i  h1 h2 hI; exact absurd h1 (by omega)
    | succ nf ihlp =>
      intro i  h1 h2 hI
      refine g_iload_n C 0 rfl rfl dX5_digest_94 ?_
      refine g_bipush C (v := (nI 19)) (by decide) dX5_digest_95 ?_
      refine g_icmpN_ge C i 19 (by omega) (by omega) (tgt := 120) (by decide) dX5_digest_97 (fun h97 => ?_) (fun h97 => ?_)
      ·
        have hiN : 19 = i := by omega
        subst hiN
        refine g_tuE (tu' := (dgD (toT sg) (sg 45))) (dgD_e _ _) ?_
        exact dgs_120 C E hok
      ·
        refine g_aload_n C 1 rfl rfl dX5_digest_100 ?_
        refine g_aload_n C 1 rfl rfl dX5_digest_101 ?_
        refine g_getR C (j := 0) cls5 e_44 rfl (by decide) fl_X5_7 dX5_digest_102 ?_
        refine g_bipush C (v := (nI 12)) (by decide) dX5_digest_105 ?_
        refine g_iload_n C 0 rfl rfl dX5_digest_107 ?_
        refine g_iadd C dX5_digest_108 ?_
        refine g_top (y := (nI (12 + i))) (nI_add 12 i) ?_
        refine g_ialdN C (12 + i) e_45 (by omega) (by decide) dX5_digest_109 ?_
        refine g_top (y := (sg 45 (12 + i))) rfl ?_
        refine g_i2l C dX5_digest_110 ?_
        refine g_callV0 [] C (c_X5_mix w (mxs (dgC (toT sg) (sg 45)) (fun k => sg 45 (12 + k)) i) (us sg 50 (fun d => whX ((sg 45) (6 + d)) (dN (sg 45) d + 1))) (Int32.toInt64 (sg 45 (12 + i))) ) mt_X5_mix e_44 rfl ml_X5_229 im_X5_mix se_X5_mix (by decide) rfl (Nat.le_of_ble_eq_true rfl) dX5_digest_111 ?_
        refine g_eq (sg' := (us sg 50 (fun d => whX ((sg 45) (6 + d)) (dN (sg 45) d + 1)))) (L' := [(1, .int (nI i)), (0, .ref (ad w 44))]) (S' := []) rfl rfl rfl rfl ?_
        refine g_tuE (tu' := (mxs (dgC (toT sg) (sg 45)) (fun k => sg 45 (12 + k)) (i + 1))) (mxs_s rfl rfl) ?_
        refine g_iinc C (n := 1) (v := (nI (i + 1))) (L' := [(1, .int (nI (i + 1))), (0, .ref (ad w 44))]) 0 rfl (nI_add i 1) (by decide) rfl dX5_digest_114 ?_
        refine g_goto C (tgt := 94) (by decide) dX5_digest_117 ?_
        refine g_sub (L' := [(1, .int (nI (i + 1))), (0, .ref (ad w 44))]) [0, 1] rfl ?_
        exact ihlp (i + 1)  (by omega) (by omega) trivial
  exact lp (19 + 1) 0  (by omega) (by omega) trivial
set_option maxRecDepth 100000 in
set_option maxHeartbeats 1000000 in
theorem dgs_C6 {z : GZ} {w : GW} {sg : Sg} (C : Cx z w cX5_digest 3 RX5 4) (E : Ends z w (some .long) (some (.long (dgE (toT sg) (sg 45)))) (us (us sg 50 (gwI (sg 45) 5 9)) 51 (emb 0 (twI (gw (sg 45) 5 9) (reN (sg 45)) 3) (sg 51))) (dgE (toT sg) (sg 45))) (hok : ROk (sg 45)) : G z w 3 (us sg 50 (fun d => whX ((sg 45) (6 + d)) (dN (sg 45) d + 1))) (mxs (dgB (toT sg) (sg 45)) (drT (sg 45)) 18) 56 [(1, .int (nI 6)), (0, .ref (ad w 44))] [] := by
  refine g_iload_n C 0 rfl rfl dX5_digest_56 ?_
  refine g_bipush C (v := (nI 6)) (by decide) dX5_digest_57 ?_
  refine g_icmpN_ge C 6 6 (by omega) (by omega) (tgt := 92) (by decide) dX5_digest_59 (fun h59 => ?_) (fun h59 => absurd h59 (by decide))
  refine g_tuE (tu' := (mxs (dgC (toT sg) (sg 45)) (fun k => sg 45 (12 + k)) 0)) ((dgC_e _ _).trans (mxs_0 _ _)) ?_
  refine g_iconst C (v := (nI 0)) (by decide) dX5_digest_92 ?_
  refine g_istore_n C (L' := [(1, .int (nI 0)), (0, .ref (ad w 44))]) rfl (by decide) rfl dX5_digest_93 ?_
  exact dgs_94 C E hok
set_option maxRecDepth 100000 in
set_option maxHeartbeats 1000000 in
theorem dgs_C5 {z : GZ} {w : GW} {sg : Sg} (C : Cx z w cX5_digest 3 RX5 4) (E : Ends z w (some .long) (some (.long (dgE (toT sg) (sg 45)))) (us (us sg 50 (gwI (sg 45) 5 9)) 51 (emb 0 (twI (gw (sg 45) 5 9) (reN (sg 45)) 3) (sg 51))) (dgE (toT sg) (sg 45))) (hok : ROk (sg 45)) : G z w 3 (us sg 50 (fun d => whX ((sg 45) (6 + d)) (dN (sg 45) d + 1))) (mxs (dgB (toT sg) (sg 45)) (drT (sg 45)) 15) 56 [(1, .int (nI 5)), (0, .ref (ad w 44))] [] := by
  refine g_iload_n C 0 rfl rfl dX5_digest_56 ?_
  refine g_bipush C (v := (nI 6)) (by decide) dX5_digest_57 ?_
  refine g_icmpN_ge C 5 6 (by omega) (by omega) (tgt := 92) (by decide) dX5_digest_59 (fun h59 => absurd h59 (by decide)) (fun h59 => ?_)
  refine g_iconst C (v := (nI 0)) (by decide) dX5_digest_62 ?_
  refine g_istore_n C (L' := [(2, .int (nI 0)), (1, .int (nI 5)), (0, .ref (ad w 44))]) rfl (by decide) rfl dX5_digest_63 ?_
  refine g_iload_n C 0 rfl rfl dX5_digest_64 ?_
  refine g_iconst C (v := (nI 3)) (by decide) dX5_digest_65 ?_
  refine g_icmpN_ge C 0 3 (by omega) (by omega) (tgt := 86) (by decide) dX5_digest_66 (fun h66 => absurd h66 (by decide)) (fun h66 => ?_)
  refine g_aload_n C 2 rfl rfl dX5_digest_69 ?_
  refine g_aload_n C 2 rfl rfl dX5_digest_70 ?_
  refine g_iload_n C 1 rfl rfl dX5_digest_71 ?_
  refine g_iload_n C 0 rfl rfl dX5_digest_72 ?_
  refine g_callV1 [.ref (ad w 44)] C (c_X5_drumTold_0 w (mxs (dgB (toT sg) (sg 45)) (drT (sg 45)) 15) (us sg 50 (fun d => whX ((sg 45) (6 + d)) (dN (sg 45) d + 1))) 5 (by decide) hok) mt_X5_drumTold e_44 rfl ml_X5_153 im_X5_drumTold se_X5_drumTold (by decide) rfl (Nat.le_of_ble_eq_true rfl) dX5_digest_73 ?_
  refine g_eq (L' := [(2, .int (nI 0)), (1, .int (nI 5)), (0, .ref (ad w 44))]) (S' := [.int (sg 45 5), .ref (ad w 44)]) rfl rfl rfl rfl ?_
  refine g_i2l C dX5_digest_76 ?_
  refine g_callV0 [] C (c_X5_mix w (mxs (dgB (toT sg) (sg 45)) (drT (sg 45)) 15) (us sg 50 (fun d => whX ((sg 45) (6 + d)) (dN (sg 45) d + 1))) (Int32.toInt64 (sg 45 5)) ) mt_X5_mix e_44 rfl ml_X5_229 im_X5_mix se_X5_mix (by decide) rfl (Nat.le_of_ble_eq_true rfl) dX5_digest_77 ?_
  refine g_eq (sg' := (us sg 50 (fun d => whX ((sg 45) (6 + d)) (dN (sg 45) d + 1)))) (L' := [(2, .int (nI 0)), (1, .int (nI 5)), (0, .ref (ad w 44))]) (S' := []) rfl rfl rfl rfl ?_
  refine g_tuE (tu' := (mxs (dgB (toT sg) (sg 45)) (drT (sg 45)) 16)) (mxs_s rfl rfl) ?_
  refine g_iinc C (n := 1) (v := (nI 1)) (L' := [(2, .int (nI 1)), (1, .int (nI 5)), (0, .ref (ad w 44))]) 0 rfl (nI_add 0 1) (by decide) rfl dX5_digest_80 ?_
  refine g_goto C (tgt := 64) (by decide) dX5_digest_83 ?_
  refine g_iload_n C 0 rfl rfl dX5_digest_64 ?_
  refine g_iconst C (v := (nI 3)) (by decide) dX5_digest_65 ?_
  refine g_icmpN_ge C 1 3 (by omega) (by omega) (tgt := 86) (by decide) dX5_digest_66 (fun h66 => absurd h66 (by decide)) (fun h66 => ?_)
  refine g_aload_n C 2 rfl rfl dX5_digest_69 ?_
  refine g_aload_n C 2 rfl rfl dX5_digest_70 ?_
  refine g_iload_n C 1 rfl rfl dX5_digest_71 ?_
  refine g_iload_n C 0 rfl rfl dX5_digest_72 ?_
  refine g_callV1 [.ref (ad w 44)] C (c_X5_drumTold_1 w (mxs (dgB (toT sg) (sg 45)) (drT (sg 45)) 16) (us sg 50 (fun d => whX ((sg 45) (6 + d)) (dN (sg 45) d + 1))) 5 (by decide) hok) mt_X5_drumTold e_44 rfl ml_X5_153 im_X5_drumTold se_X5_drumTold (by decide) rfl (Nat.le_of_ble_eq_true rfl) dX5_digest_73 ?_
  refine g_eq (L' := [(2, .int (nI 1)), (1, .int (nI 5)), (0, .ref (ad w 44))]) (S' := [.int (whX (sg 45 (6 + 5)) (dN (sg 45) 5 + 1)), .ref (ad w 44)]) rfl rfl rfl rfl ?_
  refine g_i2l C dX5_digest_76 ?_
  refine g_callV0 [] C (c_X5_mix w (mxs (dgB (toT sg) (sg 45)) (drT (sg 45)) 16) (us sg 50 (fun d => whX ((sg 45) (6 + d)) (dN (sg 45) d + 1))) (Int32.toInt64 (whX (sg 45 (6 + 5)) (dN (sg 45) 5 + 1))) ) mt_X5_mix e_44 rfl ml_X5_229 im_X5_mix se_X5_mix (by decide) rfl (Nat.le_of_ble_eq_true rfl) dX5_digest_77 ?_
  refine g_eq (sg' := (us sg 50 (fun d => whX ((sg 45) (6 + d)) (dN (sg 45) d + 1)))) (L' := [(2, .int (nI 1)), (1, .int (nI 5)), (0, .ref (ad w 44))]) (S' := []) rfl rfl rfl rfl ?_
  refine g_tuE (tu' := (mxs (dgB (toT sg) (sg 45)) (drT (sg 45)) 17)) (mxs_s rfl rfl) ?_
  refine g_iinc C (n := 1) (v := (nI 2)) (L' := [(2, .int (nI 2)), (1, .int (nI 5)), (0, .ref (ad w 44))]) 0 rfl (nI_add 1 1) (by decide) rfl dX5_digest_80 ?_
  refine g_goto C (tgt := 64) (by decide) dX5_digest_83 ?_
  refine g_iload_n C 0 rfl rfl dX5_digest_64 ?_
  refine g_iconst C (v := (nI 3)) (by decide) dX5_digest_65 ?_
  refine g_icmpN_ge C 2 3 (by omega) (by omega) (tgt := 86) (by decide) dX5_digest_66 (fun h66 => absurd h66 (by decide)) (fun h66 => ?_)
  refine g_aload_n C 2 rfl rfl dX5_digest_69 ?_
  refine g_aload_n C 2 rfl rfl dX5_digest_70 ?_
  refine g_iload_n C 1 rfl rfl dX5_digest_71 ?_
  refine g_iload_n C 0 rfl rfl dX5_digest_72 ?_
  refine g_callV1 [.ref (ad w 44)] C (c_X5_drumTold_2 w (mxs (dgB (toT sg) (sg 45)) (drT (sg 45)) 17) (us sg 50 (fun d => whX ((sg 45) (6 + d)) (dN (sg 45) d + 1))) 5 (by decide) hok) mt_X5_drumTold e_44 rfl ml_X5_153 im_X5_drumTold se_X5_drumTold (by decide) rfl (Nat.le_of_ble_eq_true rfl) dX5_digest_73 ?_
  refine g_eq (L' := [(2, .int (nI 2)), (1, .int (nI 5)), (0, .ref (ad w 44))]) (S' := [.int (sg 45 (6 + 5)), .ref (ad w 44)]) rfl rfl rfl rfl ?_
  refine g_i2l C dX5_digest_76 ?_
  refine g_callV0 [] C (c_X5_mix w (mxs (dgB (toT sg) (sg 45)) (drT (sg 45)) 17) (us sg 50 (fun d => whX ((sg 45) (6 + d)) (dN (sg 45) d + 1))) (Int32.toInt64 (sg 45 (6 + 5))) ) mt_X5_mix e_44 rfl ml_X5_229 im_X5_mix se_X5_mix (by decide) rfl (Nat.le_of_ble_eq_true rfl) dX5_digest_77 ?_
  refine g_eq (sg' := (us sg 50 (fun d => whX ((sg 45) (6 + d)) (dN (sg 45) d + 1)))) (L' := [(2, .int (nI 2)), (1, .int (nI 5)), (0, .ref (ad w 44))]) (S' := []) rfl rfl rfl rfl ?_
  refine g_tuE (tu' := (mxs (dgB (toT sg) (sg 45)) (drT (sg 45)) 18)) (mxs_s rfl rfl) ?_
  refine g_iinc C (n := 1) (v := (nI 3)) (L' := [(2, .int (nI 3)), (1, .int (nI 5)), (0, .ref (ad w 44))]) 0 rfl (nI_add 2 1) (by decide) rfl dX5_digest_80 ?_
  refine g_goto C (tgt := 64) (by decide) dX5_digest_83 ?_
  refine g_iload_n C 0 rfl rfl dX5_digest_64 ?_
  refine g_iconst C (v := (nI 3)) (by decide) dX5_digest_65 ?_
  refine g_icmpN_ge C 3 3 (by omega) (by omega) (tgt := 86) (by decide) dX5_digest_66 (fun h66 => ?_) (fun h66 => absurd h66 (by decide))
  refine g_iinc C (n := 1) (v := (nI 6)) (L' := [(1, .int (nI 6)), (2, .int (nI 3)), (0, .ref (ad w 44))]) 1 rfl (nI_add 5 1) (by decide) rfl dX5_digest_86 ?_
  refine g_goto C (tgt := 56) (by decide) dX5_digest_89 ?_
  refine g_sub (L' := [(1, .int (nI 6)), (0, .ref (ad w 44))]) [0, 2] rfl ?_
  exact dgs_C6 C E hok
set_option maxRecDepth 100000 in
set_option maxHeartbeats 1000000 in
theorem dgs_C4 {z : GZ} {w : GW} {sg : Sg} (C : Cx z w cX5_digest 3 RX5 4) (E : Ends z w (some .long) (some (.long (dgE (toT sg) (sg 45)))) (us (us sg 50 (gwI (sg 45) 5 9)) 51 (emb 0 (twI (gw (sg 45) 5 9) (reN (sg 45)) 3) (sg 51))) (dgE (toT sg) (sg 45))) (hok : ROk (sg 45)) : G z w 3 (us sg 50 (fun d => whX ((sg 45) (6 + d)) (dN (sg 45) d + 1))) (mxs (dgB (toT sg) (sg 45)) (drT (sg 45)) 12) 56 [(1, .int (nI 4)), (0, .ref (ad w 44))] [] := by
  refine g_iload_n C 0 rfl rfl dX5_digest_56 ?_
  refine g_bipush C (v := (nI 6)) (by decide) dX5_digest_57 ?_
  refine g_icmpN_ge C 4 6 (by omega) (by omega) (tgt := 92) (by decide) dX5_digest_59 (fun h59 => absurd h59 (by decide)) (fun h59 => ?_)
  refine g_iconst C (v := (nI 0)) (by decide) dX5_digest_62 ?_
  refine g_istore_n C (L' := [(2, .int (nI 0)), (1, .int (nI 4)), (0, .ref (ad w 44))]) rfl (by decide) rfl dX5_digest_63 ?_
  refine g_iload_n C 0 rfl rfl dX5_digest_64 ?_
  refine g_iconst C (v := (nI 3)) (by decide) dX5_digest_65 ?_
  refine g_icmpN_ge C 0 3 (by omega) (by omega) (tgt := 86) (by decide) dX5_digest_66 (fun h66 => absurd h66 (by decide)) (fun h66 => ?_)
  refine g_aload_n C 2 rfl rfl dX5_digest_69 ?_
  refine g_aload_n C 2 rfl rfl dX5_digest_70 ?_
  refine g_iload_n C 1 rfl rfl dX5_digest_71 ?_
  refine g_iload_n C 0 rfl rfl dX5_digest_72 ?_
  refine g_callV1 [.ref (ad w 44)] C (c_X5_drumTold_0 w (mxs (dgB (toT sg) (sg 45)) (drT (sg 45)) 12) (us sg 50 (fun d => whX ((sg 45) (6 + d)) (dN (sg 45) d + 1))) 4 (by decide) hok) mt_X5_drumTold e_44 rfl ml_X5_153 im_X5_drumTold se_X5_drumTold (by decide) rfl (Nat.le_of_ble_eq_true rfl) dX5_digest_73 ?_
  refine g_eq (L' := [(2, .int (nI 0)), (1, .int (nI 4)), (0, .ref (ad w 44))]) (S' := [.int (sg 45 4), .ref (ad w 44)]) rfl rfl rfl rfl ?_
  refine g_i2l C dX5_digest_76 ?_
  refine g_callV0 [] C (c_X5_mix w (mxs (dgB (toT sg) (sg 45)) (drT (sg 45)) 12) (us sg 50 (fun d => whX ((sg 45) (6 + d)) (dN (sg 45) d + 1))) (Int32.toInt64 (sg 45 4)) ) mt_X5_mix e_44 rfl ml_X5_229 im_X5_mix se_X5_mix (by decide) rfl (Nat.le_of_ble_eq_true rfl) dX5_digest_77 ?_
  refine g_eq (sg' := (us sg 50 (fun d => whX ((sg 45) (6 + d)) (dN (sg 45) d + 1)))) (L' := [(2, .int (nI 0)), (1, .int (nI 4)), (0, .ref (ad w 44))]) (S' := []) rfl rfl rfl rfl ?_
  refine g_tuE (tu' := (mxs (dgB (toT sg) (sg 45)) (drT (sg 45)) 13)) (mxs_s rfl rfl) ?_
  refine g_iinc C (n := 1) (v := (nI 1)) (L' := [(2, .int (nI 1)), (1, .int (nI 4)), (0, .ref (ad w 44))]) 0 rfl (nI_add 0 1) (by decide) rfl dX5_digest_80 ?_
  refine g_goto C (tgt := 64) (by decide) dX5_digest_83 ?_
  refine g_iload_n C 0 rfl rfl dX5_digest_64 ?_
  refine g_iconst C (v := (nI 3)) (by decide) dX5_digest_65 ?_
  refine g_icmpN_ge C 1 3 (by omega) (by omega) (tgt := 86) (by decide) dX5_digest_66 (fun h66 => absurd h66 (by decide)) (fun h66 => ?_)
  refine g_aload_n C 2 rfl rfl dX5_digest_69 ?_
  refine g_aload_n C 2 rfl rfl dX5_digest_70 ?_
  refine g_iload_n C 1 rfl rfl dX5_digest_71 ?_
  refine g_iload_n C 0 rfl rfl dX5_digest_72 ?_
  refine g_callV1 [.ref (ad w 44)] C (c_X5_drumTold_1 w (mxs (dgB (toT sg) (sg 45)) (drT (sg 45)) 13) (us sg 50 (fun d => whX ((sg 45) (6 + d)) (dN (sg 45) d + 1))) 4 (by decide) hok) mt_X5_drumTold e_44 rfl ml_X5_153 im_X5_drumTold se_X5_drumTold (by decide) rfl (Nat.le_of_ble_eq_true rfl) dX5_digest_73 ?_
  refine g_eq (L' := [(2, .int (nI 1)), (1, .int (nI 4)), (0, .ref (ad w 44))]) (S' := [.int (whX (sg 45 (6 + 4)) (dN (sg 45) 4 + 1)), .ref (ad w 44)]) rfl rfl rfl rfl ?_
  refine g_i2l C dX5_digest_76 ?_
  refine g_callV0 [] C (c_X5_mix w (mxs (dgB (toT sg) (sg 45)) (drT (sg 45)) 13) (us sg 50 (fun d => whX ((sg 45) (6 + d)) (dN (sg 45) d + 1))) (Int32.toInt64 (whX (sg 45 (6 + 4)) (dN (sg 45) 4 + 1))) ) mt_X5_mix e_44 rfl ml_X5_229 im_X5_mix se_X5_mix (by decide) rfl (Nat.le_of_ble_eq_true rfl) dX5_digest_77 ?_
  refine g_eq (sg' := (us sg 50 (fun d => whX ((sg 45) (6 + d)) (dN (sg 45) d + 1)))) (L' := [(2, .int (nI 1)), (1, .int (nI 4)), (0, .ref (ad w 44))]) (S' := []) rfl rfl rfl rfl ?_
  refine g_tuE (tu' := (mxs (dgB (toT sg) (sg 45)) (drT (sg 45)) 14)) (mxs_s rfl rfl) ?_
  refine g_iinc C (n := 1) (v := (nI 2)) (L' := [(2, .int (nI 2)), (1, .int (nI 4)), (0, .ref (ad w 44))]) 0 rfl (nI_add 1 1) (by decide) rfl dX5_digest_80 ?_
  refine g_goto C (tgt := 64) (by decide) dX5_digest_83 ?_
  refine g_iload_n C 0 rfl rfl dX5_digest_64 ?_
  refine g_iconst C (v := (nI 3)) (by decide) dX5_digest_65 ?_
  refine g_icmpN_ge C 2 3 (by omega) (by omega) (tgt := 86) (by decide) dX5_digest_66 (fun h66 => absurd h66 (by decide)) (fun h66 => ?_)
  refine g_aload_n C 2 rfl rfl dX5_digest_69 ?_
  refine g_aload_n C 2 rfl rfl dX5_digest_70 ?_
  refine g_iload_n C 1 rfl rfl dX5_digest_71 ?_
  refine g_iload_n C 0 rfl rfl dX5_digest_72 ?_
  refine g_callV1 [.ref (ad w 44)] C (c_X5_drumTold_2 w (mxs (dgB (toT sg) (sg 45)) (drT (sg 45)) 14) (us sg 50 (fun d => whX ((sg 45) (6 + d)) (dN (sg 45) d + 1))) 4 (by decide) hok) mt_X5_drumTold e_44 rfl ml_X5_153 im_X5_drumTold se_X5_drumTold (by decide) rfl (Nat.le_of_ble_eq_true rfl) dX5_digest_73 ?_
  refine g_eq (L' := [(2, .int (nI 2)), (1, .int (nI 4)), (0, .ref (ad w 44))]) (S' := [.int (sg 45 (6 + 4)), .ref (ad w 44)]) rfl rfl rfl rfl ?_
  refine g_i2l C dX5_digest_76 ?_
  refine g_callV0 [] C (c_X5_mix w (mxs (dgB (toT sg) (sg 45)) (drT (sg 45)) 14) (us sg 50 (fun d => whX ((sg 45) (6 + d)) (dN (sg 45) d + 1))) (Int32.toInt64 (sg 45 (6 + 4))) ) mt_X5_mix e_44 rfl ml_X5_229 im_X5_mix se_X5_mix (by decide) rfl (Nat.le_of_ble_eq_true rfl) dX5_digest_77 ?_
  refine g_eq (sg' := (us sg 50 (fun d => whX ((sg 45) (6 + d)) (dN (sg 45) d + 1)))) (L' := [(2, .int (nI 2)), (1, .int (nI 4)), (0, .ref (ad w 44))]) (S' := []) rfl rfl rfl rfl ?_
  refine g_tuE (tu' := (mxs (dgB (toT sg) (sg 45)) (drT (sg 45)) 15)) (mxs_s rfl rfl) ?_
  refine g_iinc C (n := 1) (v := (nI 3)) (L' := [(2, .int (nI 3)), (1, .int (nI 4)), (0, .ref (ad w 44))]) 0 rfl (nI_add 2 1) (by decide) rfl dX5_digest_80 ?_
  refine g_goto C (tgt := 64) (by decide) dX5_digest_83 ?_
  refine g_iload_n C 0 rfl rfl dX5_digest_64 ?_
  refine g_iconst C (v := (nI 3)) (by decide) dX5_digest_65 ?_
  refine g_icmpN_ge C 3 3 (by omega) (by omega) (tgt := 86) (by decide) dX5_digest_66 (fun h66 => ?_) (fun h66 => absurd h66 (by decide))
  refine g_iinc C (n := 1) (v := (nI 5)) (L' := [(1, .int (nI 5)), (2, .int (nI 3)), (0, .ref (ad w 44))]) 1 rfl (nI_add 4 1) (by decide) rfl dX5_digest_86 ?_
  refine g_goto C (tgt := 56) (by decide) dX5_digest_89 ?_
  refine g_sub (L' := [(1, .int (nI 5)), (0, .ref (ad w 44))]) [0, 2] rfl ?_
  exact dgs_C5 C E hok
set_option maxRecDepth 100000 in
set_option maxHeartbeats 1000000 in
theorem dgs_C3 {z : GZ} {w : GW} {sg : Sg} (C : Cx z w cX5_digest 3 RX5 4) (E : Ends z w (some .long) (some (.long (dgE (toT sg) (sg 45)))) (us (us sg 50 (gwI (sg 45) 5 9)) 51 (emb 0 (twI (gw (sg 45) 5 9) (reN (sg 45)) 3) (sg 51))) (dgE (toT sg) (sg 45))) (hok : ROk (sg 45)) : G z w 3 (us sg 50 (fun d => whX ((sg 45) (6 + d)) (dN (sg 45) d + 1))) (mxs (dgB (toT sg) (sg 45)) (drT (sg 45)) 9) 56 [(1, .int (nI 3)), (0, .ref (ad w 44))] [] := by
  refine g_iload_n C 0 rfl rfl dX5_digest_56 ?_
  refine g_bipush C (v := (nI 6)) (by decide) dX5_digest_57 ?_
  refine g_icmpN_ge C 3 6 (by omega) (by omega) (tgt := 92) (by decide) dX5_digest_59 (fun h59 => absurd h59 (by decide)) (fun h59 => ?_)
  refine g_iconst C (v := (nI 0)) (by decide) dX5_digest_62 ?_
  refine g_istore_n C (L' := [(2, .int (nI 0)), (1, .int (nI 3)), (0, .ref (ad w 44))]) rfl (by decide) rfl dX5_digest_63 ?_
  refine g_iload_n C 0 rfl rfl dX5_digest_64 ?_
  refine g_iconst C (v := (nI 3)) (by decide) dX5_digest_65 ?_
  refine g_icmpN_ge C 0 3 (by omega) (by omega) (tgt := 86) (by decide) dX5_digest_66 (fun h66 => absurd h66 (by decide)) (fun h66 => ?_)
  refine g_aload_n C 2 rfl rfl dX5_digest_69 ?_
  refine g_aload_n C 2 rfl rfl dX5_digest_70 ?_
  refine g_iload_n C 1 rfl rfl dX5_digest_71 ?_
  refine g_iload_n C 0 rfl rfl dX5_digest_72 ?_
  refine g_callV1 [.ref (ad w 44)] C (c_X5_drumTold_0 w (mxs (dgB (toT sg) (sg 45)) (drT (sg 45)) 9) (us sg 50 (fun d => whX ((sg 45) (6 + d)) (dN (sg 45) d + 1))) 3 (by decide) hok) mt_X5_drumTold e_44 rfl ml_X5_153 im_X5_drumTold se_X5_drumTold (by decide) rfl (Nat.le_of_ble_eq_true rfl) dX5_digest_73 ?_
  refine g_eq (L' := [(2, .int (nI 0)), (1, .int (nI 3)), (0, .ref (ad w 44))]) (S' := [.int (sg 45 3), .ref (ad w 44)]) rfl rfl rfl rfl ?_
  refine g_i2l C dX5_digest_76 ?_
  refine g_callV0 [] C (c_X5_mix w (mxs (dgB (toT sg) (sg 45)) (drT (sg 45)) 9) (us sg 50 (fun d => whX ((sg 45) (6 + d)) (dN (sg 45) d + 1))) (Int32.toInt64 (sg 45 3)) ) mt_X5_mix e_44 rfl ml_X5_229 im_X5_mix se_X5_mix (by decide) rfl (Nat.le_of_ble_eq_true rfl) dX5_digest_77 ?_
  refine g_eq (sg' := (us sg 50 (fun d => whX ((sg 45) (6 + d)) (dN (sg 45) d + 1)))) (L' := [(2, .int (nI 0)), (1, .int (nI 3)), (0, .ref (ad w 44))]) (S' := []) rfl rfl rfl rfl ?_
  refine g_tuE (tu' := (mxs (dgB (toT sg) (sg 45)) (drT (sg 45)) 10)) (mxs_s rfl rfl) ?_
  refine g_iinc C (n := 1) (v := (nI 1)) (L' := [(2, .int (nI 1)), (1, .int (nI 3)), (0, .ref (ad w 44))]) 0 rfl (nI_add 0 1) (by decide) rfl dX5_digest_80 ?_
  refine g_goto C (tgt := 64) (by decide) dX5_digest_83 ?_
  refine g_iload_n C 0 rfl rfl dX5_digest_64 ?_
  refine g_iconst C (v := (nI 3)) (by decide) dX5_digest_65 ?_
  refine g_icmpN_ge C 1 3 (by omega) (by omega) (tgt := 86) (by decide) dX5_digest_66 (fun h66 => absurd h66 (by decide)) (fun h66 => ?_)
  refine g_aload_n C 2 rfl rfl dX5_digest_69 ?_
  refine g_aload_n C 2 rfl rfl dX5_digest_70 ?_
  refine g_iload_n C 1 rfl rfl dX5_digest_71 ?_
  refine g_iload_n C 0 rfl rfl dX5_digest_72 ?_
  refine g_callV1 [.ref (ad w 44)] C (c_X5_drumTold_1 w (mxs (dgB (toT sg) (sg 45)) (drT (sg 45)) 10) (us sg 50 (fun d => whX ((sg 45) (6 + d)) (dN (sg 45) d + 1))) 3 (by decide) hok) mt_X5_drumTold e_44 rfl ml_X5_153 im_X5_drumTold se_X5_drumTold (by decide) rfl (Nat.le_of_ble_eq_true rfl) dX5_digest_73 ?_
  refine g_eq (L' := [(2, .int (nI 1)), (1, .int (nI 3)), (0, .ref (ad w 44))]) (S' := [.int (whX (sg 45 (6 + 3)) (dN (sg 45) 3 + 1)), .ref (ad w 44)]) rfl rfl rfl rfl ?_
  refine g_i2l C dX5_digest_76 ?_
  refine g_callV0 [] C (c_X5_mix w (mxs (dgB (toT sg) (sg 45)) (drT (sg 45)) 10) (us sg 50 (fun d => whX ((sg 45) (6 + d)) (dN (sg 45) d + 1))) (Int32.toInt64 (whX (sg 45 (6 + 3)) (dN (sg 45) 3 + 1))) ) mt_X5_mix e_44 rfl ml_X5_229 im_X5_mix se_X5_mix (by decide) rfl (Nat.le_of_ble_eq_true rfl) dX5_digest_77 ?_
  refine g_eq (sg' := (us sg 50 (fun d => whX ((sg 45) (6 + d)) (dN (sg 45) d + 1)))) (L' := [(2, .int (nI 1)), (1, .int (nI 3)), (0, .ref (ad w 44))]) (S' := []) rfl rfl rfl rfl ?_
  refine g_tuE (tu' := (mxs (dgB (toT sg) (sg 45)) (drT (sg 45)) 11)) (mxs_s rfl rfl) ?_
  refine g_iinc C (n := 1) (v := (nI 2)) (L' := [(2, .int (nI 2)), (1, .int (nI 3)), (0, .ref (ad w 44))]) 0 rfl (nI_add 1 1) (by decide) rfl dX5_digest_80 ?_
  refine g_goto C (tgt := 64) (by decide) dX5_digest_83 ?_
  refine g_iload_n C 0 rfl rfl dX5_digest_64 ?_
  refine g_iconst C (v := (nI 3)) (by decide) dX5_digest_65 ?_
  refine g_icmpN_ge C 2 3 (by omega) (by omega) (tgt := 86) (by decide) dX5_digest_66 (fun h66 => absurd h66 (by decide)) (fun h66 => ?_)
  refine g_aload_n C 2 rfl rfl dX5_digest_69 ?_
  refine g_aload_n C 2 rfl rfl dX5_digest_70 ?_
  refine g_iload_n C 1 rfl rfl dX5_digest_71 ?_
  refine g_iload_n C 0 rfl rfl dX5_digest_72 ?_
  refine g_callV1 [.ref (ad w 44)] C (c_X5_drumTold_2 w (mxs (dgB (toT sg) (sg 45)) (drT (sg 45)) 11) (us sg 50 (fun d => whX ((sg 45) (6 + d)) (dN (sg 45) d + 1))) 3 (by decide) hok) mt_X5_drumTold e_44 rfl ml_X5_153 im_X5_drumTold se_X5_drumTold (by decide) rfl (Nat.le_of_ble_eq_true rfl) dX5_digest_73 ?_
  refine g_eq (L' := [(2, .int (nI 2)), (1, .int (nI 3)), (0, .ref (ad w 44))]) (S' := [.int (sg 45 (6 + 3)), .ref (ad w 44)]) rfl rfl rfl rfl ?_
  refine g_i2l C dX5_digest_76 ?_
  refine g_callV0 [] C (c_X5_mix w (mxs (dgB (toT sg) (sg 45)) (drT (sg 45)) 11) (us sg 50 (fun d => whX ((sg 45) (6 + d)) (dN (sg 45) d + 1))) (Int32.toInt64 (sg 45 (6 + 3))) ) mt_X5_mix e_44 rfl ml_X5_229 im_X5_mix se_X5_mix (by decide) rfl (Nat.le_of_ble_eq_true rfl) dX5_digest_77 ?_
  refine g_eq (sg' := (us sg 50 (fun d => whX ((sg 45) (6 + d)) (dN (sg 45) d + 1)))) (L' := [(2, .int (nI 2)), (1, .int (nI 3)), (0, .ref (ad w 44))]) (S' := []) rfl rfl rfl rfl ?_
  refine g_tuE (tu' := (mxs (dgB (toT sg) (sg 45)) (drT (sg 45)) 12)) (mxs_s rfl rfl) ?_
  refine g_iinc C (n := 1) (v := (nI 3)) (L' := [(2, .int (nI 3)), (1, .int (nI 3)), (0, .ref (ad w 44))]) 0 rfl (nI_add 2 1) (by decide) rfl dX5_digest_80 ?_
  refine g_goto C (tgt := 64) (by decide) dX5_digest_83 ?_
  refine g_iload_n C 0 rfl rfl dX5_digest_64 ?_
  refine g_iconst C (v := (nI 3)) (by decide) dX5_digest_65 ?_
  refine g_icmpN_ge C 3 3 (by omega) (by omega) (tgt := 86) (by decide) dX5_digest_66 (fun h66 => ?_) (fun h66 => absurd h66 (by decide))
  refine g_iinc C (n := 1) (v := (nI 4)) (L' := [(1, .int (nI 4)), (2, .int (nI 3)), (0, .ref (ad w 44))]) 1 rfl (nI_add 3 1) (by decide) rfl dX5_digest_86 ?_
  refine g_goto C (tgt := 56) (by decide) dX5_digest_89 ?_
  refine g_sub (L' := [(1, .int (nI 4)), (0, .ref (ad w 44))]) [0, 2] rfl ?_
  exact dgs_C4 C E hok
set_option maxRecDepth 100000 in
set_option maxHeartbeats 1000000 in
theorem dgs_C2 {z : GZ} {w : GW} {sg : Sg} (C : Cx z w cX5_digest 3 RX5 4) (E : Ends z w (some .long) (some (.long (dgE (toT sg) (sg 45)))) (us (us sg 50 (gwI (sg 45) 5 9)) 51 (emb 0 (twI (gw (sg 45) 5 9) (reN (sg 45)) 3) (sg 51))) (dgE (toT sg) (sg 45))) (hok : ROk (sg 45)) : G z w 3 (us sg 50 (fun d => whX ((sg 45) (6 + d)) (dN (sg 45) d + 1))) (mxs (dgB (toT sg) (sg 45)) (drT (sg 45)) 6) 56 [(1, .int (nI 2)), (0, .ref (ad w 44))] [] := by
  refine g_iload_n C 0 rfl rfl dX5_digest_56 ?_
  refine g_bipush C (v := (nI 6)) (by decide) dX5_digest_57 ?_
  refine g_icmpN_ge C 2 6 (by omega) (by omega) (tgt := 92) (by decide) dX5_digest_59 (fun h59 => absurd h59 (by decide)) (fun h59 => ?_)
  refine g_iconst C (v := (nI 0)) (by decide) dX5_digest_62 ?_
  refine g_istore_n C (L' := [(2, .int (nI 0)), (1, .int (nI 2)), (0, .ref (ad w 44))]) rfl (by decide) rfl dX5_digest_63 ?_
  refine g_iload_n C 0 rfl rfl dX5_digest_64 ?_
  refine g_iconst C (v := (nI 3)) (by decide) dX5_digest_65 ?_
  refine g_icmpN_ge C 0 3 (by omega) (by omega) (tgt := 86) (by decide) dX5_digest_66 (fun h66 => absurd h66 (by decide)) (fun h66 => ?_)
  refine g_aload_n C 2 rfl rfl dX5_digest_69 ?_
  refine g_aload_n C 2 rfl rfl dX5_digest_70 ?_
  refine g_iload_n C 1 rfl rfl dX5_digest_71 ?_
  refine g_iload_n C 0 rfl rfl dX5_digest_72 ?_
  refine g_callV1 [.ref (ad w 44)] C (c_X5_drumTold_0 w (mxs (dgB (toT sg) (sg 45)) (drT (sg 45)) 6) (us sg 50 (fun d => whX ((sg 45) (6 + d)) (dN (sg 45) d + 1))) 2 (by decide) hok) mt_X5_drumTold e_44 rfl ml_X5_153 im_X5_drumTold se_X5_drumTold (by decide) rfl (Nat.le_of_ble_eq_true rfl) dX5_digest_73 ?_
  refine g_eq (L' := [(2, .int (nI 0)), (1, .int (nI 2)), (0, .ref (ad w 44))]) (S' := [.int (sg 45 2), .ref (ad w 44)]) rfl rfl rfl rfl ?_
  refine g_i2l C dX5_digest_76 ?_
  refine g_callV0 [] C (c_X5_mix w (mxs (dgB (toT sg) (sg 45)) (drT (sg 45)) 6) (us sg 50 (fun d => whX ((sg 45) (6 + d)) (dN (sg 45) d + 1))) (Int32.toInt64 (sg 45 2)) ) mt_X5_mix e_44 rfl ml_X5_229 im_X5_mix se_X5_mix (by decide) rfl (Nat.le_of_ble_eq_true rfl) dX5_digest_77 ?_
  refine g_eq (sg' := (us sg 50 (fun d => whX ((sg 45) (6 + d)) (dN (sg 45) d + 1)))) (L' := [(2, .int (nI 0)), (1, .int (nI 2)), (0, .ref (ad w 44))]) (S' := []) rfl rfl rfl rfl ?_
  refine g_tuE (tu' := (mxs (dgB (toT sg) (sg 45)) (drT (sg 45)) 7)) (mxs_s rfl rfl) ?_
  refine g_iinc C (n := 1) (v := (nI 1)) (L' := [(2, .int (nI 1)), (1, .int (nI 2)), (0, .ref (ad w 44))]) 0 rfl (nI_add 0 1) (by decide) rfl dX5_digest_80 ?_
  refine g_goto C (tgt := 64) (by decide) dX5_digest_83 ?_
  refine g_iload_n C 0 rfl rfl dX5_digest_64 ?_
  refine g_iconst C (v := (nI 3)) (by decide) dX5_digest_65 ?_
  refine g_icmpN_ge C 1 3 (by omega) (by omega) (tgt := 86) (by decide) dX5_digest_66 (fun h66 => absurd h66 (by decide)) (fun h66 => ?_)
  refine g_aload_n C 2 rfl rfl dX5_digest_69 ?_
  refine g_aload_n C 2 rfl rfl dX5_digest_70 ?_
  refine g_iload_n C 1 rfl rfl dX5_digest_71 ?_
  refine g_iload_n C 0 rfl rfl dX5_digest_72 ?_
  refine g_callV1 [.ref (ad w 44)] C (c_X5_drumTold_1 w (mxs (dgB (toT sg) (sg 45)) (drT (sg 45)) 7) (us sg 50 (fun d => whX ((sg 45) (6 + d)) (dN (sg 45) d + 1))) 2 (by decide) hok) mt_X5_drumTold e_44 rfl ml_X5_153 im_X5_drumTold se_X5_drumTold (by decide) rfl (Nat.le_of_ble_eq_true rfl) dX5_digest_73 ?_
  refine g_eq (L' := [(2, .int (nI 1)), (1, .int (nI 2)), (0, .ref (ad w 44))]) (S' := [.int (whX (sg 45 (6 + 2)) (dN (sg 45) 2 + 1)), .ref (ad w 44)]) rfl rfl rfl rfl ?_
  refine g_i2l C dX5_digest_76 ?_
  refine g_callV0 [] C (c_X5_mix w (mxs (dgB (toT sg) (sg 45)) (drT (sg 45)) 7) (us sg 50 (fun d => whX ((sg 45) (6 + d)) (dN (sg 45) d + 1))) (Int32.toInt64 (whX (sg 45 (6 + 2)) (dN (sg 45) 2 + 1))) ) mt_X5_mix e_44 rfl ml_X5_229 im_X5_mix se_X5_mix (by decide) rfl (Nat.le_of_ble_eq_true rfl) dX5_digest_77 ?_
  refine g_eq (sg' := (us sg 50 (fun d => whX ((sg 45) (6 + d)) (dN (sg 45) d + 1)))) (L' := [(2, .int (nI 1)), (1, .int (nI 2)), (0, .ref (ad w 44))]) (S' := []) rfl rfl rfl rfl ?_
  refine g_tuE (tu' := (mxs (dgB (toT sg) (sg 45)) (drT (sg 45)) 8)) (mxs_s rfl rfl) ?_
  refine g_iinc C (n := 1) (v := (nI 2)) (L' := [(2, .int (nI 2)), (1, .int (nI 2)), (0, .ref (ad w 44))]) 0 rfl (nI_add 1 1) (by decide) rfl dX5_digest_80 ?_
  refine g_goto C (tgt := 64) (by decide) dX5_digest_83 ?_
  refine g_iload_n C 0 rfl rfl dX5_digest_64 ?_
  refine g_iconst C (v := (nI 3)) (by decide) dX5_digest_65 ?_
  refine g_icmpN_ge C 2 3 (by omega) (by omega) (tgt := 86) (by decide) dX5_digest_66 (fun h66 => absurd h66 (by decide)) (fun h66 => ?_)
  refine g_aload_n C 2 rfl rfl dX5_digest_69 ?_
  refine g_aload_n C 2 rfl rfl dX5_digest_70 ?_
  refine g_iload_n C 1 rfl rfl dX5_digest_71 ?_
  refine g_iload_n C 0 rfl rfl dX5_digest_72 ?_
  refine g_callV1 [.ref (ad w 44)] C (c_X5_drumTold_2 w (mxs (dgB (toT sg) (sg 45)) (drT (sg 45)) 8) (us sg 50 (fun d => whX ((sg 45) (6 + d)) (dN (sg 45) d + 1))) 2 (by decide) hok) mt_X5_drumTold e_44 rfl ml_X5_153 im_X5_drumTold se_X5_drumTold (by decide) rfl (Nat.le_of_ble_eq_true rfl) dX5_digest_73 ?_
  refine g_eq (L' := [(2, .int (nI 2)), (1, .int (nI 2)), (0, .ref (ad w 44))]) (S' := [.int (sg 45 (6 + 2)), .ref (ad w 44)]) rfl rfl rfl rfl ?_
  refine g_i2l C dX5_digest_76 ?_
  refine g_callV0 [] C (c_X5_mix w (mxs (dgB (toT sg) (sg 45)) (drT (sg 45)) 8) (us sg 50 (fun d => whX ((sg 45) (6 + d)) (dN (sg 45) d + 1))) (Int32.toInt64 (sg 45 (6 + 2))) ) mt_X5_mix e_44 rfl ml_X5_229 im_X5_mix se_X5_mix (by decide) rfl (Nat.le_of_ble_eq_true rfl) dX5_digest_77 ?_
  refine g_eq (sg' := (us sg 50 (fun d => whX ((sg 45) (6 + d)) (dN (sg 45) d + 1)))) (L' := [(2, .int (nI 2)), (1, .int (nI 2)), (0, .ref (ad w 44))]) (S' := []) rfl rfl rfl rfl ?_
  refine g_tuE (tu' := (mxs (dgB (toT sg) (sg 45)) (drT (sg 45)) 9)) (mxs_s rfl rfl) ?_
  refine g_iinc C (n := 1) (v := (nI 3)) (L' := [(2, .int (nI 3)), (1, .int (nI 2)), (0, .ref (ad w 44))]) 0 rfl (nI_add 2 1) (by decide) rfl dX5_digest_80 ?_
  refine g_goto C (tgt := 64) (by decide) dX5_digest_83 ?_
  refine g_iload_n C 0 rfl rfl dX5_digest_64 ?_
  refine g_iconst C (v := (nI 3)) (by decide) dX5_digest_65 ?_
  refine g_icmpN_ge C 3 3 (by omega) (by omega) (tgt := 86) (by decide) dX5_digest_66 (fun h66 => ?_) (fun h66 => absurd h66 (by decide))
  refine g_iinc C (n := 1) (v := (nI 3)) (L' := [(1, .int (nI 3)), (2, .int (nI 3)), (0, .ref (ad w 44))]) 1 rfl (nI_add 2 1) (by decide) rfl dX5_digest_86 ?_
  refine g_goto C (tgt := 56) (by decide) dX5_digest_89 ?_
  refine g_sub (L' := [(1, .int (nI 3)), (0, .ref (ad w 44))]) [0, 2] rfl ?_
  exact dgs_C3 C E hok
set_option maxRecDepth 100000 in
set_option maxHeartbeats 1000000 in
theorem dgs_C1 {z : GZ} {w : GW} {sg : Sg} (C : Cx z w cX5_digest 3 RX5 4) (E : Ends z w (some .long) (some (.long (dgE (toT sg) (sg 45)))) (us (us sg 50 (gwI (sg 45) 5 9)) 51 (emb 0 (twI (gw (sg 45) 5 9) (reN (sg 45)) 3) (sg 51))) (dgE (toT sg) (sg 45))) (hok : ROk (sg 45)) : G z w 3 (us sg 50 (fun d => whX ((sg 45) (6 + d)) (dN (sg 45) d + 1))) (mxs (dgB (toT sg) (sg 45)) (drT (sg 45)) 3) 56 [(1, .int (nI 1)), (0, .ref (ad w 44))] [] := by
  refine g_iload_n C 0 rfl rfl dX5_digest_56 ?_
  refine g_bipush C (v := (nI 6)) (by decide) dX5_digest_57 ?_
  refine g_icmpN_ge C 1 6 (by omega) (by omega) (tgt := 92) (by decide) dX5_digest_59 (fun h59 => absurd h59 (by decide)) (fun h59 => ?_)
  refine g_iconst C (v := (nI 0)) (by decide) dX5_digest_62 ?_
  refine g_istore_n C (L' := [(2, .int (nI 0)), (1, .int (nI 1)), (0, .ref (ad w 44))]) rfl (by decide) rfl dX5_digest_63 ?_
  refine g_iload_n C 0 rfl rfl dX5_digest_64 ?_
  refine g_iconst C (v := (nI 3)) (by decide) dX5_digest_65 ?_
  refine g_icmpN_ge C 0 3 (by omega) (by omega) (tgt := 86) (by decide) dX5_digest_66 (fun h66 => absurd h66 (by decide)) (fun h66 => ?_)
  refine g_aload_n C 2 rfl rfl dX5_digest_69 ?_
  refine g_aload_n C 2 rfl rfl dX5_digest_70 ?_
  refine g_iload_n C 1 rfl rfl dX5_digest_71 ?_
  refine g_iload_n C 0 rfl rfl dX5_digest_72 ?_
  refine g_callV1 [.ref (ad w 44)] C (c_X5_drumTold_0 w (mxs (dgB (toT sg) (sg 45)) (drT (sg 45)) 3) (us sg 50 (fun d => whX ((sg 45) (6 + d)) (dN (sg 45) d + 1))) 1 (by decide) hok) mt_X5_drumTold e_44 rfl ml_X5_153 im_X5_drumTold se_X5_drumTold (by decide) rfl (Nat.le_of_ble_eq_true rfl) dX5_digest_73 ?_
  refine g_eq (L' := [(2, .int (nI 0)), (1, .int (nI 1)), (0, .ref (ad w 44))]) (S' := [.int (sg 45 1), .ref (ad w 44)]) rfl rfl rfl rfl ?_
  refine g_i2l C dX5_digest_76 ?_
  refine g_callV0 [] C (c_X5_mix w (mxs (dgB (toT sg) (sg 45)) (drT (sg 45)) 3) (us sg 50 (fun d => whX ((sg 45) (6 + d)) (dN (sg 45) d + 1))) (Int32.toInt64 (sg 45 1)) ) mt_X5_mix e_44 rfl ml_X5_229 im_X5_mix se_X5_mix (by decide) rfl (Nat.le_of_ble_eq_true rfl) dX5_digest_77 ?_
  refine g_eq (sg' := (us sg 50 (fun d => whX ((sg 45) (6 + d)) (dN (sg 45) d + 1)))) (L' := [(2, .int (nI 0)), (1, .int (nI 1)), (0, .ref (ad w 44))]) (S' := []) rfl rfl rfl rfl ?_
  refine g_tuE (tu' := (mxs (dgB (toT sg) (sg 45)) (drT (sg 45)) 4)) (mxs_s rfl rfl) ?_
  refine g_iinc C (n := 1) (v := (nI 1)) (L' := [(2, .int (nI 1)), (1, .int (nI 1)), (0, .ref (ad w 44))]) 0 rfl (nI_add 0 1) (by decide) rfl dX5_digest_80 ?_
  refine g_goto C (tgt := 64) (by decide) dX5_digest_83 ?_
  refine g_iload_n C 0 rfl rfl dX5_digest_64 ?_
  refine g_iconst C (v := (nI 3)) (by decide) dX5_digest_65 ?_
  refine g_icmpN_ge C 1 3 (by omega) (by omega) (tgt := 86) (by decide) dX5_digest_66 (fun h66 => absurd h66 (by decide)) (fun h66 => ?_)
  refine g_aload_n C 2 rfl rfl dX5_digest_69 ?_
  refine g_aload_n C 2 rfl rfl dX5_digest_70 ?_
  refine g_iload_n C 1 rfl rfl dX5_digest_71 ?_
  refine g_iload_n C 0 rfl rfl dX5_digest_72 ?_
  refine g_callV1 [.ref (ad w 44)] C (c_X5_drumTold_1 w (mxs (dgB (toT sg) (sg 45)) (drT (sg 45)) 4) (us sg 50 (fun d => whX ((sg 45) (6 + d)) (dN (sg 45) d + 1))) 1 (by decide) hok) mt_X5_drumTold e_44 rfl ml_X5_153 im_X5_drumTold se_X5_drumTold (by decide) rfl (Nat.le_of_ble_eq_true rfl) dX5_digest_73 ?_
  refine g_eq (L' := [(2, .int (nI 1)), (1, .int (nI 1)), (0, .ref (ad w 44))]) (S' := [.int (whX (sg 45 (6 + 1)) (dN (sg 45) 1 + 1)), .ref (ad w 44)]) rfl rfl rfl rfl ?_
  refine g_i2l C dX5_digest_76 ?_
  refine g_callV0 [] C (c_X5_mix w (mxs (dgB (toT sg) (sg 45)) (drT (sg 45)) 4) (us sg 50 (fun d => whX ((sg 45) (6 + d)) (dN (sg 45) d + 1))) (Int32.toInt64 (whX (sg 45 (6 + 1)) (dN (sg 45) 1 + 1))) ) mt_X5_mix e_44 rfl ml_X5_229 im_X5_mix se_X5_mix (by decide) rfl (Nat.le_of_ble_eq_true rfl) dX5_digest_77 ?_
  refine g_eq (sg' := (us sg 50 (fun d => whX ((sg 45) (6 + d)) (dN (sg 45) d + 1)))) (L' := [(2, .int (nI 1)), (1, .int (nI 1)), (0, .ref (ad w 44))]) (S' := []) rfl rfl rfl rfl ?_
  refine g_tuE (tu' := (mxs (dgB (toT sg) (sg 45)) (drT (sg 45)) 5)) (mxs_s rfl rfl) ?_
  refine g_iinc C (n := 1) (v := (nI 2)) (L' := [(2, .int (nI 2)), (1, .int (nI 1)), (0, .ref (ad w 44))]) 0 rfl (nI_add 1 1) (by decide) rfl dX5_digest_80 ?_
  refine g_goto C (tgt := 64) (by decide) dX5_digest_83 ?_
  refine g_iload_n C 0 rfl rfl dX5_digest_64 ?_
  refine g_iconst C (v := (nI 3)) (by decide) dX5_digest_65 ?_
  refine g_icmpN_ge C 2 3 (by omega) (by omega) (tgt := 86) (by decide) dX5_digest_66 (fun h66 => absurd h66 (by decide)) (fun h66 => ?_)
  refine g_aload_n C 2 rfl rfl dX5_digest_69 ?_
  refine g_aload_n C 2 rfl rfl dX5_digest_70 ?_
  refine g_iload_n C 1 rfl rfl dX5_digest_71 ?_
  refine g_iload_n C 0 rfl rfl dX5_digest_72 ?_
  refine g_callV1 [.ref (ad w 44)] C (c_X5_drumTold_2 w (mxs (dgB (toT sg) (sg 45)) (drT (sg 45)) 5) (us sg 50 (fun d => whX ((sg 45) (6 + d)) (dN (sg 45) d + 1))) 1 (by decide) hok) mt_X5_drumTold e_44 rfl ml_X5_153 im_X5_drumTold se_X5_drumTold (by decide) rfl (Nat.le_of_ble_eq_true rfl) dX5_digest_73 ?_
  refine g_eq (L' := [(2, .int (nI 2)), (1, .int (nI 1)), (0, .ref (ad w 44))]) (S' := [.int (sg 45 (6 + 1)), .ref (ad w 44)]) rfl rfl rfl rfl ?_
  refine g_i2l C dX5_digest_76 ?_
  refine g_callV0 [] C (c_X5_mix w (mxs (dgB (toT sg) (sg 45)) (drT (sg 45)) 5) (us sg 50 (fun d => whX ((sg 45) (6 + d)) (dN (sg 45) d + 1))) (Int32.toInt64 (sg 45 (6 + 1))) ) mt_X5_mix e_44 rfl ml_X5_229 im_X5_mix se_X5_mix (by decide) rfl (Nat.le_of_ble_eq_true rfl) dX5_digest_77 ?_
  refine g_eq (sg' := (us sg 50 (fun d => whX ((sg 45) (6 + d)) (dN (sg 45) d + 1)))) (L' := [(2, .int (nI 2)), (1, .int (nI 1)), (0, .ref (ad w 44))]) (S' := []) rfl rfl rfl rfl ?_
  refine g_tuE (tu' := (mxs (dgB (toT sg) (sg 45)) (drT (sg 45)) 6)) (mxs_s rfl rfl) ?_
  refine g_iinc C (n := 1) (v := (nI 3)) (L' := [(2, .int (nI 3)), (1, .int (nI 1)), (0, .ref (ad w 44))]) 0 rfl (nI_add 2 1) (by decide) rfl dX5_digest_80 ?_
  refine g_goto C (tgt := 64) (by decide) dX5_digest_83 ?_
  refine g_iload_n C 0 rfl rfl dX5_digest_64 ?_
  refine g_iconst C (v := (nI 3)) (by decide) dX5_digest_65 ?_
  refine g_icmpN_ge C 3 3 (by omega) (by omega) (tgt := 86) (by decide) dX5_digest_66 (fun h66 => ?_) (fun h66 => absurd h66 (by decide))
  refine g_iinc C (n := 1) (v := (nI 2)) (L' := [(1, .int (nI 2)), (2, .int (nI 3)), (0, .ref (ad w 44))]) 1 rfl (nI_add 1 1) (by decide) rfl dX5_digest_86 ?_
  refine g_goto C (tgt := 56) (by decide) dX5_digest_89 ?_
  refine g_sub (L' := [(1, .int (nI 2)), (0, .ref (ad w 44))]) [0, 2] rfl ?_
  exact dgs_C2 C E hok
set_option maxRecDepth 100000 in
set_option maxHeartbeats 1000000 in
theorem dgs_C0 {z : GZ} {w : GW} {sg : Sg} (C : Cx z w cX5_digest 3 RX5 4) (E : Ends z w (some .long) (some (.long (dgE (toT sg) (sg 45)))) (us (us sg 50 (gwI (sg 45) 5 9)) 51 (emb 0 (twI (gw (sg 45) 5 9) (reN (sg 45)) 3) (sg 51))) (dgE (toT sg) (sg 45))) (hok : ROk (sg 45)) : G z w 3 (us sg 50 (fun d => whX ((sg 45) (6 + d)) (dN (sg 45) d + 1))) (mxs (dgB (toT sg) (sg 45)) (drT (sg 45)) 0) 56 [(1, .int (nI 0)), (0, .ref (ad w 44))] [] := by
  refine g_iload_n C 0 rfl rfl dX5_digest_56 ?_
  refine g_bipush C (v := (nI 6)) (by decide) dX5_digest_57 ?_
  refine g_icmpN_ge C 0 6 (by omega) (by omega) (tgt := 92) (by decide) dX5_digest_59 (fun h59 => absurd h59 (by decide)) (fun h59 => ?_)
  refine g_iconst C (v := (nI 0)) (by decide) dX5_digest_62 ?_
  refine g_istore_n C (L' := [(2, .int (nI 0)), (1, .int (nI 0)), (0, .ref (ad w 44))]) rfl (by decide) rfl dX5_digest_63 ?_
  refine g_iload_n C 0 rfl rfl dX5_digest_64 ?_
  refine g_iconst C (v := (nI 3)) (by decide) dX5_digest_65 ?_
  refine g_icmpN_ge C 0 3 (by omega) (by omega) (tgt := 86) (by decide) dX5_digest_66 (fun h66 => absurd h66 (by decide)) (fun h66 => ?_)
  refine g_aload_n C 2 rfl rfl dX5_digest_69 ?_
  refine g_aload_n C 2 rfl rfl dX5_digest_70 ?_
  refine g_iload_n C 1 rfl rfl dX5_digest_71 ?_
  refine g_iload_n C 0 rfl rfl dX5_digest_72 ?_
  refine g_callV1 [.ref (ad w 44)] C (c_X5_drumTold_0 w (mxs (dgB (toT sg) (sg 45)) (drT (sg 45)) 0) (us sg 50 (fun d => whX ((sg 45) (6 + d)) (dN (sg 45) d + 1))) 0 (by decide) hok) mt_X5_drumTold e_44 rfl ml_X5_153 im_X5_drumTold se_X5_drumTold (by decide) rfl (Nat.le_of_ble_eq_true rfl) dX5_digest_73 ?_
  refine g_eq (L' := [(2, .int (nI 0)), (1, .int (nI 0)), (0, .ref (ad w 44))]) (S' := [.int (sg 45 0), .ref (ad w 44)]) rfl rfl rfl rfl ?_
  refine g_i2l C dX5_digest_76 ?_
  refine g_callV0 [] C (c_X5_mix w (mxs (dgB (toT sg) (sg 45)) (drT (sg 45)) 0) (us sg 50 (fun d => whX ((sg 45) (6 + d)) (dN (sg 45) d + 1))) (Int32.toInt64 (sg 45 0)) ) mt_X5_mix e_44 rfl ml_X5_229 im_X5_mix se_X5_mix (by decide) rfl (Nat.le_of_ble_eq_true rfl) dX5_digest_77 ?_
  refine g_eq (sg' := (us sg 50 (fun d => whX ((sg 45) (6 + d)) (dN (sg 45) d + 1)))) (L' := [(2, .int (nI 0)), (1, .int (nI 0)), (0, .ref (ad w 44))]) (S' := []) rfl rfl rfl rfl ?_
  refine g_tuE (tu' := (mxs (dgB (toT sg) (sg 45)) (drT (sg 45)) 1)) (mxs_s rfl rfl) ?_
  refine g_iinc C (n := 1) (v := (nI 1)) (L' := [(2, .int (nI 1)), (1, .int (nI 0)), (0, .ref (ad w 44))]) 0 rfl (nI_add 0 1) (by decide) rfl dX5_digest_80 ?_
  refine g_goto C (tgt := 64) (by decide) dX5_digest_83 ?_
  refine g_iload_n C 0 rfl rfl dX5_digest_64 ?_
  refine g_iconst C (v := (nI 3)) (by decide) dX5_digest_65 ?_
  refine g_icmpN_ge C 1 3 (by omega) (by omega) (tgt := 86) (by decide) dX5_digest_66 (fun h66 => absurd h66 (by decide)) (fun h66 => ?_)
  refine g_aload_n C 2 rfl rfl dX5_digest_69 ?_
  refine g_aload_n C 2 rfl rfl dX5_digest_70 ?_
  refine g_iload_n C 1 rfl rfl dX5_digest_71 ?_
  refine g_iload_n C 0 rfl rfl dX5_digest_72 ?_
  refine g_callV1 [.ref (ad w 44)] C (c_X5_drumTold_1 w (mxs (dgB (toT sg) (sg 45)) (drT (sg 45)) 1) (us sg 50 (fun d => whX ((sg 45) (6 + d)) (dN (sg 45) d + 1))) 0 (by decide) hok) mt_X5_drumTold e_44 rfl ml_X5_153 im_X5_drumTold se_X5_drumTold (by decide) rfl (Nat.le_of_ble_eq_true rfl) dX5_digest_73 ?_
  refine g_eq (L' := [(2, .int (nI 1)), (1, .int (nI 0)), (0, .ref (ad w 44))]) (S' := [.int (whX (sg 45 (6 + 0)) (dN (sg 45) 0 + 1)), .ref (ad w 44)]) rfl rfl rfl rfl ?_
  refine g_i2l C dX5_digest_76 ?_
  refine g_callV0 [] C (c_X5_mix w (mxs (dgB (toT sg) (sg 45)) (drT (sg 45)) 1) (us sg 50 (fun d => whX ((sg 45) (6 + d)) (dN (sg 45) d + 1))) (Int32.toInt64 (whX (sg 45 (6 + 0)) (dN (sg 45) 0 + 1))) ) mt_X5_mix e_44 rfl ml_X5_229 im_X5_mix se_X5_mix (by decide) rfl (Nat.le_of_ble_eq_true rfl) dX5_digest_77 ?_
  refine g_eq (sg' := (us sg 50 (fun d => whX ((sg 45) (6 + d)) (dN (sg 45) d + 1)))) (L' := [(2, .int (nI 1)), (1, .int (nI 0)), (0, .ref (ad w 44))]) (S' := []) rfl rfl rfl rfl ?_
  refine g_tuE (tu' := (mxs (dgB (toT sg) (sg 45)) (drT (sg 45)) 2)) (mxs_s rfl rfl) ?_
  refine g_iinc C (n := 1) (v := (nI 2)) (L' := [(2, .int (nI 2)), (1, .int (nI 0)), (0, .ref (ad w 44))]) 0 rfl (nI_add 1 1) (by decide) rfl dX5_digest_80 ?_
  refine g_goto C (tgt := 64) (by decide) dX5_digest_83 ?_
  refine g_iload_n C 0 rfl rfl dX5_digest_64 ?_
  refine g_iconst C (v := (nI 3)) (by decide) dX5_digest_65 ?_
  refine g_icmpN_ge C 2 3 (by omega) (by omega) (tgt := 86) (by decide) dX5_digest_66 (fun h66 => absurd h66 (by decide)) (fun h66 => ?_)
  refine g_aload_n C 2 rfl rfl dX5_digest_69 ?_
  refine g_aload_n C 2 rfl rfl dX5_digest_70 ?_
  refine g_iload_n C 1 rfl rfl dX5_digest_71 ?_
  refine g_iload_n C 0 rfl rfl dX5_digest_72 ?_
  refine g_callV1 [.ref (ad w 44)] C (c_X5_drumTold_2 w (mxs (dgB (toT sg) (sg 45)) (drT (sg 45)) 2) (us sg 50 (fun d => whX ((sg 45) (6 + d)) (dN (sg 45) d + 1))) 0 (by decide) hok) mt_X5_drumTold e_44 rfl ml_X5_153 im_X5_drumTold se_X5_drumTold (by decide) rfl (Nat.le_of_ble_eq_true rfl) dX5_digest_73 ?_
  refine g_eq (L' := [(2, .int (nI 2)), (1, .int (nI 0)), (0, .ref (ad w 44))]) (S' := [.int (sg 45 (6 + 0)), .ref (ad w 44)]) rfl rfl rfl rfl ?_
  refine g_i2l C dX5_digest_76 ?_
  refine g_callV0 [] C (c_X5_mix w (mxs (dgB (toT sg) (sg 45)) (drT (sg 45)) 2) (us sg 50 (fun d => whX ((sg 45) (6 + d)) (dN (sg 45) d + 1))) (Int32.toInt64 (sg 45 (6 + 0))) ) mt_X5_mix e_44 rfl ml_X5_229 im_X5_mix se_X5_mix (by decide) rfl (Nat.le_of_ble_eq_true rfl) dX5_digest_77 ?_
  refine g_eq (sg' := (us sg 50 (fun d => whX ((sg 45) (6 + d)) (dN (sg 45) d + 1)))) (L' := [(2, .int (nI 2)), (1, .int (nI 0)), (0, .ref (ad w 44))]) (S' := []) rfl rfl rfl rfl ?_
  refine g_tuE (tu' := (mxs (dgB (toT sg) (sg 45)) (drT (sg 45)) 3)) (mxs_s rfl rfl) ?_
  refine g_iinc C (n := 1) (v := (nI 3)) (L' := [(2, .int (nI 3)), (1, .int (nI 0)), (0, .ref (ad w 44))]) 0 rfl (nI_add 2 1) (by decide) rfl dX5_digest_80 ?_
  refine g_goto C (tgt := 64) (by decide) dX5_digest_83 ?_
  refine g_iload_n C 0 rfl rfl dX5_digest_64 ?_
  refine g_iconst C (v := (nI 3)) (by decide) dX5_digest_65 ?_
  refine g_icmpN_ge C 3 3 (by omega) (by omega) (tgt := 86) (by decide) dX5_digest_66 (fun h66 => ?_) (fun h66 => absurd h66 (by decide))
  refine g_iinc C (n := 1) (v := (nI 1)) (L' := [(1, .int (nI 1)), (2, .int (nI 3)), (0, .ref (ad w 44))]) 1 rfl (nI_add 0 1) (by decide) rfl dX5_digest_86 ?_
  refine g_goto C (tgt := 56) (by decide) dX5_digest_89 ?_
  refine g_sub (L' := [(1, .int (nI 1)), (0, .ref (ad w 44))]) [0, 2] rfl ?_
  exact dgs_C1 C E hok
set_option maxRecDepth 100000 in
set_option maxHeartbeats 1000000 in
theorem dgs_B8 {z : GZ} {w : GW} {sg : Sg} (C : Cx z w cX5_digest 3 RX5 4) (E : Ends z w (some .long) (some (.long (dgE (toT sg) (sg 45)))) (us (us sg 50 (gwI (sg 45) 5 9)) 51 (emb 0 (twI (gw (sg 45) 5 9) (reN (sg 45)) 3) (sg 51))) (dgE (toT sg) (sg 45))) (hok : ROk (sg 45)) : G z w 3 (us sg 50 (fun d => whX ((sg 45) (6 + d)) (dN (sg 45) d + 1))) (mxs (dgA (toT sg)) (cnT (sg 45)) 8) 32 [(1, .int (nI 8)), (0, .ref (ad w 44))] [] := by
  refine g_iload_n C 0 rfl rfl dX5_digest_32 ?_
  refine g_bipush C (v := (nI 8)) (by decide) dX5_digest_33 ?_
  refine g_icmpN_ge C 8 8 (by omega) (by omega) (tgt := 54) (by decide) dX5_digest_35 (fun h35 => ?_) (fun h35 => absurd h35 (by decide))
  refine g_tuE (tu' := (mxs (dgB (toT sg) (sg 45)) (drT (sg 45)) 0)) ((dgB_e _ _).trans (mxs_0 _ _)) ?_
  refine g_iconst C (v := (nI 0)) (by decide) dX5_digest_54 ?_
  refine g_istore_n C (L' := [(1, .int (nI 0)), (0, .ref (ad w 44))]) rfl (by decide) rfl dX5_digest_55 ?_
  exact dgs_C0 C E hok
set_option maxRecDepth 100000 in
set_option maxHeartbeats 1000000 in
theorem dgs_B7 {z : GZ} {w : GW} {sg : Sg} (C : Cx z w cX5_digest 3 RX5 4) (E : Ends z w (some .long) (some (.long (dgE (toT sg) (sg 45)))) (us (us sg 50 (gwI (sg 45) 5 9)) 51 (emb 0 (twI (gw (sg 45) 5 9) (reN (sg 45)) 3) (sg 51))) (dgE (toT sg) (sg 45))) (hok : ROk (sg 45)) : G z w 3 (us sg 50 (fun d => whX ((sg 45) (6 + d)) (dN (sg 45) d + 1))) (mxs (dgA (toT sg)) (cnT (sg 45)) 7) 32 [(1, .int (nI 7)), (0, .ref (ad w 44))] [] := by
  refine g_iload_n C 0 rfl rfl dX5_digest_32 ?_
  refine g_bipush C (v := (nI 8)) (by decide) dX5_digest_33 ?_
  refine g_icmpN_ge C 7 8 (by omega) (by omega) (tgt := 54) (by decide) dX5_digest_35 (fun h35 => absurd h35 (by decide)) (fun h35 => ?_)
  refine g_aload_n C 1 rfl rfl dX5_digest_38 ?_
  refine g_aload_n C 1 rfl rfl dX5_digest_39 ?_
  refine g_iload_n C 0 rfl rfl dX5_digest_40 ?_
  refine g_callV1 [.ref (ad w 44)] C (c_X5_countTold_7 w (mxs (dgA (toT sg)) (cnT (sg 45)) 7) (us sg 50 (fun d => whX ((sg 45) (6 + d)) (dN (sg 45) d + 1)))  ) mt_X5_countTold e_44 rfl ml_X5_164 im_X5_countTold se_X5_countTold (by decide) rfl (Nat.le_of_ble_eq_true rfl) dX5_digest_41 ?_
  refine g_eq (L' := [(1, .int (nI 7)), (0, .ref (ad w 44))]) (S' := [.int (wsX (sg 45) 6), .ref (ad w 44)]) rfl rfl rfl rfl ?_
  refine g_i2l C dX5_digest_44 ?_
  refine g_callV0 [] C (c_X5_mix w (mxs (dgA (toT sg)) (cnT (sg 45)) 7) (us sg 50 (fun d => whX ((sg 45) (6 + d)) (dN (sg 45) d + 1))) (Int32.toInt64 (wsX (sg 45) 6)) ) mt_X5_mix e_44 rfl ml_X5_229 im_X5_mix se_X5_mix (by decide) rfl (Nat.le_of_ble_eq_true rfl) dX5_digest_45 ?_
  refine g_eq (sg' := (us sg 50 (fun d => whX ((sg 45) (6 + d)) (dN (sg 45) d + 1)))) (L' := [(1, .int (nI 7)), (0, .ref (ad w 44))]) (S' := []) rfl rfl rfl rfl ?_
  refine g_tuE (tu' := (mxs (dgA (toT sg)) (cnT (sg 45)) 8)) (mxs_s rfl rfl) ?_
  refine g_iinc C (n := 1) (v := (nI 8)) (L' := [(1, .int (nI 8)), (0, .ref (ad w 44))]) 0 rfl (nI_add 7 1) (by decide) rfl dX5_digest_48 ?_
  refine g_goto C (tgt := 32) (by decide) dX5_digest_51 ?_
  refine g_sub (L' := [(1, .int (nI 8)), (0, .ref (ad w 44))]) [0, 1] rfl ?_
  exact dgs_B8 C E hok
set_option maxRecDepth 100000 in
set_option maxHeartbeats 1000000 in
theorem dgs_B6 {z : GZ} {w : GW} {sg : Sg} (C : Cx z w cX5_digest 3 RX5 4) (E : Ends z w (some .long) (some (.long (dgE (toT sg) (sg 45)))) (us (us sg 50 (gwI (sg 45) 5 9)) 51 (emb 0 (twI (gw (sg 45) 5 9) (reN (sg 45)) 3) (sg 51))) (dgE (toT sg) (sg 45))) (hok : ROk (sg 45)) : G z w 3 (us sg 50 (fun d => whX ((sg 45) (6 + d)) (dN (sg 45) d + 1))) (mxs (dgA (toT sg)) (cnT (sg 45)) 6) 32 [(1, .int (nI 6)), (0, .ref (ad w 44))] [] := by
  refine g_iload_n C 0 rfl rfl dX5_digest_32 ?_
  refine g_bipush C (v := (nI 8)) (by decide) dX5_digest_33 ?_
  refine g_icmpN_ge C 6 8 (by omega) (by omega) (tgt := 54) (by decide) dX5_digest_35 (fun h35 => absurd h35 (by decide)) (fun h35 => ?_)
  refine g_aload_n C 1 rfl rfl dX5_digest_38 ?_
  refine g_aload_n C 1 rfl rfl dX5_digest_39 ?_
  refine g_iload_n C 0 rfl rfl dX5_digest_40 ?_
  refine g_callV1 [.ref (ad w 44)] C (c_X5_countTold_6 w (mxs (dgA (toT sg)) (cnT (sg 45)) 6) (us sg 50 (fun d => whX ((sg 45) (6 + d)) (dN (sg 45) d + 1)))  ) mt_X5_countTold e_44 rfl ml_X5_164 im_X5_countTold se_X5_countTold (by decide) rfl (Nat.le_of_ble_eq_true rfl) dX5_digest_41 ?_
  refine g_eq (L' := [(1, .int (nI 6)), (0, .ref (ad w 44))]) (S' := [.int (sg 45 34), .ref (ad w 44)]) rfl rfl rfl rfl ?_
  refine g_i2l C dX5_digest_44 ?_
  refine g_callV0 [] C (c_X5_mix w (mxs (dgA (toT sg)) (cnT (sg 45)) 6) (us sg 50 (fun d => whX ((sg 45) (6 + d)) (dN (sg 45) d + 1))) (Int32.toInt64 (sg 45 34)) ) mt_X5_mix e_44 rfl ml_X5_229 im_X5_mix se_X5_mix (by decide) rfl (Nat.le_of_ble_eq_true rfl) dX5_digest_45 ?_
  refine g_eq (sg' := (us sg 50 (fun d => whX ((sg 45) (6 + d)) (dN (sg 45) d + 1)))) (L' := [(1, .int (nI 6)), (0, .ref (ad w 44))]) (S' := []) rfl rfl rfl rfl ?_
  refine g_tuE (tu' := (mxs (dgA (toT sg)) (cnT (sg 45)) 7)) (mxs_s rfl rfl) ?_
  refine g_iinc C (n := 1) (v := (nI 7)) (L' := [(1, .int (nI 7)), (0, .ref (ad w 44))]) 0 rfl (nI_add 6 1) (by decide) rfl dX5_digest_48 ?_
  refine g_goto C (tgt := 32) (by decide) dX5_digest_51 ?_
  refine g_sub (L' := [(1, .int (nI 7)), (0, .ref (ad w 44))]) [0, 1] rfl ?_
  exact dgs_B7 C E hok
set_option maxRecDepth 100000 in
set_option maxHeartbeats 1000000 in
theorem dgs_B5 {z : GZ} {w : GW} {sg : Sg} (C : Cx z w cX5_digest 3 RX5 4) (E : Ends z w (some .long) (some (.long (dgE (toT sg) (sg 45)))) (us (us sg 50 (gwI (sg 45) 5 9)) 51 (emb 0 (twI (gw (sg 45) 5 9) (reN (sg 45)) 3) (sg 51))) (dgE (toT sg) (sg 45))) (hok : ROk (sg 45)) : G z w 3 (us sg 50 (fun d => whX ((sg 45) (6 + d)) (dN (sg 45) d + 1))) (mxs (dgA (toT sg)) (cnT (sg 45)) 5) 32 [(1, .int (nI 5)), (0, .ref (ad w 44))] [] := by
  refine g_iload_n C 0 rfl rfl dX5_digest_32 ?_
  refine g_bipush C (v := (nI 8)) (by decide) dX5_digest_33 ?_
  refine g_icmpN_ge C 5 8 (by omega) (by omega) (tgt := 54) (by decide) dX5_digest_35 (fun h35 => absurd h35 (by decide)) (fun h35 => ?_)
  refine g_aload_n C 1 rfl rfl dX5_digest_38 ?_
  refine g_aload_n C 1 rfl rfl dX5_digest_39 ?_
  refine g_iload_n C 0 rfl rfl dX5_digest_40 ?_
  refine g_callV1 [.ref (ad w 44)] C (c_X5_countTold_5 w (mxs (dgA (toT sg)) (cnT (sg 45)) 5) (us sg 50 (fun d => whX ((sg 45) (6 + d)) (dN (sg 45) d + 1)))  ) mt_X5_countTold e_44 rfl ml_X5_164 im_X5_countTold se_X5_countTold (by decide) rfl (Nat.le_of_ble_eq_true rfl) dX5_digest_41 ?_
  refine g_eq (L' := [(1, .int (nI 5)), (0, .ref (ad w 44))]) (S' := [.int (sg 45 33), .ref (ad w 44)]) rfl rfl rfl rfl ?_
  refine g_i2l C dX5_digest_44 ?_
  refine g_callV0 [] C (c_X5_mix w (mxs (dgA (toT sg)) (cnT (sg 45)) 5) (us sg 50 (fun d => whX ((sg 45) (6 + d)) (dN (sg 45) d + 1))) (Int32.toInt64 (sg 45 33)) ) mt_X5_mix e_44 rfl ml_X5_229 im_X5_mix se_X5_mix (by decide) rfl (Nat.le_of_ble_eq_true rfl) dX5_digest_45 ?_
  refine g_eq (sg' := (us sg 50 (fun d => whX ((sg 45) (6 + d)) (dN (sg 45) d + 1)))) (L' := [(1, .int (nI 5)), (0, .ref (ad w 44))]) (S' := []) rfl rfl rfl rfl ?_
  refine g_tuE (tu' := (mxs (dgA (toT sg)) (cnT (sg 45)) 6)) (mxs_s rfl rfl) ?_
  refine g_iinc C (n := 1) (v := (nI 6)) (L' := [(1, .int (nI 6)), (0, .ref (ad w 44))]) 0 rfl (nI_add 5 1) (by decide) rfl dX5_digest_48 ?_
  refine g_goto C (tgt := 32) (by decide) dX5_digest_51 ?_
  refine g_sub (L' := [(1, .int (nI 6)), (0, .ref (ad w 44))]) [0, 1] rfl ?_
  exact dgs_B6 C E hok
set_option maxRecDepth 100000 in
set_option maxHeartbeats 1000000 in
theorem dgs_B4 {z : GZ} {w : GW} {sg : Sg} (C : Cx z w cX5_digest 3 RX5 4) (E : Ends z w (some .long) (some (.long (dgE (toT sg) (sg 45)))) (us (us sg 50 (gwI (sg 45) 5 9)) 51 (emb 0 (twI (gw (sg 45) 5 9) (reN (sg 45)) 3) (sg 51))) (dgE (toT sg) (sg 45))) (hok : ROk (sg 45)) : G z w 3 (us sg 50 (fun d => whX ((sg 45) (6 + d)) (dN (sg 45) d + 1))) (mxs (dgA (toT sg)) (cnT (sg 45)) 4) 32 [(1, .int (nI 4)), (0, .ref (ad w 44))] [] := by
  refine g_iload_n C 0 rfl rfl dX5_digest_32 ?_
  refine g_bipush C (v := (nI 8)) (by decide) dX5_digest_33 ?_
  refine g_icmpN_ge C 4 8 (by omega) (by omega) (tgt := 54) (by decide) dX5_digest_35 (fun h35 => absurd h35 (by decide)) (fun h35 => ?_)
  refine g_aload_n C 1 rfl rfl dX5_digest_38 ?_
  refine g_aload_n C 1 rfl rfl dX5_digest_39 ?_
  refine g_iload_n C 0 rfl rfl dX5_digest_40 ?_
  refine g_callV1 [.ref (ad w 44)] C (c_X5_countTold_4 w (mxs (dgA (toT sg)) (cnT (sg 45)) 4) (us sg 50 (fun d => whX ((sg 45) (6 + d)) (dN (sg 45) d + 1)))  ) mt_X5_countTold e_44 rfl ml_X5_164 im_X5_countTold se_X5_countTold (by decide) rfl (Nat.le_of_ble_eq_true rfl) dX5_digest_41 ?_
  refine g_eq (L' := [(1, .int (nI 4)), (0, .ref (ad w 44))]) (S' := [.int (sg 45 32), .ref (ad w 44)]) rfl rfl rfl rfl ?_
  refine g_i2l C dX5_digest_44 ?_
  refine g_callV0 [] C (c_X5_mix w (mxs (dgA (toT sg)) (cnT (sg 45)) 4) (us sg 50 (fun d => whX ((sg 45) (6 + d)) (dN (sg 45) d + 1))) (Int32.toInt64 (sg 45 32)) ) mt_X5_mix e_44 rfl ml_X5_229 im_X5_mix se_X5_mix (by decide) rfl (Nat.le_of_ble_eq_true rfl) dX5_digest_45 ?_
  refine g_eq (sg' := (us sg 50 (fun d => whX ((sg 45) (6 + d)) (dN (sg 45) d + 1)))) (L' := [(1, .int (nI 4)), (0, .ref (ad w 44))]) (S' := []) rfl rfl rfl rfl ?_
  refine g_tuE (tu' := (mxs (dgA (toT sg)) (cnT (sg 45)) 5)) (mxs_s rfl rfl) ?_
  refine g_iinc C (n := 1) (v := (nI 5)) (L' := [(1, .int (nI 5)), (0, .ref (ad w 44))]) 0 rfl (nI_add 4 1) (by decide) rfl dX5_digest_48 ?_
  refine g_goto C (tgt := 32) (by decide) dX5_digest_51 ?_
  refine g_sub (L' := [(1, .int (nI 5)), (0, .ref (ad w 44))]) [0, 1] rfl ?_
  exact dgs_B5 C E hok
set_option maxRecDepth 100000 in
set_option maxHeartbeats 1000000 in
theorem dgs_B3 {z : GZ} {w : GW} {sg : Sg} (C : Cx z w cX5_digest 3 RX5 4) (E : Ends z w (some .long) (some (.long (dgE (toT sg) (sg 45)))) (us (us sg 50 (gwI (sg 45) 5 9)) 51 (emb 0 (twI (gw (sg 45) 5 9) (reN (sg 45)) 3) (sg 51))) (dgE (toT sg) (sg 45))) (hok : ROk (sg 45)) : G z w 3 (us sg 50 (fun d => whX ((sg 45) (6 + d)) (dN (sg 45) d + 1))) (mxs (dgA (toT sg)) (cnT (sg 45)) 3) 32 [(1, .int (nI 3)), (0, .ref (ad w 44))] [] := by
  refine g_iload_n C 0 rfl rfl dX5_digest_32 ?_
  refine g_bipush C (v := (nI 8)) (by decide) dX5_digest_33 ?_
  refine g_icmpN_ge C 3 8 (by omega) (by omega) (tgt := 54) (by decide) dX5_digest_35 (fun h35 => absurd h35 (by decide)) (fun h35 => ?_)
  refine g_aload_n C 1 rfl rfl dX5_digest_38 ?_
  refine g_aload_n C 1 rfl rfl dX5_digest_39 ?_
  refine g_iload_n C 0 rfl rfl dX5_digest_40 ?_
  refine g_callV1 [.ref (ad w 44)] C (c_X5_countTold_3 w (mxs (dgA (toT sg)) (cnT (sg 45)) 3) (us sg 50 (fun d => whX ((sg 45) (6 + d)) (dN (sg 45) d + 1)))  ) mt_X5_countTold e_44 rfl ml_X5_164 im_X5_countTold se_X5_countTold (by decide) rfl (Nat.le_of_ble_eq_true rfl) dX5_digest_41 ?_
  refine g_eq (L' := [(1, .int (nI 3)), (0, .ref (ad w 44))]) (S' := [.int (sg 45 31), .ref (ad w 44)]) rfl rfl rfl rfl ?_
  refine g_i2l C dX5_digest_44 ?_
  refine g_callV0 [] C (c_X5_mix w (mxs (dgA (toT sg)) (cnT (sg 45)) 3) (us sg 50 (fun d => whX ((sg 45) (6 + d)) (dN (sg 45) d + 1))) (Int32.toInt64 (sg 45 31)) ) mt_X5_mix e_44 rfl ml_X5_229 im_X5_mix se_X5_mix (by decide) rfl (Nat.le_of_ble_eq_true rfl) dX5_digest_45 ?_
  refine g_eq (sg' := (us sg 50 (fun d => whX ((sg 45) (6 + d)) (dN (sg 45) d + 1)))) (L' := [(1, .int (nI 3)), (0, .ref (ad w 44))]) (S' := []) rfl rfl rfl rfl ?_
  refine g_tuE (tu' := (mxs (dgA (toT sg)) (cnT (sg 45)) 4)) (mxs_s rfl rfl) ?_
  refine g_iinc C (n := 1) (v := (nI 4)) (L' := [(1, .int (nI 4)), (0, .ref (ad w 44))]) 0 rfl (nI_add 3 1) (by decide) rfl dX5_digest_48 ?_
  refine g_goto C (tgt := 32) (by decide) dX5_digest_51 ?_
  refine g_sub (L' := [(1, .int (nI 4)), (0, .ref (ad w 44))]) [0, 1] rfl ?_
  exact dgs_B4 C E hok
set_option maxRecDepth 100000 in
set_option maxHeartbeats 1000000 in
theorem dgs_B2 {z : GZ} {w : GW} {sg : Sg} (C : Cx z w cX5_digest 3 RX5 4) (E : Ends z w (some .long) (some (.long (dgE (toT sg) (sg 45)))) (us (us sg 50 (gwI (sg 45) 5 9)) 51 (emb 0 (twI (gw (sg 45) 5 9) (reN (sg 45)) 3) (sg 51))) (dgE (toT sg) (sg 45))) (hok : ROk (sg 45)) : G z w 3 (us sg 50 (fun d => whX ((sg 45) (6 + d)) (dN (sg 45) d + 1))) (mxs (dgA (toT sg)) (cnT (sg 45)) 2) 32 [(1, .int (nI 2)), (0, .ref (ad w 44))] [] := by
  refine g_iload_n C 0 rfl rfl dX5_digest_32 ?_
  refine g_bipush C (v := (nI 8)) (by decide) dX5_digest_33 ?_
  refine g_icmpN_ge C 2 8 (by omega) (by omega) (tgt := 54) (by decide) dX5_digest_35 (fun h35 => absurd h35 (by decide)) (fun h35 => ?_)
  refine g_aload_n C 1 rfl rfl dX5_digest_38 ?_
  refine g_aload_n C 1 rfl rfl dX5_digest_39 ?_
  refine g_iload_n C 0 rfl rfl dX5_digest_40 ?_
  refine g_callV1 [.ref (ad w 44)] C (c_X5_countTold_2 w (mxs (dgA (toT sg)) (cnT (sg 45)) 2) (us sg 50 (fun d => whX ((sg 45) (6 + d)) (dN (sg 45) d + 1)))  ) mt_X5_countTold e_44 rfl ml_X5_164 im_X5_countTold se_X5_countTold (by decide) rfl (Nat.le_of_ble_eq_true rfl) dX5_digest_41 ?_
  refine g_eq (L' := [(1, .int (nI 2)), (0, .ref (ad w 44))]) (S' := [.int (nbX (sg 45) 24 7 (nI 0)), .ref (ad w 44)]) rfl rfl rfl rfl ?_
  refine g_i2l C dX5_digest_44 ?_
  refine g_callV0 [] C (c_X5_mix w (mxs (dgA (toT sg)) (cnT (sg 45)) 2) (us sg 50 (fun d => whX ((sg 45) (6 + d)) (dN (sg 45) d + 1))) (Int32.toInt64 (nbX (sg 45) 24 7 (nI 0))) ) mt_X5_mix e_44 rfl ml_X5_229 im_X5_mix se_X5_mix (by decide) rfl (Nat.le_of_ble_eq_true rfl) dX5_digest_45 ?_
  refine g_eq (sg' := (us sg 50 (fun d => whX ((sg 45) (6 + d)) (dN (sg 45) d + 1)))) (L' := [(1, .int (nI 2)), (0, .ref (ad w 44))]) (S' := []) rfl rfl rfl rfl ?_
  refine g_tuE (tu' := (mxs (dgA (toT sg)) (cnT (sg 45)) 3)) (mxs_s rfl rfl) ?_
  refine g_iinc C (n := 1) (v := (nI 3)) (L' := [(1, .int (nI 3)), (0, .ref (ad w 44))]) 0 rfl (nI_add 2 1) (by decide) rfl dX5_digest_48 ?_
  refine g_goto C (tgt := 32) (by decide) dX5_digest_51 ?_
  refine g_sub (L' := [(1, .int (nI 3)), (0, .ref (ad w 44))]) [0, 1] rfl ?_
  exact dgs_B3 C E hok
set_option maxRecDepth 100000 in
set_option maxHeartbeats 1000000 in
theorem dgs_B1 {z : GZ} {w : GW} {sg : Sg} (C : Cx z w cX5_digest 3 RX5 4) (E : Ends z w (some .long) (some (.long (dgE (toT sg) (sg 45)))) (us (us sg 50 (gwI (sg 45) 5 9)) 51 (emb 0 (twI (gw (sg 45) 5 9) (reN (sg 45)) 3) (sg 51))) (dgE (toT sg) (sg 45))) (hok : ROk (sg 45)) : G z w 3 sg (mxs (dgA (toT sg)) (cnT (sg 45)) 1) 32 [(1, .int (nI 1)), (0, .ref (ad w 44))] [] := by
  refine g_iload_n C 0 rfl rfl dX5_digest_32 ?_
  refine g_bipush C (v := (nI 8)) (by decide) dX5_digest_33 ?_
  refine g_icmpN_ge C 1 8 (by omega) (by omega) (tgt := 54) (by decide) dX5_digest_35 (fun h35 => absurd h35 (by decide)) (fun h35 => ?_)
  refine g_aload_n C 1 rfl rfl dX5_digest_38 ?_
  refine g_aload_n C 1 rfl rfl dX5_digest_39 ?_
  refine g_iload_n C 0 rfl rfl dX5_digest_40 ?_
  refine g_callV1 [.ref (ad w 44)] C (c_X5_countTold_1 w (mxs (dgA (toT sg)) (cnT (sg 45)) 1) sg  hok) mt_X5_countTold e_44 rfl ml_X5_164 im_X5_countTold se_X5_countTold (by decide) rfl (Nat.le_of_ble_eq_true rfl) dX5_digest_41 ?_
  refine g_eq (sg' := (us sg 50 (fun d => whX ((sg 45) (6 + d)) (dN (sg 45) d + 1)))) (L' := [(1, .int (nI 1)), (0, .ref (ad w 44))]) (S' := [.int (nbX (fun d => whX ((sg 45) (6 + d)) (dN (sg 45) d + 1)) 0 6 (nI 0)), .ref (ad w 44)]) rfl rfl rfl rfl ?_
  refine g_i2l C dX5_digest_44 ?_
  refine g_callV0 [] C (c_X5_mix w (mxs (dgA (toT sg)) (cnT (sg 45)) 1) (us sg 50 (fun d => whX ((sg 45) (6 + d)) (dN (sg 45) d + 1))) (Int32.toInt64 (nbX (fun d => whX ((sg 45) (6 + d)) (dN (sg 45) d + 1)) 0 6 (nI 0))) ) mt_X5_mix e_44 rfl ml_X5_229 im_X5_mix se_X5_mix (by decide) rfl (Nat.le_of_ble_eq_true rfl) dX5_digest_45 ?_
  refine g_eq (sg' := (us sg 50 (fun d => whX ((sg 45) (6 + d)) (dN (sg 45) d + 1)))) (L' := [(1, .int (nI 1)), (0, .ref (ad w 44))]) (S' := []) rfl rfl rfl rfl ?_
  refine g_tuE (tu' := (mxs (dgA (toT sg)) (cnT (sg 45)) 2)) (mxs_s rfl rfl) ?_
  refine g_iinc C (n := 1) (v := (nI 2)) (L' := [(1, .int (nI 2)), (0, .ref (ad w 44))]) 0 rfl (nI_add 1 1) (by decide) rfl dX5_digest_48 ?_
  refine g_goto C (tgt := 32) (by decide) dX5_digest_51 ?_
  refine g_sub (L' := [(1, .int (nI 2)), (0, .ref (ad w 44))]) [0, 1] rfl ?_
  exact dgs_B2 C E hok
set_option maxRecDepth 100000 in
set_option maxHeartbeats 1000000 in
theorem dgs_B0 {z : GZ} {w : GW} {sg : Sg} (C : Cx z w cX5_digest 3 RX5 4) (E : Ends z w (some .long) (some (.long (dgE (toT sg) (sg 45)))) (us (us sg 50 (gwI (sg 45) 5 9)) 51 (emb 0 (twI (gw (sg 45) 5 9) (reN (sg 45)) 3) (sg 51))) (dgE (toT sg) (sg 45))) (hok : ROk (sg 45)) : G z w 3 sg (mxs (dgA (toT sg)) (cnT (sg 45)) 0) 32 [(1, .int (nI 0)), (0, .ref (ad w 44))] [] := by
  refine g_iload_n C 0 rfl rfl dX5_digest_32 ?_
  refine g_bipush C (v := (nI 8)) (by decide) dX5_digest_33 ?_
  refine g_icmpN_ge C 0 8 (by omega) (by omega) (tgt := 54) (by decide) dX5_digest_35 (fun h35 => absurd h35 (by decide)) (fun h35 => ?_)
  refine g_aload_n C 1 rfl rfl dX5_digest_38 ?_
  refine g_aload_n C 1 rfl rfl dX5_digest_39 ?_
  refine g_iload_n C 0 rfl rfl dX5_digest_40 ?_
  refine g_callV1 [.ref (ad w 44)] C (c_X5_countTold_0 w (mxs (dgA (toT sg)) (cnT (sg 45)) 0) sg  ) mt_X5_countTold e_44 rfl ml_X5_164 im_X5_countTold se_X5_countTold (by decide) rfl (Nat.le_of_ble_eq_true rfl) dX5_digest_41 ?_
  refine g_eq (L' := [(1, .int (nI 0)), (0, .ref (ad w 44))]) (S' := [.int (nbX (sg 45) 0 6 (nI 0)), .ref (ad w 44)]) rfl rfl rfl rfl ?_
  refine g_i2l C dX5_digest_44 ?_
  refine g_callV0 [] C (c_X5_mix w (mxs (dgA (toT sg)) (cnT (sg 45)) 0) sg (Int32.toInt64 (nbX (sg 45) 0 6 (nI 0))) ) mt_X5_mix e_44 rfl ml_X5_229 im_X5_mix se_X5_mix (by decide) rfl (Nat.le_of_ble_eq_true rfl) dX5_digest_45 ?_
  refine g_eq (sg' := sg) (L' := [(1, .int (nI 0)), (0, .ref (ad w 44))]) (S' := []) rfl rfl rfl rfl ?_
  refine g_tuE (tu' := (mxs (dgA (toT sg)) (cnT (sg 45)) 1)) (mxs_s rfl rfl) ?_
  refine g_iinc C (n := 1) (v := (nI 1)) (L' := [(1, .int (nI 1)), (0, .ref (ad w 44))]) 0 rfl (nI_add 0 1) (by decide) rfl dX5_digest_48 ?_
  refine g_goto C (tgt := 32) (by decide) dX5_digest_51 ?_
  refine g_sub (L' := [(1, .int (nI 1)), (0, .ref (ad w 44))]) [0, 1] rfl ?_
  exact dgs_B1 C E hok
set_option maxRecDepth 100000 in
set_option maxHeartbeats 400000 in
theorem c_X5_digest (w : GW) (tu : Int64) (sg : Sg) (hok : ROk (sg 45)) : Kt w yX5_digest cX5_digest 3 (some .long) 4 [.ref (ad w 44)] sg tu (some (.long (dgE (toT sg) (sg 45)))) (us (us sg 50 (gwI (sg 45) 5 9)) 51 (emb 0 (twI (gw (sg 45) 5 9) (reN (sg 45)) 3) (sg 51))) (dgE (toT sg) (sg 45)) := by
  refine Kt.of2 RX5 rfl [(0, .ref (ad w 44))] (by decide) rfl (Nat.le_of_ble_eq_true rfl) (fun z C E => ?_)
  refine g_aload_n C 0 rfl rfl dX5_digest_0 ?_
  refine g_ldc2 C cn_X5_227 dX5_digest_1 ?_
  refine g_putL C fl_X5_223 dX5_digest_4 ?_
  refine g_tuE (tu' := (mxs 2892 (toT sg) 0)) (mxs_0 _ _) ?_
  refine g_iconst C (v := (nI 0)) (by decide) dX5_digest_7 ?_
  refine g_istore_n C (L' := [(1, .int (nI 0)), (0, .ref (ad w 44))]) rfl (by decide) rfl dX5_digest_8 ?_
  refine g_iload_n C 0 rfl rfl dX5_digest_9 ?_
  refine g_iconst C (v := (nI 5)) (by decide) dX5_digest_10 ?_
  refine g_icmpN_ge C 0 5 (by omega) (by omega) (tgt := 30) (by decide) dX5_digest_11 (fun h11 => absurd h11 (by decide)) (fun h11 => ?_)
  refine g_aload_n C 1 rfl rfl dX5_digest_14 ?_
  refine g_aload_n C 1 rfl rfl dX5_digest_15 ?_
  refine g_iload_n C 0 rfl rfl dX5_digest_16 ?_
  refine g_callV1 [.ref (ad w 44)] C (c_X5_toldAt_0 w (mxs 2892 (toT sg) 0) sg  ) mt_X5_toldAt e_44 rfl ml_X5_218 im_X5_toldAt se_X5_toldAt (by decide) rfl (Nat.le_of_ble_eq_true rfl) dX5_digest_17 ?_
  refine g_eq (L' := [(1, .int (nI 0)), (0, .ref (ad w 44))]) (S' := [.int (sg 48 0), .ref (ad w 44)]) rfl rfl rfl rfl ?_
  refine g_i2l C dX5_digest_20 ?_
  refine g_callV0 [] C (c_X5_mix w (mxs 2892 (toT sg) 0) sg (Int32.toInt64 (sg 48 0)) ) mt_X5_mix e_44 rfl ml_X5_229 im_X5_mix se_X5_mix (by decide) rfl (Nat.le_of_ble_eq_true rfl) dX5_digest_21 ?_
  refine g_eq (sg' := sg) (L' := [(1, .int (nI 0)), (0, .ref (ad w 44))]) (S' := []) rfl rfl rfl rfl ?_
  refine g_tuE (tu' := (mxs 2892 (toT sg) 1)) (mxs_s rfl rfl) ?_
  refine g_iinc C (n := 1) (v := (nI 1)) (L' := [(1, .int (nI 1)), (0, .ref (ad w 44))]) 0 rfl (nI_add 0 1) (by decide) rfl dX5_digest_24 ?_
  refine g_goto C (tgt := 9) (by decide) dX5_digest_27 ?_
  refine g_iload_n C 0 rfl rfl dX5_digest_9 ?_
  refine g_iconst C (v := (nI 5)) (by decide) dX5_digest_10 ?_
  refine g_icmpN_ge C 1 5 (by omega) (by omega) (tgt := 30) (by decide) dX5_digest_11 (fun h11 => absurd h11 (by decide)) (fun h11 => ?_)
  refine g_aload_n C 1 rfl rfl dX5_digest_14 ?_
  refine g_aload_n C 1 rfl rfl dX5_digest_15 ?_
  refine g_iload_n C 0 rfl rfl dX5_digest_16 ?_
  refine g_callV1 [.ref (ad w 44)] C (c_X5_toldAt_1 w (mxs 2892 (toT sg) 1) sg  ) mt_X5_toldAt e_44 rfl ml_X5_218 im_X5_toldAt se_X5_toldAt (by decide) rfl (Nat.le_of_ble_eq_true rfl) dX5_digest_17 ?_
  refine g_eq (L' := [(1, .int (nI 1)), (0, .ref (ad w 44))]) (S' := [.int (sg 48 1), .ref (ad w 44)]) rfl rfl rfl rfl ?_
  refine g_i2l C dX5_digest_20 ?_
  refine g_callV0 [] C (c_X5_mix w (mxs 2892 (toT sg) 1) sg (Int32.toInt64 (sg 48 1)) ) mt_X5_mix e_44 rfl ml_X5_229 im_X5_mix se_X5_mix (by decide) rfl (Nat.le_of_ble_eq_true rfl) dX5_digest_21 ?_
  refine g_eq (sg' := sg) (L' := [(1, .int (nI 1)), (0, .ref (ad w 44))]) (S' := []) rfl rfl rfl rfl ?_
  refine g_tuE (tu' := (mxs 2892 (toT sg) 2)) (mxs_s rfl rfl) ?_
  refine g_iinc C (n := 1) (v := (nI 2)) (L' := [(1, .int (nI 2)), (0, .ref (ad w 44))]) 0 rfl (nI_add 1 1) (by decide) rfl dX5_digest_24 ?_
  refine g_goto C (tgt := 9) (by decide) dX5_digest_27 ?_
  refine g_iload_n C 0 rfl rfl dX5_digest_9 ?_
  refine g_iconst C (v := (nI 5)) (by decide) dX5_digest_10 ?_
  refine g_icmpN_ge C 2 5 (by omega) (by omega) (tgt := 30) (by decide) dX5_digest_11 (fun h11 => absurd h11 (by decide)) (fun h11 => ?_)
  refine g_aload_n C 1 rfl rfl dX5_digest_14 ?_
  refine g_aload_n C 1 rfl rfl dX5_digest_15 ?_
  refine g_iload_n C 0 rfl rfl dX5_digest_16 ?_
  refine g_callV1 [.ref (ad w 44)] C (c_X5_toldAt_2 w (mxs 2892 (toT sg) 2) sg  ) mt_X5_toldAt e_44 rfl ml_X5_218 im_X5_toldAt se_X5_toldAt (by decide) rfl (Nat.le_of_ble_eq_true rfl) dX5_digest_17 ?_
  refine g_eq (L' := [(1, .int (nI 2)), (0, .ref (ad w 44))]) (S' := [.int (sg 48 2), .ref (ad w 44)]) rfl rfl rfl rfl ?_
  refine g_i2l C dX5_digest_20 ?_
  refine g_callV0 [] C (c_X5_mix w (mxs 2892 (toT sg) 2) sg (Int32.toInt64 (sg 48 2)) ) mt_X5_mix e_44 rfl ml_X5_229 im_X5_mix se_X5_mix (by decide) rfl (Nat.le_of_ble_eq_true rfl) dX5_digest_21 ?_
  refine g_eq (sg' := sg) (L' := [(1, .int (nI 2)), (0, .ref (ad w 44))]) (S' := []) rfl rfl rfl rfl ?_
  refine g_tuE (tu' := (mxs 2892 (toT sg) 3)) (mxs_s rfl rfl) ?_
  refine g_iinc C (n := 1) (v := (nI 3)) (L' := [(1, .int (nI 3)), (0, .ref (ad w 44))]) 0 rfl (nI_add 2 1) (by decide) rfl dX5_digest_24 ?_
  refine g_goto C (tgt := 9) (by decide) dX5_digest_27 ?_
  refine g_iload_n C 0 rfl rfl dX5_digest_9 ?_
  refine g_iconst C (v := (nI 5)) (by decide) dX5_digest_10 ?_
  refine g_icmpN_ge C 3 5 (by omega) (by omega) (tgt := 30) (by decide) dX5_digest_11 (fun h11 => absurd h11 (by decide)) (fun h11 => ?_)
  refine g_aload_n C 1 rfl rfl dX5_digest_14 ?_
  refine g_aload_n C 1 rfl rfl dX5_digest_15 ?_
  refine g_iload_n C 0 rfl rfl dX5_digest_16 ?_
  refine g_callV1 [.ref (ad w 44)] C (c_X5_toldAt_3 w (mxs 2892 (toT sg) 3) sg  ) mt_X5_toldAt e_44 rfl ml_X5_218 im_X5_toldAt se_X5_toldAt (by decide) rfl (Nat.le_of_ble_eq_true rfl) dX5_digest_17 ?_
  refine g_eq (L' := [(1, .int (nI 3)), (0, .ref (ad w 44))]) (S' := [.int (sg 44 6), .ref (ad w 44)]) rfl rfl rfl rfl ?_
  refine g_i2l C dX5_digest_20 ?_
  refine g_callV0 [] C (c_X5_mix w (mxs 2892 (toT sg) 3) sg (Int32.toInt64 (sg 44 6)) ) mt_X5_mix e_44 rfl ml_X5_229 im_X5_mix se_X5_mix (by decide) rfl (Nat.le_of_ble_eq_true rfl) dX5_digest_21 ?_
  refine g_eq (sg' := sg) (L' := [(1, .int (nI 3)), (0, .ref (ad w 44))]) (S' := []) rfl rfl rfl rfl ?_
  refine g_tuE (tu' := (mxs 2892 (toT sg) 4)) (mxs_s rfl rfl) ?_
  refine g_iinc C (n := 1) (v := (nI 4)) (L' := [(1, .int (nI 4)), (0, .ref (ad w 44))]) 0 rfl (nI_add 3 1) (by decide) rfl dX5_digest_24 ?_
  refine g_goto C (tgt := 9) (by decide) dX5_digest_27 ?_
  refine g_iload_n C 0 rfl rfl dX5_digest_9 ?_
  refine g_iconst C (v := (nI 5)) (by decide) dX5_digest_10 ?_
  refine g_icmpN_ge C 4 5 (by omega) (by omega) (tgt := 30) (by decide) dX5_digest_11 (fun h11 => absurd h11 (by decide)) (fun h11 => ?_)
  refine g_aload_n C 1 rfl rfl dX5_digest_14 ?_
  refine g_aload_n C 1 rfl rfl dX5_digest_15 ?_
  refine g_iload_n C 0 rfl rfl dX5_digest_16 ?_
  refine g_callV1 [.ref (ad w 44)] C (c_X5_toldAt_4 w (mxs 2892 (toT sg) 4) sg  ) mt_X5_toldAt e_44 rfl ml_X5_218 im_X5_toldAt se_X5_toldAt (by decide) rfl (Nat.le_of_ble_eq_true rfl) dX5_digest_17 ?_
  refine g_eq (L' := [(1, .int (nI 4)), (0, .ref (ad w 44))]) (S' := [.int (sg 44 3), .ref (ad w 44)]) rfl rfl rfl rfl ?_
  refine g_i2l C dX5_digest_20 ?_
  refine g_callV0 [] C (c_X5_mix w (mxs 2892 (toT sg) 4) sg (Int32.toInt64 (sg 44 3)) ) mt_X5_mix e_44 rfl ml_X5_229 im_X5_mix se_X5_mix (by decide) rfl (Nat.le_of_ble_eq_true rfl) dX5_digest_21 ?_
  refine g_eq (sg' := sg) (L' := [(1, .int (nI 4)), (0, .ref (ad w 44))]) (S' := []) rfl rfl rfl rfl ?_
  refine g_tuE (tu' := (mxs 2892 (toT sg) 5)) (mxs_s rfl rfl) ?_
  refine g_iinc C (n := 1) (v := (nI 5)) (L' := [(1, .int (nI 5)), (0, .ref (ad w 44))]) 0 rfl (nI_add 4 1) (by decide) rfl dX5_digest_24 ?_
  refine g_goto C (tgt := 9) (by decide) dX5_digest_27 ?_
  refine g_iload_n C 0 rfl rfl dX5_digest_9 ?_
  refine g_iconst C (v := (nI 5)) (by decide) dX5_digest_10 ?_
  refine g_icmpN_ge C 5 5 (by omega) (by omega) (tgt := 30) (by decide) dX5_digest_11 (fun h11 => ?_) (fun h11 => absurd h11 (by decide))
  refine g_tuE (tu' := (mxs (dgA (toT sg)) (cnT (sg 45)) 0)) ((dgA_e _).trans (mxs_0 _ _)) ?_
  refine g_iconst C (v := (nI 0)) (by decide) dX5_digest_30 ?_
  refine g_istore_n C (L' := [(1, .int (nI 0)), (0, .ref (ad w 44))]) rfl (by decide) rfl dX5_digest_31 ?_
  exact dgs_B0 C E hok
