theorem ex1_s {v : Int64} {n : Nat} {f : Nat → Int32} {d i : Nat} {q : Int32 × Int32 × Int32} (h : 1 ≤ i) : ex1 v n f d i q = exS v n f d i (ex1 v n f d (i - 1) q) := by
  obtain ⟨j, rfl⟩ : ∃ j, i = j + 1 := ⟨i - 1, by omega⟩
  rfl
theorem us_nrm {sg : Sg} {a b : Nat} {A' B B' : Nat → Int32} (h : a ≠ b) : us (us (us sg b B) a A') b B' = us (us sg a A') b B' := by
  rw [us_comm (sg := sg) (Ne.symm h), us_us]
theorem us_in {sg : Sg} {a b : Nat} {A B A0 : Nat → Int32} (h : a ≠ b) (e : A = A0) : us (us sg a A) b B = us (us sg b B) a A0 := by rw [us_comm h, e]
/-- the gifts laid, were tooth t of drum d alone worn -/
def gwI (f : Nat → Int32) (d t : Nat) : Nat → Int32 := fun e => whX (if e = d then nI 1 <<< (nI t &&& 31) else nI 0) (dN f e + 1)
theorem exS_n {v : Int64} {n : Nat} {f : Nat → Int32} {d t : Nat} {q : Int32 × Int32 × Int32} (h : ¬ trv (gw f d t) (reN f) n = v) : exS v n f d t q = q := if_neg h
theorem exS_y {v : Int64} {n : Nat} {f : Nat → Int32} {d t : Nat} {q : Int32 × Int32 × Int32} (h : trv (gw f d t) (reN f) n = v) : exS v n f d t q = (q.1 + nI 1, (if q.2.1 = (-1) then nI (10 * d + t) else q.2.1), nI (10 * d + t)) := if_pos h
theorem sq2 {sg : Sg} {A A' B B' : Nat → Int32} (hA : ∀ e, e < 6 → A e = A' e) (hB : ∀ k, k < 12 → B k = B' k) : Sq (us (us sg 50 A) 51 B) (us (us sg 50 A') 51 B') := by
  intro k j hj
  by_cases h1 : k = 51
  · subst h1; rw [us_same, us_same]; exact hB j hj
  · rw [us_ne h1, us_ne h1]
    by_cases h0 : k = 50
    · subst h0; rw [us_same, us_same]; exact hA j hj
    · rw [us_ne h0, us_ne h0]
set_option maxRecDepth 100000 in
set_option maxHeartbeats 400000 in
theorem c_X5_explained_0 (w : GW) (tu : Int64) (sg : Sg) (v : Int64) (n : Nat) (hn : n ≤ 99) (hok : ROk (sg 45)) : Kt w yX5_explained cX5_explained 11 (some .int) 2 [.ref (ad w 44), .long v, .int (nI n), .int (nI 0)] sg tu (some (.int ((ex6 v n (sg 45) 6).1))) (us (us sg 50 (gwI (sg 45) 5 9)) 51 (emb 0 (twI (gw (sg 45) 5 9) (reN (sg 45)) n) (sg 51))) tu := by
  refine Kt.of2 RX5 rfl [(0, .ref (ad w 44)), (1, .long v), (3, .int (nI n)), (4, .int (nI 0))] (by decide) rfl (Nat.le_of_ble_eq_true rfl) (fun z C E => ?_)
  refine g_iconst C (v := (nI 0)) (by decide) dX5_explained_0 ?_
  refine g_istore C (L' := [(5, .int (nI 0)), (0, .ref (ad w 44)), (1, .long v), (3, .int (nI n)), (4, .int (nI 0))]) (by decide) rfl dX5_explained_1 ?_
  refine g_iconst C (v := (-1)) (by decide) dX5_explained_3 ?_
  refine g_istore C (L' := [(6, .int (-1)), (5, .int (nI 0)), (0, .ref (ad w 44)), (1, .long v), (3, .int (nI n)), (4, .int (nI 0))]) (by decide) rfl dX5_explained_4 ?_
  refine g_iconst C (v := (-1)) (by decide) dX5_explained_6 ?_
  refine g_istore C (L' := [(7, .int (-1)), (6, .int (-1)), (5, .int (nI 0)), (0, .ref (ad w 44)), (1, .long v), (3, .int (nI n)), (4, .int (nI 0))]) (by decide) rfl dX5_explained_7 ?_
  refine g_iconst C (v := (nI 0)) (by decide) dX5_explained_9 ?_
  refine g_istore C (L' := [(8, .int (nI 0)), (7, .int (-1)), (6, .int (-1)), (5, .int (nI 0)), (0, .ref (ad w 44)), (1, .long v), (3, .int (nI n)), (4, .int (nI 0))]) (by decide) rfl dX5_explained_10 ?_
  refine g_sgE (sg' := (us (us sg 50 (sg 50)) 51 (sg 51))) (by rw [us_id]; exact us_id.symm) ?_
  have lpd : ∀ (nf d : Nat) (A : Nat → Int32) (B : Nat → Int32) (m : Int32) (l : Int32) (gr : Int32), 6 < d + nf → d ≤ 6 → (ex6 v n (sg 45) d = (m, l, gr) ∧ (0 < d → (∀ e, e < 6 → A e = gwI (sg 45) (d - 1) 9 e) ∧ ∀ k, k < 12 → B k = nI (twI (gw (sg 45) (d - 1) 9) (reN (sg 45)) n k))) → G z w 11 (us (us sg 50 A) 51 B) tu 12 [(8, .int (nI d)), (7, .int gr), (6, .int l), (5, .int m), (0, .ref (ad w 44)), (1, .long v), (3, .int (nI n)), (4, .int (nI 0))] [] := by
    intro nf
    induction nf with
    | zero => intro d A B m l gr h1 h2 hI; exact absurd h1 (by omega)
    | succ nf ihlpd =>
      intro d A B m l gr h1 h2 hI
      refine g_iload C 0 rfl dX5_explained_12 ?_
      refine g_bipush C (v := (nI 6)) (by decide) dX5_explained_14 ?_
      refine g_icmpN_ge C d 6 (by omega) (by omega) (tgt := 135) (by decide) dX5_explained_16 (fun h16 => ?_) (fun h16 => ?_)
      ·
        have hiN : 6 = d := by omega
        subst hiN
        refine g_iload C 7 rfl dX5_explained_135 ?_
        refine g_if_ne C (tgt := 145) (by decide) dX5_explained_137 (fun h137 => absurd h137 (by decide)) (fun h137 => ?_)
        refine g_iload C 3 rfl dX5_explained_140 ?_
        refine g_goto C (tgt := 158) (by decide) dX5_explained_142 ?_
        exact g_iret C E dX5_explained_158 (by rw [hI.1]) (sq2 (hI.2 (by decide)).1 (fun k hk => ((hI.2 (by decide)).2 k hk).trans (by have h9 := emb_in (b := 0) (v := twI (gw (sg 45) 5 9) (reN (sg 45)) n) (old := sg 51) hk; rw [Nat.zero_add] at h9; exact h9.symm))) rfl
      ·
        refine g_iconst C (v := (nI 1)) (by decide) dX5_explained_19 ?_
        refine g_istore C (L' := [(9, .int (nI 1)), (8, .int (nI d)), (7, .int gr), (6, .int l), (5, .int m), (0, .ref (ad w 44)), (1, .long v), (3, .int (nI n)), (4, .int (nI 0))]) (by decide) rfl dX5_explained_20 ?_
        have hd6 : d < 6 := by omega
        have lpt : ∀ (nf t : Nat) (A : Nat → Int32) (B : Nat → Int32) (m : Int32) (l : Int32) (gr : Int32), 10 < t + nf → t ≤ 10 → (1 ≤ t ∧ ex1 v n (sg 45) d (t - 1) (ex6 v n (sg 45) d) = (m, l, gr) ∧ (1 < t → (∀ e, e < 6 → A e = gwI (sg 45) d (t - 1) e) ∧ ∀ k, k < 12 → B k = nI (twI (gw (sg 45) d (t - 1)) (reN (sg 45)) n k))) → G z w 11 (us (us sg 50 A) 51 B) tu 22 [(9, .int (nI t)), (8, .int (nI d)), (7, .int gr), (6, .int l), (5, .int m), (0, .ref (ad w 44)), (1, .long v), (3, .int (nI n)), (4, .int (nI 0))] [] := by
          intro nf
          induction nf with
          | zero => intro t A B m l gr h1 h2 hI; exact absurd h1 (by omega)
          | succ nf ihlpt =>
            intro t A B m l gr h1 h2 hI
            refine g_iload C 0 rfl dX5_explained_22 ?_
            refine g_bipush C (v := (nI 10)) (by decide) dX5_explained_24 ?_
            refine g_icmpN_ge C t 10 (by omega) (by omega) (tgt := 129) (by decide) dX5_explained_26 (fun h26 => ?_) (fun h26 => ?_)
            ·
              have hiN : 10 = t := by omega
              subst hiN
              have hI : ex6 v n (sg 45) (d + 1) = (m, l, gr) ∧ (1 < 10 → (∀ e, e < 6 → A e = gwI (sg 45) d 9 e) ∧ ∀ k, k < 12 → B k = nI (twI (gw (sg 45) d 9) (reN (sg 45)) n k)) := ⟨hI.2.1, fun _ => hI.2.2 (by decide)⟩
              refine g_iinc C (n := 1) (v := (nI (d + 1))) (L' := [(8, .int (nI (d + 1))), (9, .int (nI 10)), (7, .int gr), (6, .int l), (5, .int m), (0, .ref (ad w 44)), (1, .long v), (3, .int (nI n)), (4, .int (nI 0))]) 1 rfl (nI_add d 1) (by decide) rfl dX5_explained_129 ?_
              refine g_goto C (tgt := 12) (by decide) dX5_explained_132 ?_
              refine g_sub (L' := [(8, .int (nI (d + 1))), (7, .int gr), (6, .int l), (5, .int m), (0, .ref (ad w 44)), (1, .long v), (3, .int (nI n)), (4, .int (nI 0))]) [0, 2, 3, 4, 5, 6, 7, 8] rfl ?_
              exact ihlpd (d + 1) A B m l gr (by omega) (by omega) (⟨hI.1, fun _ => hI.2 (by decide)⟩)
            ·
              refine g_iconst C (v := (nI 0)) (by decide) dX5_explained_29 ?_
              refine g_istore C (L' := [(10, .int (nI 0)), (9, .int (nI t)), (8, .int (nI d)), (7, .int gr), (6, .int l), (5, .int m), (0, .ref (ad w 44)), (1, .long v), (3, .int (nI n)), (4, .int (nI 0))]) (by decide) rfl dX5_explained_30 ?_
              have hM := hI
              have lpe : ∀ (nf e : Nat), 6 < e + nf → e ≤ 6 → (True) → G z w 11 (us (us sg 51 B) 50 (fw 0 (gwI (sg 45) d t) A e)) tu 32 [(10, .int (nI e)), (9, .int (nI t)), (8, .int (nI d)), (7, .int gr), (6, .int l), (5, .int m), (0, .ref (ad w 44)), (1, .long v), (3, .int (nI n)), (4, .int (nI 0))] [] := by
                intro nf
                induction nf with
                | zero => intro e  h1 h2 hI; exact absurd h1 (by omega)
                | succ nf ihlpe =>
                  intro e  h1 h2 hI
                  refine g_iload C 0 rfl dX5_explained_32 ?_
                  refine g_bipush C (v := (nI 6)) (by decide) dX5_explained_34 ?_
                  refine g_icmpN_ge C e 6 (by omega) (by omega) (tgt := 79) (by decide) dX5_explained_36 (fun h36 => ?_) (fun h36 => ?_)
                  ·
                    have hiN : 6 = e := by omega
                    subst hiN
                    refine g_aload_n C 6 rfl rfl dX5_explained_79 ?_
                    refine g_iload_n C 8 rfl rfl dX5_explained_80 ?_
                    refine g_callV1 [] C (c_X5_tries w tu (us (us sg 51 B) 50 (fw 0 (gwI (sg 45) d t) A 6)) n (gw (sg 45) d t) (reN (sg 45)) hn hok.2.2.2.2.1 hok.2.2.2.2.2 (fun i hi => (fw_in ⟨Nat.zero_le _, by omega⟩).trans (gw_ok hok hi).1) (fun i hi => (gw_ok hok hi).2)) mt_X5_tries e_44 rfl ml_X5_167 im_X5_tries se_X5_tries (by decide) rfl (Nat.le_of_ble_eq_true rfl) dX5_explained_81 ?_
                    refine g_eq (sg' := (us (us (us sg 51 B) 50 (fw 0 (gwI (sg 45) d t) A 6)) 51 (emb 0 (twI (gw (sg 45) d t) (reN (sg 45)) n) B))) (L' := [(10, .int (nI 6)), (9, .int (nI t)), (8, .int (nI d)), (7, .int gr), (6, .int l), (5, .int m), (0, .ref (ad w 44)), (1, .long v), (3, .int (nI n)), (4, .int (nI 0))]) (S' := [.long (trv (gw (sg 45) d t) (reN (sg 45)) n)]) rfl rfl rfl rfl ?_
                    refine g_lload_n C 7 rfl rfl dX5_explained_84 ?_
                    refine g_lcmp C dX5_explained_85 ?_
                    refine g_lif_ne C (tgt := 123) (by decide) dX5_explained_86 (fun h86 => ?_) (fun h86 => ?_)
                    ·
                      refine g_iinc C (n := 1) (v := (nI (t + 1))) (L' := [(9, .int (nI (t + 1))), (10, .int (nI 6)), (8, .int (nI d)), (7, .int gr), (6, .int l), (5, .int m), (0, .ref (ad w 44)), (1, .long v), (3, .int (nI n)), (4, .int (nI 0))]) 1 rfl (nI_add t 1) (by decide) rfl dX5_explained_123 ?_
                      refine g_goto C (tgt := 22) (by decide) dX5_explained_126 ?_
                      refine g_sub (L' := [(9, .int (nI (t + 1))), (8, .int (nI d)), (7, .int gr), (6, .int l), (5, .int m), (0, .ref (ad w 44)), (1, .long v), (3, .int (nI n)), (4, .int (nI 0))]) [0, 2, 3, 4, 5, 6, 7, 8, 9] rfl ?_
                      refine g_sgE (sg' := (us (us sg 50 (fw 0 (gwI (sg 45) d t) A 6)) 51 (emb 0 (twI (gw (sg 45) d t) (reN (sg 45)) n) B))) (us_nrm (by decide)) ?_
                      exact ihlpt (t + 1) (fw 0 (gwI (sg 45) d t) A 6) (emb 0 (twI (gw (sg 45) d t) (reN (sg 45)) n) B) m l gr (by omega) (by omega) (⟨by omega, by rw [show t + 1 - 1 = t from rfl, ex1_s hM.1, hM.2.1, exS_n h86], fun _ => ⟨fun e he => fw_in ⟨Nat.zero_le _, by omega⟩, fun k hk => by have h9 := emb_in (b := 0) (v := twI (gw (sg 45) d t) (reN (sg 45)) n) (old := B) hk; rw [Nat.zero_add] at h9; exact h9⟩⟩)
                    ·
                      refine g_iinc C (n := 1) (v := (m + 1)) (L' := [(5, .int (m + 1)), (10, .int (nI 6)), (9, .int (nI t)), (8, .int (nI d)), (7, .int gr), (6, .int l), (0, .ref (ad w 44)), (1, .long v), (3, .int (nI n)), (4, .int (nI 0))]) 5 rfl rfl (by decide) rfl dX5_explained_89 ?_
                      refine g_iload C 5 rfl dX5_explained_92 ?_
                      refine g_iconst C (v := (-1)) (by decide) dX5_explained_94 ?_
                      refine g_icmp_ne C (tgt := 109) (by decide) dX5_explained_95 (fun h95 => ?_) (fun h95 => ?_)
                      ·
                        refine g_iload C 5 rfl dX5_explained_109 ?_
                        refine g_istore C (L' := [(6, .int l), (5, .int (m + 1)), (10, .int (nI 6)), (9, .int (nI t)), (8, .int (nI d)), (7, .int gr), (0, .ref (ad w 44)), (1, .long v), (3, .int (nI n)), (4, .int (nI 0))]) (by decide) rfl dX5_explained_111 ?_
                        refine g_bipush C (v := (nI 10)) (by decide) dX5_explained_113 ?_
                        refine g_iload C 4 rfl dX5_explained_115 ?_
                        refine g_imul C dX5_explained_117 ?_
                        refine g_top (y := (nI (10 * d))) (pk_mul 10 d) ?_
                        refine g_iload C 3 rfl dX5_explained_118 ?_
                        refine g_iadd C dX5_explained_120 ?_
                        refine g_top (y := (nI ((10 * d) + t))) (nI_add (10 * d) t) ?_
                        refine g_istore C (L' := [(7, .int (nI ((10 * d) + t))), (6, .int l), (5, .int (m + 1)), (10, .int (nI 6)), (9, .int (nI t)), (8, .int (nI d)), (0, .ref (ad w 44)), (1, .long v), (3, .int (nI n)), (4, .int (nI 0))]) (by decide) rfl dX5_explained_121 ?_
                        refine g_iinc C (n := 1) (v := (nI (t + 1))) (L' := [(9, .int (nI (t + 1))), (7, .int (nI ((10 * d) + t))), (6, .int l), (5, .int (m + 1)), (10, .int (nI 6)), (8, .int (nI d)), (0, .ref (ad w 44)), (1, .long v), (3, .int (nI n)), (4, .int (nI 0))]) 4 rfl (nI_add t 1) (by decide) rfl dX5_explained_123 ?_
                        refine g_goto C (tgt := 22) (by decide) dX5_explained_126 ?_
                        refine g_sub (L' := [(9, .int (nI (t + 1))), (8, .int (nI d)), (7, .int (nI ((10 * d) + t))), (6, .int l), (5, .int (m + 1)), (0, .ref (ad w 44)), (1, .long v), (3, .int (nI n)), (4, .int (nI 0))]) [0, 5, 1, 2, 3, 6, 7, 8, 9] rfl ?_
                        refine g_sgE (sg' := (us (us sg 50 (fw 0 (gwI (sg 45) d t) A 6)) 51 (emb 0 (twI (gw (sg 45) d t) (reN (sg 45)) n) B))) (us_nrm (by decide)) ?_
                        exact ihlpt (t + 1) (fw 0 (gwI (sg 45) d t) A 6) (emb 0 (twI (gw (sg 45) d t) (reN (sg 45)) n) B) (m + 1) l (nI ((10 * d) + t)) (by omega) (by omega) (⟨by omega, by rw [show t + 1 - 1 = t from rfl, ex1_s hM.1, hM.2.1, exS_y h86, if_neg h95]; rfl, fun _ => ⟨fun e he => fw_in ⟨Nat.zero_le _, by omega⟩, fun k hk => by have h9 := emb_in (b := 0) (v := twI (gw (sg 45) d t) (reN (sg 45)) n) (old := B) hk; rw [Nat.zero_add] at h9; exact h9⟩⟩)
                      ·
                        refine g_bipush C (v := (nI 10)) (by decide) dX5_explained_98 ?_
                        refine g_iload C 3 rfl dX5_explained_100 ?_
                        refine g_imul C dX5_explained_102 ?_
                        refine g_top (y := (nI (10 * d))) (pk_mul 10 d) ?_
                        refine g_iload C 2 rfl dX5_explained_103 ?_
                        refine g_iadd C dX5_explained_105 ?_
                        refine g_top (y := (nI ((10 * d) + t))) (nI_add (10 * d) t) ?_
                        refine g_goto C (tgt := 111) (by decide) dX5_explained_106 ?_
                        refine g_istore C (L' := [(6, .int (nI ((10 * d) + t))), (5, .int (m + 1)), (10, .int (nI 6)), (9, .int (nI t)), (8, .int (nI d)), (7, .int gr), (0, .ref (ad w 44)), (1, .long v), (3, .int (nI n)), (4, .int (nI 0))]) (by decide) rfl dX5_explained_111 ?_
                        refine g_bipush C (v := (nI 10)) (by decide) dX5_explained_113 ?_
                        refine g_iload C 4 rfl dX5_explained_115 ?_
                        refine g_imul C dX5_explained_117 ?_
                        refine g_top (y := (nI (10 * d))) (pk_mul 10 d) ?_
                        refine g_iload C 3 rfl dX5_explained_118 ?_
                        refine g_iadd C dX5_explained_120 ?_
                        refine g_top (y := (nI ((10 * d) + t))) (nI_add (10 * d) t) ?_
                        refine g_istore C (L' := [(7, .int (nI ((10 * d) + t))), (6, .int (nI ((10 * d) + t))), (5, .int (m + 1)), (10, .int (nI 6)), (9, .int (nI t)), (8, .int (nI d)), (0, .ref (ad w 44)), (1, .long v), (3, .int (nI n)), (4, .int (nI 0))]) (by decide) rfl dX5_explained_121 ?_
                        refine g_iinc C (n := 1) (v := (nI (t + 1))) (L' := [(9, .int (nI (t + 1))), (7, .int (nI ((10 * d) + t))), (6, .int (nI ((10 * d) + t))), (5, .int (m + 1)), (10, .int (nI 6)), (8, .int (nI d)), (0, .ref (ad w 44)), (1, .long v), (3, .int (nI n)), (4, .int (nI 0))]) 4 rfl (nI_add t 1) (by decide) rfl dX5_explained_123 ?_
                        refine g_goto C (tgt := 22) (by decide) dX5_explained_126 ?_
                        refine g_sub (L' := [(9, .int (nI (t + 1))), (8, .int (nI d)), (7, .int (nI ((10 * d) + t))), (6, .int (nI ((10 * d) + t))), (5, .int (m + 1)), (0, .ref (ad w 44)), (1, .long v), (3, .int (nI n)), (4, .int (nI 0))]) [0, 5, 1, 2, 3, 6, 7, 8, 9] rfl ?_
                        refine g_sgE (sg' := (us (us sg 50 (fw 0 (gwI (sg 45) d t) A 6)) 51 (emb 0 (twI (gw (sg 45) d t) (reN (sg 45)) n) B))) (us_nrm (by decide)) ?_
                        exact ihlpt (t + 1) (fw 0 (gwI (sg 45) d t) A 6) (emb 0 (twI (gw (sg 45) d t) (reN (sg 45)) n) B) (m + 1) (nI ((10 * d) + t)) (nI ((10 * d) + t)) (by omega) (by omega) (⟨by omega, by rw [show t + 1 - 1 = t from rfl, ex1_s hM.1, hM.2.1, exS_y h86, if_pos h95]; rfl, fun _ => ⟨fun e he => fw_in ⟨Nat.zero_le _, by omega⟩, fun k hk => by have h9 := emb_in (b := 0) (v := twI (gw (sg 45) d t) (reN (sg 45)) n) (old := B) hk; rw [Nat.zero_add] at h9; exact h9⟩⟩)
                  ·
                    refine g_aload_n C 6 rfl rfl dX5_explained_39 ?_
                    refine g_getR C (j := 7) cls5 e_44 rfl (by decide) fl_X5_25 dX5_explained_40 ?_
                    refine g_iload C 0 rfl dX5_explained_43 ?_
                    refine g_aload_n C 6 rfl rfl dX5_explained_45 ?_
                    refine g_getR C (j := 0) cls5 e_44 rfl (by decide) fl_X5_7 dX5_explained_46 ?_
                    refine g_iconst C (v := (nI 0)) (by decide) dX5_explained_49 ?_
                    refine g_iload C 0 rfl dX5_explained_50 ?_
                    refine g_iadd C dX5_explained_52 ?_
                    refine g_top (y := (nI e)) (by rw [nI_add, Nat.zero_add]) ?_
                    refine g_ialdN C e e_45 (by omega) (by decide) dX5_explained_53 ?_
                    refine g_top (y := (sg 45 e)) rfl ?_
                    refine g_top (y := (nI (dN (sg 45) e))) (hok.1 e (by omega)).1 ?_
                    refine g_iload C 0 rfl dX5_explained_54 ?_
                    refine g_iload C 2 rfl dX5_explained_56 ?_
                    refine g_icmpN_ne C e d (by omega) (by omega) (tgt := 68) (by decide) dX5_explained_58 (fun h58 => ?_) (fun h58 => ?_)
                    ·
                      refine g_iconst C (v := (nI 0)) (by decide) dX5_explained_68 ?_
                      refine g_callS1 [.int (nI e), .ref (ad w 50)] C (c_X5_whole w tu (us (us sg 51 B) 50 (fw 0 (gwI (sg 45) d t) A e)) (dN (sg 45) e) (nI 0) (hok.1 e (by omega)).2) mt_X5_whole ml_X5_57 st_X5_whole (by decide) rfl (Nat.le_of_ble_eq_true rfl) dX5_explained_69 ?_
                      refine g_eq (L' := [(10, .int (nI e)), (9, .int (nI t)), (8, .int (nI d)), (7, .int gr), (6, .int l), (5, .int m), (0, .ref (ad w 44)), (1, .long v), (3, .int (nI n)), (4, .int (nI 0))]) (S' := [.int (whX (nI 0) ((dN (sg 45) e) + 1)), .int (nI e), .ref (ad w 50)]) rfl rfl rfl rfl ?_
                      refine g_iastN C e e_50 (by omega) (by decide) dX5_explained_72 ?_
                      refine g_sgE (sg' := (us (us sg 51 B) 50 (upd (fw 0 (gwI (sg 45) d t) A e) e (whX (nI 0) ((dN (sg 45) e) + 1))))) us_us ?_
                      refine g_iinc C (n := 1) (v := (nI (e + 1))) (L' := [(10, .int (nI (e + 1))), (9, .int (nI t)), (8, .int (nI d)), (7, .int gr), (6, .int l), (5, .int m), (0, .ref (ad w 44)), (1, .long v), (3, .int (nI n)), (4, .int (nI 0))]) 0 rfl (nI_add e 1) (by decide) rfl dX5_explained_73 ?_
                      refine g_goto C (tgt := 32) (by decide) dX5_explained_76 ?_
                      refine g_sub (L' := [(10, .int (nI (e + 1))), (9, .int (nI t)), (8, .int (nI d)), (7, .int gr), (6, .int l), (5, .int m), (0, .ref (ad w 44)), (1, .long v), (3, .int (nI n)), (4, .int (nI 0))]) [0, 1, 2, 3, 4, 5, 6, 7, 8, 9] rfl ?_
                      refine g_sgE (sg' := (us (us sg 51 B) 50 (fw 0 (gwI (sg 45) d t) A (e + 1)))) (congrArg (us _ 50) (fw_s0 (by show _ = whX (if e = d then _ else _) _; rw [if_neg h58]))) ?_
                      exact ihlpe (e + 1)  (by omega) (by omega) trivial
                    ·
                      refine g_iconst C (v := (nI 1)) (by decide) dX5_explained_61 ?_
                      refine g_iload C 1 rfl dX5_explained_62 ?_
                      refine g_ishl C dX5_explained_64 ?_
                      refine g_goto C (tgt := 69) (by decide) dX5_explained_65 ?_
                      refine g_callS1 [.int (nI e), .ref (ad w 50)] C (c_X5_whole w tu (us (us sg 51 B) 50 (fw 0 (gwI (sg 45) d t) A e)) (dN (sg 45) e) ((nI 1) <<< ((nI t) &&& 31)) (hok.1 e (by omega)).2) mt_X5_whole ml_X5_57 st_X5_whole (by decide) rfl (Nat.le_of_ble_eq_true rfl) dX5_explained_69 ?_
                      refine g_eq (L' := [(10, .int (nI e)), (9, .int (nI t)), (8, .int (nI d)), (7, .int gr), (6, .int l), (5, .int m), (0, .ref (ad w 44)), (1, .long v), (3, .int (nI n)), (4, .int (nI 0))]) (S' := [.int (whX ((nI 1) <<< ((nI t) &&& 31)) ((dN (sg 45) e) + 1)), .int (nI e), .ref (ad w 50)]) rfl rfl rfl rfl ?_
                      refine g_iastN C e e_50 (by omega) (by decide) dX5_explained_72 ?_
                      refine g_sgE (sg' := (us (us sg 51 B) 50 (upd (fw 0 (gwI (sg 45) d t) A e) e (whX ((nI 1) <<< ((nI t) &&& 31)) ((dN (sg 45) e) + 1))))) us_us ?_
                      refine g_iinc C (n := 1) (v := (nI (e + 1))) (L' := [(10, .int (nI (e + 1))), (9, .int (nI t)), (8, .int (nI d)), (7, .int gr), (6, .int l), (5, .int m), (0, .ref (ad w 44)), (1, .long v), (3, .int (nI n)), (4, .int (nI 0))]) 0 rfl (nI_add e 1) (by decide) rfl dX5_explained_73 ?_
                      refine g_goto C (tgt := 32) (by decide) dX5_explained_76 ?_
                      refine g_sub (L' := [(10, .int (nI (e + 1))), (9, .int (nI t)), (8, .int (nI d)), (7, .int gr), (6, .int l), (5, .int m), (0, .ref (ad w 44)), (1, .long v), (3, .int (nI n)), (4, .int (nI 0))]) [0, 1, 2, 3, 4, 5, 6, 7, 8, 9] rfl ?_
                      refine g_sgE (sg' := (us (us sg 51 B) 50 (fw 0 (gwI (sg 45) d t) A (e + 1)))) (congrArg (us _ 50) (fw_s0 (by show _ = whX (if e = d then _ else _) _; rw [if_pos h58]))) ?_
                      exact ihlpe (e + 1)  (by omega) (by omega) trivial
              refine g_sgE (sg' := (us (us sg 51 B) 50 (fw 0 (gwI (sg 45) d t) A 0))) (us_in (by decide) fw_0.symm) ?_
              exact lpe (6 + 1) 0  (by omega) (by omega) trivial
        refine g_sub (L' := [(9, .int (nI 1)), (8, .int (nI d)), (7, .int gr), (6, .int l), (5, .int m), (0, .ref (ad w 44)), (1, .long v), (3, .int (nI n)), (4, .int (nI 0))]) [0, 1, 2, 3, 4, 5, 6, 7, 8] rfl ?_
        exact lpt (10 + 1) 1 A B m l gr (by omega) (by omega) (⟨Nat.le_refl _, hI.1, fun q => absurd q (by decide)⟩)
  refine g_sub (L' := [(8, .int (nI 0)), (7, .int (-1)), (6, .int (-1)), (5, .int (nI 0)), (0, .ref (ad w 44)), (1, .long v), (3, .int (nI n)), (4, .int (nI 0))]) [0, 1, 2, 3, 4, 5, 6, 7] rfl ?_
  exact lpd (6 + 1) 0 (sg 50) (sg 51) (nI 0) (-1) (-1) (by omega) (by omega) (⟨rfl, fun q => absurd q (by decide)⟩)
set_option maxRecDepth 100000 in
set_option maxHeartbeats 400000 in
theorem c_X5_explains_0 (w : GW) (tu : Int64) (sg : Sg) (v : Int64) (n : Nat) (hv : 0 ≤ v ∧ v ≤ 999999999999) (hn1 : 1 ≤ n) (hn : n ≤ 99) (hok : ROk (sg 45)) : Kt w yX5_explains cX5_explains 6 (some .int) 3 [.ref (ad w 44), .long v, .int (nI n), .int (nI 0)] sg tu (some (.int ((ex6 v n (sg 45) 6).1))) (us (us sg 50 (gwI (sg 45) 5 9)) 51 (emb 0 (twI (gw (sg 45) 5 9) (reN (sg 45)) n) (sg 51))) tu := by
  refine Kt.of2 RX5 rfl [(0, .ref (ad w 44)), (1, .long v), (3, .int (nI n)), (4, .int (nI 0))] (by decide) rfl (Nat.le_of_ble_eq_true rfl) (fun z C E => ?_)
  refine g_lload_n C 1 rfl rfl dX5_explains_0 ?_
  refine g_lconst C (v := 0) (by decide) dX5_explains_1 ?_
  refine g_ldc2 C cn_X5_110 dX5_explains_2 ?_
  refine g_callS1 [] C (c_X5_in_t w tu sg v 0 999999999999 hv) mt_X5_in ml_X5_53 st_X5_in (by decide) rfl (Nat.le_of_ble_eq_true rfl) dX5_explains_5 ?_
  refine g_eq (L' := [(0, .ref (ad w 44)), (1, .long v), (3, .int (nI n)), (4, .int (nI 0))]) (S' := [.int (nI 1)]) rfl rfl rfl rfl ?_
  refine g_if_eq C (tgt := 40) (by decide) dX5_explains_8 (fun h8 => absurd h8 (by decide)) (fun h8 => ?_)
  refine g_iload_n C 2 rfl rfl dX5_explains_11 ?_
  refine g_i2l C dX5_explains_12 ?_
  refine g_lconst C (v := 1) (by decide) dX5_explains_13 ?_
  refine g_ldc2 C cn_X5_65 dX5_explains_14 ?_
  refine g_callS1 [] C (c_X5_in_t w tu sg (Int32.toInt64 (nI n)) 1 99 (in_ok1 (n := 99) (by omega) (by omega) (by decide))) mt_X5_in ml_X5_53 st_X5_in (by decide) rfl (Nat.le_of_ble_eq_true rfl) dX5_explains_17 ?_
  refine g_eq (L' := [(0, .ref (ad w 44)), (1, .long v), (3, .int (nI n)), (4, .int (nI 0))]) (S' := [.int (nI 1)]) rfl rfl rfl rfl ?_
  refine g_if_eq C (tgt := 40) (by decide) dX5_explains_20 (fun h20 => absurd h20 (by decide)) (fun h20 => ?_)
  refine g_iload C 3 rfl dX5_explains_23 ?_
  refine g_i2l C dX5_explains_25 ?_
  refine g_lconst C (v := 0) (by decide) dX5_explains_26 ?_
  refine g_ldc2 C cn_X5_151 dX5_explains_27 ?_
  refine g_callS1 [] C (c_X5_in_t w tu sg (Int32.toInt64 (nI 0)) 0 2 (in_ok (n := 2) (by omega) (by decide))) mt_X5_in ml_X5_53 st_X5_in (by decide) rfl (Nat.le_of_ble_eq_true rfl) dX5_explains_30 ?_
  refine g_eq (L' := [(0, .ref (ad w 44)), (1, .long v), (3, .int (nI n)), (4, .int (nI 0))]) (S' := [.int (nI 1)]) rfl rfl rfl rfl ?_
  refine g_if_eq C (tgt := 40) (by decide) dX5_explains_33 (fun h33 => absurd h33 (by decide)) (fun h33 => ?_)
  refine g_iconst C (v := (nI 1)) (by decide) dX5_explains_36 ?_
  refine g_goto C (tgt := 41) (by decide) dX5_explains_37 ?_
  refine g_istore C (L' := [(5, .int (nI 1)), (0, .ref (ad w 44)), (1, .long v), (3, .int (nI n)), (4, .int (nI 0))]) (by decide) rfl dX5_explains_41 ?_
  refine g_iload C 0 rfl dX5_explains_43 ?_
  refine g_if_eq C (tgt := 59) (by decide) dX5_explains_45 (fun h45 => absurd h45 (by decide)) (fun h45 => ?_)
  refine g_aload_n C 1 rfl rfl dX5_explains_48 ?_
  refine g_lload_n C 2 rfl rfl dX5_explains_49 ?_
  refine g_iload_n C 3 rfl rfl dX5_explains_50 ?_
  refine g_iload C 4 rfl dX5_explains_51 ?_
  refine g_callV1 [] C (c_X5_explained_0 w tu sg v n hn hok) mt_X5_explained e_44 rfl ml_X5_174 im_X5_explained se_X5_explained (by decide) rfl (Nat.le_of_ble_eq_true rfl) dX5_explains_53 ?_
  refine g_eq (sg' := (us (us sg 50 (gwI (sg 45) 5 9)) 51 (emb 0 (twI (gw (sg 45) 5 9) (reN (sg 45)) n) (sg 51)))) (L' := [(5, .int (nI 1)), (0, .ref (ad w 44)), (1, .long v), (3, .int (nI n)), (4, .int (nI 0))]) (S' := [.int ((ex6 v n (sg 45) 6).1)]) rfl rfl rfl rfl ?_
  refine g_goto C (tgt := 65) (by decide) dX5_explains_56 ?_
  exact g_iret C E dX5_explains_65 rfl Sq.rf rfl
set_option maxRecDepth 100000 in
set_option maxHeartbeats 400000 in
theorem c_X5_explained_1 (w : GW) (tu : Int64) (sg : Sg) (v : Int64) (n : Nat) (hn : n ≤ 99) (hok : ROk (sg 45)) : Kt w yX5_explained cX5_explained 11 (some .int) 2 [.ref (ad w 44), .long v, .int (nI n), .int (nI 1)] sg tu (some (.int ((ex6 v n (sg 45) 6).2.1))) (us (us sg 50 (gwI (sg 45) 5 9)) 51 (emb 0 (twI (gw (sg 45) 5 9) (reN (sg 45)) n) (sg 51))) tu := by
  refine Kt.of2 RX5 rfl [(0, .ref (ad w 44)), (1, .long v), (3, .int (nI n)), (4, .int (nI 1))] (by decide) rfl (Nat.le_of_ble_eq_true rfl) (fun z C E => ?_)
  refine g_iconst C (v := (nI 0)) (by decide) dX5_explained_0 ?_
  refine g_istore C (L' := [(5, .int (nI 0)), (0, .ref (ad w 44)), (1, .long v), (3, .int (nI n)), (4, .int (nI 1))]) (by decide) rfl dX5_explained_1 ?_
  refine g_iconst C (v := (-1)) (by decide) dX5_explained_3 ?_
  refine g_istore C (L' := [(6, .int (-1)), (5, .int (nI 0)), (0, .ref (ad w 44)), (1, .long v), (3, .int (nI n)), (4, .int (nI 1))]) (by decide) rfl dX5_explained_4 ?_
  refine g_iconst C (v := (-1)) (by decide) dX5_explained_6 ?_
  refine g_istore C (L' := [(7, .int (-1)), (6, .int (-1)), (5, .int (nI 0)), (0, .ref (ad w 44)), (1, .long v), (3, .int (nI n)), (4, .int (nI 1))]) (by decide) rfl dX5_explained_7 ?_
  refine g_iconst C (v := (nI 0)) (by decide) dX5_explained_9 ?_
  refine g_istore C (L' := [(8, .int (nI 0)), (7, .int (-1)), (6, .int (-1)), (5, .int (nI 0)), (0, .ref (ad w 44)), (1, .long v), (3, .int (nI n)), (4, .int (nI 1))]) (by decide) rfl dX5_explained_10 ?_
  refine g_sgE (sg' := (us (us sg 50 (sg 50)) 51 (sg 51))) (by rw [us_id]; exact us_id.symm) ?_
  have lpd : ∀ (nf d : Nat) (A : Nat → Int32) (B : Nat → Int32) (m : Int32) (l : Int32) (gr : Int32), 6 < d + nf → d ≤ 6 → (ex6 v n (sg 45) d = (m, l, gr) ∧ (0 < d → (∀ e, e < 6 → A e = gwI (sg 45) (d - 1) 9 e) ∧ ∀ k, k < 12 → B k = nI (twI (gw (sg 45) (d - 1) 9) (reN (sg 45)) n k))) → G z w 11 (us (us sg 50 A) 51 B) tu 12 [(8, .int (nI d)), (7, .int gr), (6, .int l), (5, .int m), (0, .ref (ad w 44)), (1, .long v), (3, .int (nI n)), (4, .int (nI 1))] [] := by
    intro nf
    induction nf with
    | zero => intro d A B m l gr h1 h2 hI; exact absurd h1 (by omega)
    | succ nf ihlpd =>
      intro d A B m l gr h1 h2 hI
      refine g_iload C 0 rfl dX5_explained_12 ?_
      refine g_bipush C (v := (nI 6)) (by decide) dX5_explained_14 ?_
      refine g_icmpN_ge C d 6 (by omega) (by omega) (tgt := 135) (by decide) dX5_explained_16 (fun h16 => ?_) (fun h16 => ?_)
      ·
        have hiN : 6 = d := by omega
        subst hiN
        refine g_iload C 7 rfl dX5_explained_135 ?_
        refine g_if_ne C (tgt := 145) (by decide) dX5_explained_137 (fun h137 => ?_) (fun h137 => absurd h137 (by decide))
        refine g_iload C 7 rfl dX5_explained_145 ?_
        refine g_iconst C (v := (nI 1)) (by decide) dX5_explained_147 ?_
        refine g_icmpN_ne C 1 1 (by omega) (by omega) (tgt := 156) (by decide) dX5_explained_148 (fun h148 => absurd h148 (by decide)) (fun h148 => ?_)
        refine g_iload C 2 rfl dX5_explained_151 ?_
        refine g_goto C (tgt := 158) (by decide) dX5_explained_153 ?_
        exact g_iret C E dX5_explained_158 (by rw [hI.1]) (sq2 (hI.2 (by decide)).1 (fun k hk => ((hI.2 (by decide)).2 k hk).trans (by have h9 := emb_in (b := 0) (v := twI (gw (sg 45) 5 9) (reN (sg 45)) n) (old := sg 51) hk; rw [Nat.zero_add] at h9; exact h9.symm))) rfl
      ·
        refine g_iconst C (v := (nI 1)) (by decide) dX5_explained_19 ?_
        refine g_istore C (L' := [(9, .int (nI 1)), (8, .int (nI d)), (7, .int gr), (6, .int l), (5, .int m), (0, .ref (ad w 44)), (1, .long v), (3, .int (nI n)), (4, .int (nI 1))]) (by decide) rfl dX5_explained_20 ?_
        have hd6 : d < 6 := by omega
        have lpt : ∀ (nf t : Nat) (A : Nat → Int32) (B : Nat → Int32) (m : Int32) (l : Int32) (gr : Int32), 10 < t + nf → t ≤ 10 → (1 ≤ t ∧ ex1 v n (sg 45) d (t - 1) (ex6 v n (sg 45) d) = (m, l, gr) ∧ (1 < t → (∀ e, e < 6 → A e = gwI (sg 45) d (t - 1) e) ∧ ∀ k, k < 12 → B k = nI (twI (gw (sg 45) d (t - 1)) (reN (sg 45)) n k))) → G z w 11 (us (us sg 50 A) 51 B) tu 22 [(9, .int (nI t)), (8, .int (nI d)), (7, .int gr), (6, .int l), (5, .int m), (0, .ref (ad w 44)), (1, .long v), (3, .int (nI n)), (4, .int (nI 1))] [] := by
          intro nf
          induction nf with
          | zero => intro t A B m l gr h1 h2 hI; exact absurd h1 (by omega)
          | succ nf ihlpt =>
            intro t A B m l gr h1 h2 hI
            refine g_iload C 0 rfl dX5_explained_22 ?_
            refine g_bipush C (v := (nI 10)) (by decide) dX5_explained_24 ?_
            refine g_icmpN_ge C t 10 (by omega) (by omega) (tgt := 129) (by decide) dX5_explained_26 (fun h26 => ?_) (fun h26 => ?_)
            ·
              have hiN : 10 = t := by omega
              subst hiN
              have hI : ex6 v n (sg 45) (d + 1) = (m, l, gr) ∧ (1 < 10 → (∀ e, e < 6 → A e = gwI (sg 45) d 9 e) ∧ ∀ k, k < 12 → B k = nI (twI (gw (sg 45) d 9) (reN (sg 45)) n k)) := ⟨hI.2.1, fun _ => hI.2.2 (by decide)⟩
              refine g_iinc C (n := 1) (v := (nI (d + 1))) (L' := [(8, .int (nI (d + 1))), (9, .int (nI 10)), (7, .int gr), (6, .int l), (5, .int m), (0, .ref (ad w 44)), (1, .long v), (3, .int (nI n)), (4, .int (nI 1))]) 1 rfl (nI_add d 1) (by decide) rfl dX5_explained_129 ?_
              refine g_goto C (tgt := 12) (by decide) dX5_explained_132 ?_
              refine g_sub (L' := [(8, .int (nI (d + 1))), (7, .int gr), (6, .int l), (5, .int m), (0, .ref (ad w 44)), (1, .long v), (3, .int (nI n)), (4, .int (nI 1))]) [0, 2, 3, 4, 5, 6, 7, 8] rfl ?_
              exact ihlpd (d + 1) A B m l gr (by omega) (by omega) (⟨hI.1, fun _ => hI.2 (by decide)⟩)
            ·
              refine g_iconst C (v := (nI 0)) (by decide) dX5_explained_29 ?_
              refine g_istore C (L' := [(10, .int (nI 0)), (9, .int (nI t)), (8, .int (nI d)), (7, .int gr), (6, .int l), (5, .int m), (0, .ref (ad w 44)), (1, .long v), (3, .int (nI n)), (4, .int (nI 1))]) (by decide) rfl dX5_explained_30 ?_
              have hM := hI
              have lpe : ∀ (nf e : Nat), 6 < e + nf → e ≤ 6 → (True) → G z w 11 (us (us sg 51 B) 50 (fw 0 (gwI (sg 45) d t) A e)) tu 32 [(10, .int (nI e)), (9, .int (nI t)), (8, .int (nI d)), (7, .int gr), (6, .int l), (5, .int m), (0, .ref (ad w 44)), (1, .long v), (3, .int (nI n)), (4, .int (nI 1))] [] := by
                intro nf
                induction nf with
                | zero => intro e  h1 h2 hI; exact absurd h1 (by omega)
                | succ nf ihlpe =>
                  intro e  h1 h2 hI
                  refine g_iload C 0 rfl dX5_explained_32 ?_
                  refine g_bipush C (v := (nI 6)) (by decide) dX5_explained_34 ?_
                  refine g_icmpN_ge C e 6 (by omega) (by omega) (tgt := 79) (by decide) dX5_explained_36 (fun h36 => ?_) (fun h36 => ?_)
                  ·
                    have hiN : 6 = e := by omega
                    subst hiN
                    refine g_aload_n C 6 rfl rfl dX5_explained_79 ?_
                    refine g_iload_n C 8 rfl rfl dX5_explained_80 ?_
                    refine g_callV1 [] C (c_X5_tries w tu (us (us sg 51 B) 50 (fw 0 (gwI (sg 45) d t) A 6)) n (gw (sg 45) d t) (reN (sg 45)) hn hok.2.2.2.2.1 hok.2.2.2.2.2 (fun i hi => (fw_in ⟨Nat.zero_le _, by omega⟩).trans (gw_ok hok hi).1) (fun i hi => (gw_ok hok hi).2)) mt_X5_tries e_44 rfl ml_X5_167 im_X5_tries se_X5_tries (by decide) rfl (Nat.le_of_ble_eq_true rfl) dX5_explained_81 ?_
                    refine g_eq (sg' := (us (us (us sg 51 B) 50 (fw 0 (gwI (sg 45) d t) A 6)) 51 (emb 0 (twI (gw (sg 45) d t) (reN (sg 45)) n) B))) (L' := [(10, .int (nI 6)), (9, .int (nI t)), (8, .int (nI d)), (7, .int gr), (6, .int l), (5, .int m), (0, .ref (ad w 44)), (1, .long v), (3, .int (nI n)), (4, .int (nI 1))]) (S' := [.long (trv (gw (sg 45) d t) (reN (sg 45)) n)]) rfl rfl rfl rfl ?_
                    refine g_lload_n C 7 rfl rfl dX5_explained_84 ?_
                    refine g_lcmp C dX5_explained_85 ?_
                    refine g_lif_ne C (tgt := 123) (by decide) dX5_explained_86 (fun h86 => ?_) (fun h86 => ?_)
                    ·
                      refine g_iinc C (n := 1) (v := (nI (t + 1))) (L' := [(9, .int (nI (t + 1))), (10, .int (nI 6)), (8, .int (nI d)), (7, .int gr), (6, .int l), (5, .int m), (0, .ref (ad w 44)), (1, .long v), (3, .int (nI n)), (4, .int (nI 1))]) 1 rfl (nI_add t 1) (by decide) rfl dX5_explained_123 ?_
                      refine g_goto C (tgt := 22) (by decide) dX5_explained_126 ?_
                      refine g_sub (L' := [(9, .int (nI (t + 1))), (8, .int (nI d)), (7, .int gr), (6, .int l), (5, .int m), (0, .ref (ad w 44)), (1, .long v), (3, .int (nI n)), (4, .int (nI 1))]) [0, 2, 3, 4, 5, 6, 7, 8, 9] rfl ?_
                      refine g_sgE (sg' := (us (us sg 50 (fw 0 (gwI (sg 45) d t) A 6)) 51 (emb 0 (twI (gw (sg 45) d t) (reN (sg 45)) n) B))) (us_nrm (by decide)) ?_
                      exact ihlpt (t + 1) (fw 0 (gwI (sg 45) d t) A 6) (emb 0 (twI (gw (sg 45) d t) (reN (sg 45)) n) B) m l gr (by omega) (by omega) (⟨by omega, by rw [show t + 1 - 1 = t from rfl, ex1_s hM.1, hM.2.1, exS_n h86], fun _ => ⟨fun e he => fw_in ⟨Nat.zero_le _, by omega⟩, fun k hk => by have h9 := emb_in (b := 0) (v := twI (gw (sg 45) d t) (reN (sg 45)) n) (old := B) hk; rw [Nat.zero_add] at h9; exact h9⟩⟩)
                    ·
                      refine g_iinc C (n := 1) (v := (m + 1)) (L' := [(5, .int (m + 1)), (10, .int (nI 6)), (9, .int (nI t)), (8, .int (nI d)), (7, .int gr), (6, .int l), (0, .ref (ad w 44)), (1, .long v), (3, .int (nI n)), (4, .int (nI 1))]) 5 rfl rfl (by decide) rfl dX5_explained_89 ?_
                      refine g_iload C 5 rfl dX5_explained_92 ?_
                      refine g_iconst C (v := (-1)) (by decide) dX5_explained_94 ?_
                      refine g_icmp_ne C (tgt := 109) (by decide) dX5_explained_95 (fun h95 => ?_) (fun h95 => ?_)
                      ·
                        refine g_iload C 5 rfl dX5_explained_109 ?_
                        refine g_istore C (L' := [(6, .int l), (5, .int (m + 1)), (10, .int (nI 6)), (9, .int (nI t)), (8, .int (nI d)), (7, .int gr), (0, .ref (ad w 44)), (1, .long v), (3, .int (nI n)), (4, .int (nI 1))]) (by decide) rfl dX5_explained_111 ?_
                        refine g_bipush C (v := (nI 10)) (by decide) dX5_explained_113 ?_
                        refine g_iload C 4 rfl dX5_explained_115 ?_
                        refine g_imul C dX5_explained_117 ?_
                        refine g_top (y := (nI (10 * d))) (pk_mul 10 d) ?_
                        refine g_iload C 3 rfl dX5_explained_118 ?_
                        refine g_iadd C dX5_explained_120 ?_
                        refine g_top (y := (nI ((10 * d) + t))) (nI_add (10 * d) t) ?_
                        refine g_istore C (L' := [(7, .int (nI ((10 * d) + t))), (6, .int l), (5, .int (m + 1)), (10, .int (nI 6)), (9, .int (nI t)), (8, .int (nI d)), (0, .ref (ad w 44)), (1, .long v), (3, .int (nI n)), (4, .int (nI 1))]) (by decide) rfl dX5_explained_121 ?_
                        refine g_iinc C (n := 1) (v := (nI (t + 1))) (L' := [(9, .int (nI (t + 1))), (7, .int (nI ((10 * d) + t))), (6, .int l), (5, .int (m + 1)), (10, .int (nI 6)), (8, .int (nI d)), (0, .ref (ad w 44)), (1, .long v), (3, .int (nI n)), (4, .int (nI 1))]) 4 rfl (nI_add t 1) (by decide) rfl dX5_explained_123 ?_
                        refine g_goto C (tgt := 22) (by decide) dX5_explained_126 ?_
                        refine g_sub (L' := [(9, .int (nI (t + 1))), (8, .int (nI d)), (7, .int (nI ((10 * d) + t))), (6, .int l), (5, .int (m + 1)), (0, .ref (ad w 44)), (1, .long v), (3, .int (nI n)), (4, .int (nI 1))]) [0, 5, 1, 2, 3, 6, 7, 8, 9] rfl ?_
                        refine g_sgE (sg' := (us (us sg 50 (fw 0 (gwI (sg 45) d t) A 6)) 51 (emb 0 (twI (gw (sg 45) d t) (reN (sg 45)) n) B))) (us_nrm (by decide)) ?_
                        exact ihlpt (t + 1) (fw 0 (gwI (sg 45) d t) A 6) (emb 0 (twI (gw (sg 45) d t) (reN (sg 45)) n) B) (m + 1) l (nI ((10 * d) + t)) (by omega) (by omega) (⟨by omega, by rw [show t + 1 - 1 = t from rfl, ex1_s hM.1, hM.2.1, exS_y h86, if_neg h95]; rfl, fun _ => ⟨fun e he => fw_in ⟨Nat.zero_le _, by omega⟩, fun k hk => by have h9 := emb_in (b := 0) (v := twI (gw (sg 45) d t) (reN (sg 45)) n) (old := B) hk; rw [Nat.zero_add] at h9; exact h9⟩⟩)
                      ·
                        refine g_bipush C (v := (nI 10)) (by decide) dX5_explained_98 ?_
                        refine g_iload C 3 rfl dX5_explained_100 ?_
                        refine g_imul C dX5_explained_102 ?_
                        refine g_top (y := (nI (10 * d))) (pk_mul 10 d) ?_
                        refine g_iload C 2 rfl dX5_explained_103 ?_
                        refine g_iadd C dX5_explained_105 ?_
                        refine g_top (y := (nI ((10 * d) + t))) (nI_add (10 * d) t) ?_
                        refine g_goto C (tgt := 111) (by decide) dX5_explained_106 ?_
                        refine g_istore C (L' := [(6, .int (nI ((10 * d) + t))), (5, .int (m + 1)), (10, .int (nI 6)), (9, .int (nI t)), (8, .int (nI d)), (7, .int gr), (0, .ref (ad w 44)), (1, .long v), (3, .int (nI n)), (4, .int (nI 1))]) (by decide) rfl dX5_explained_111 ?_
                        refine g_bipush C (v := (nI 10)) (by decide) dX5_explained_113 ?_
                        refine g_iload C 4 rfl dX5_explained_115 ?_
                        refine g_imul C dX5_explained_117 ?_
                        refine g_top (y := (nI (10 * d))) (pk_mul 10 d) ?_
                        refine g_iload C 3 rfl dX5_explained_118 ?_
                        refine g_iadd C dX5_explained_120 ?_
                        refine g_top (y := (nI ((10 * d) + t))) (nI_add (10 * d) t) ?_
                        refine g_istore C (L' := [(7, .int (nI ((10 * d) + t))), (6, .int (nI ((10 * d) + t))), (5, .int (m + 1)), (10, .int (nI 6)), (9, .int (nI t)), (8, .int (nI d)), (0, .ref (ad w 44)), (1, .long v), (3, .int (nI n)), (4, .int (nI 1))]) (by decide) rfl dX5_explained_121 ?_
                        refine g_iinc C (n := 1) (v := (nI (t + 1))) (L' := [(9, .int (nI (t + 1))), (7, .int (nI ((10 * d) + t))), (6, .int (nI ((10 * d) + t))), (5, .int (m + 1)), (10, .int (nI 6)), (8, .int (nI d)), (0, .ref (ad w 44)), (1, .long v), (3, .int (nI n)), (4, .int (nI 1))]) 4 rfl (nI_add t 1) (by decide) rfl dX5_explained_123 ?_
                        refine g_goto C (tgt := 22) (by decide) dX5_explained_126 ?_
                        refine g_sub (L' := [(9, .int (nI (t + 1))), (8, .int (nI d)), (7, .int (nI ((10 * d) + t))), (6, .int (nI ((10 * d) + t))), (5, .int (m + 1)), (0, .ref (ad w 44)), (1, .long v), (3, .int (nI n)), (4, .int (nI 1))]) [0, 5, 1, 2, 3, 6, 7, 8, 9] rfl ?_
                        refine g_sgE (sg' := (us (us sg 50 (fw 0 (gwI (sg 45) d t) A 6)) 51 (emb 0 (twI (gw (sg 45) d t) (reN (sg 45)) n) B))) (us_nrm (by decide)) ?_
                        exact ihlpt (t + 1) (fw 0 (gwI (sg 45) d t) A 6) (emb 0 (twI (gw (sg 45) d t) (reN (sg 45)) n) B) (m + 1) (nI ((10 * d) + t)) (nI ((10 * d) + t)) (by omega) (by omega) (⟨by omega, by rw [show t + 1 - 1 = t from rfl, ex1_s hM.1, hM.2.1, exS_y h86, if_pos h95]; rfl, fun _ => ⟨fun e he => fw_in ⟨Nat.zero_le _, by omega⟩, fun k hk => by have h9 := emb_in (b := 0) (v := twI (gw (sg 45) d t) (reN (sg 45)) n) (old := B) hk; rw [Nat.zero_add] at h9; exact h9⟩⟩)
                  ·
                    refine g_aload_n C 6 rfl rfl dX5_explained_39 ?_
                    refine g_getR C (j := 7) cls5 e_44 rfl (by decide) fl_X5_25 dX5_explained_40 ?_
                    refine g_iload C 0 rfl dX5_explained_43 ?_
                    refine g_aload_n C 6 rfl rfl dX5_explained_45 ?_
                    refine g_getR C (j := 0) cls5 e_44 rfl (by decide) fl_X5_7 dX5_explained_46 ?_
                    refine g_iconst C (v := (nI 0)) (by decide) dX5_explained_49 ?_
                    refine g_iload C 0 rfl dX5_explained_50 ?_
                    refine g_iadd C dX5_explained_52 ?_
                    refine g_top (y := (nI e)) (by rw [nI_add, Nat.zero_add]) ?_
                    refine g_ialdN C e e_45 (by omega) (by decide) dX5_explained_53 ?_
                    refine g_top (y := (sg 45 e)) rfl ?_
                    refine g_top (y := (nI (dN (sg 45) e))) (hok.1 e (by omega)).1 ?_
                    refine g_iload C 0 rfl dX5_explained_54 ?_
                    refine g_iload C 2 rfl dX5_explained_56 ?_
                    refine g_icmpN_ne C e d (by omega) (by omega) (tgt := 68) (by decide) dX5_explained_58 (fun h58 => ?_) (fun h58 => ?_)
                    ·
                      refine g_iconst C (v := (nI 0)) (by decide) dX5_explained_68 ?_
                      refine g_callS1 [.int (nI e), .ref (ad w 50)] C (c_X5_whole w tu (us (us sg 51 B) 50 (fw 0 (gwI (sg 45) d t) A e)) (dN (sg 45) e) (nI 0) (hok.1 e (by omega)).2) mt_X5_whole ml_X5_57 st_X5_whole (by decide) rfl (Nat.le_of_ble_eq_true rfl) dX5_explained_69 ?_
                      refine g_eq (L' := [(10, .int (nI e)), (9, .int (nI t)), (8, .int (nI d)), (7, .int gr), (6, .int l), (5, .int m), (0, .ref (ad w 44)), (1, .long v), (3, .int (nI n)), (4, .int (nI 1))]) (S' := [.int (whX (nI 0) ((dN (sg 45) e) + 1)), .int (nI e), .ref (ad w 50)]) rfl rfl rfl rfl ?_
                      refine g_iastN C e e_50 (by omega) (by decide) dX5_explained_72 ?_
                      refine g_sgE (sg' := (us (us sg 51 B) 50 (upd (fw 0 (gwI (sg 45) d t) A e) e (whX (nI 0) ((dN (sg 45) e) + 1))))) us_us ?_
                      refine g_iinc C (n := 1) (v := (nI (e + 1))) (L' := [(10, .int (nI (e + 1))), (9, .int (nI t)), (8, .int (nI d)), (7, .int gr), (6, .int l), (5, .int m), (0, .ref (ad w 44)), (1, .long v), (3, .int (nI n)), (4, .int (nI 1))]) 0 rfl (nI_add e 1) (by decide) rfl dX5_explained_73 ?_
                      refine g_goto C (tgt := 32) (by decide) dX5_explained_76 ?_
                      refine g_sub (L' := [(10, .int (nI (e + 1))), (9, .int (nI t)), (8, .int (nI d)), (7, .int gr), (6, .int l), (5, .int m), (0, .ref (ad w 44)), (1, .long v), (3, .int (nI n)), (4, .int (nI 1))]) [0, 1, 2, 3, 4, 5, 6, 7, 8, 9] rfl ?_
                      refine g_sgE (sg' := (us (us sg 51 B) 50 (fw 0 (gwI (sg 45) d t) A (e + 1)))) (congrArg (us _ 50) (fw_s0 (by show _ = whX (if e = d then _ else _) _; rw [if_neg h58]))) ?_
                      exact ihlpe (e + 1)  (by omega) (by omega) trivial
                    ·
                      refine g_iconst C (v := (nI 1)) (by decide) dX5_explained_61 ?_
                      refine g_iload C 1 rfl dX5_explained_62 ?_
                      refine g_ishl C dX5_explained_64 ?_
                      refine g_goto C (tgt := 69) (by decide) dX5_explained_65 ?_
                      refine g_callS1 [.int (nI e), .ref (ad w 50)] C (c_X5_whole w tu (us (us sg 51 B) 50 (fw 0 (gwI (sg 45) d t) A e)) (dN (sg 45) e) ((nI 1) <<< ((nI t) &&& 31)) (hok.1 e (by omega)).2) mt_X5_whole ml_X5_57 st_X5_whole (by decide) rfl (Nat.le_of_ble_eq_true rfl) dX5_explained_69 ?_
                      refine g_eq (L' := [(10, .int (nI e)), (9, .int (nI t)), (8, .int (nI d)), (7, .int gr), (6, .int l), (5, .int m), (0, .ref (ad w 44)), (1, .long v), (3, .int (nI n)), (4, .int (nI 1))]) (S' := [.int (whX ((nI 1) <<< ((nI t) &&& 31)) ((dN (sg 45) e) + 1)), .int (nI e), .ref (ad w 50)]) rfl rfl rfl rfl ?_
                      refine g_iastN C e e_50 (by omega) (by decide) dX5_explained_72 ?_
                      refine g_sgE (sg' := (us (us sg 51 B) 50 (upd (fw 0 (gwI (sg 45) d t) A e) e (whX ((nI 1) <<< ((nI t) &&& 31)) ((dN (sg 45) e) + 1))))) us_us ?_
                      refine g_iinc C (n := 1) (v := (nI (e + 1))) (L' := [(10, .int (nI (e + 1))), (9, .int (nI t)), (8, .int (nI d)), (7, .int gr), (6, .int l), (5, .int m), (0, .ref (ad w 44)), (1, .long v), (3, .int (nI n)), (4, .int (nI 1))]) 0 rfl (nI_add e 1) (by decide) rfl dX5_explained_73 ?_
                      refine g_goto C (tgt := 32) (by decide) dX5_explained_76 ?_
                      refine g_sub (L' := [(10, .int (nI (e + 1))), (9, .int (nI t)), (8, .int (nI d)), (7, .int gr), (6, .int l), (5, .int m), (0, .ref (ad w 44)), (1, .long v), (3, .int (nI n)), (4, .int (nI 1))]) [0, 1, 2, 3, 4, 5, 6, 7, 8, 9] rfl ?_
                      refine g_sgE (sg' := (us (us sg 51 B) 50 (fw 0 (gwI (sg 45) d t) A (e + 1)))) (congrArg (us _ 50) (fw_s0 (by show _ = whX (if e = d then _ else _) _; rw [if_pos h58]))) ?_
                      exact ihlpe (e + 1)  (by omega) (by omega) trivial
              refine g_sgE (sg' := (us (us sg 51 B) 50 (fw 0 (gwI (sg 45) d t) A 0))) (us_in (by decide) fw_0.symm) ?_
              exact lpe (6 + 1) 0  (by omega) (by omega) trivial
        refine g_sub (L' := [(9, .int (nI 1)), (8, .int (nI d)), (7, .int gr), (6, .int l), (5, .int m), (0, .ref (ad w 44)), (1, .long v), (3, .int (nI n)), (4, .int (nI 1))]) [0, 1, 2, 3, 4, 5, 6, 7, 8] rfl ?_
        exact lpt (10 + 1) 1 A B m l gr (by omega) (by omega) (⟨Nat.le_refl _, hI.1, fun q => absurd q (by decide)⟩)
  refine g_sub (L' := [(8, .int (nI 0)), (7, .int (-1)), (6, .int (-1)), (5, .int (nI 0)), (0, .ref (ad w 44)), (1, .long v), (3, .int (nI n)), (4, .int (nI 1))]) [0, 1, 2, 3, 4, 5, 6, 7] rfl ?_
  exact lpd (6 + 1) 0 (sg 50) (sg 51) (nI 0) (-1) (-1) (by omega) (by omega) (⟨rfl, fun q => absurd q (by decide)⟩)
set_option maxRecDepth 100000 in
set_option maxHeartbeats 400000 in
theorem c_X5_explains_1 (w : GW) (tu : Int64) (sg : Sg) (v : Int64) (n : Nat) (hv : 0 ≤ v ∧ v ≤ 999999999999) (hn1 : 1 ≤ n) (hn : n ≤ 99) (hok : ROk (sg 45)) : Kt w yX5_explains cX5_explains 6 (some .int) 3 [.ref (ad w 44), .long v, .int (nI n), .int (nI 1)] sg tu (some (.int ((ex6 v n (sg 45) 6).2.1))) (us (us sg 50 (gwI (sg 45) 5 9)) 51 (emb 0 (twI (gw (sg 45) 5 9) (reN (sg 45)) n) (sg 51))) tu := by
  refine Kt.of2 RX5 rfl [(0, .ref (ad w 44)), (1, .long v), (3, .int (nI n)), (4, .int (nI 1))] (by decide) rfl (Nat.le_of_ble_eq_true rfl) (fun z C E => ?_)
  refine g_lload_n C 1 rfl rfl dX5_explains_0 ?_
  refine g_lconst C (v := 0) (by decide) dX5_explains_1 ?_
  refine g_ldc2 C cn_X5_110 dX5_explains_2 ?_
  refine g_callS1 [] C (c_X5_in_t w tu sg v 0 999999999999 hv) mt_X5_in ml_X5_53 st_X5_in (by decide) rfl (Nat.le_of_ble_eq_true rfl) dX5_explains_5 ?_
  refine g_eq (L' := [(0, .ref (ad w 44)), (1, .long v), (3, .int (nI n)), (4, .int (nI 1))]) (S' := [.int (nI 1)]) rfl rfl rfl rfl ?_
  refine g_if_eq C (tgt := 40) (by decide) dX5_explains_8 (fun h8 => absurd h8 (by decide)) (fun h8 => ?_)
  refine g_iload_n C 2 rfl rfl dX5_explains_11 ?_
  refine g_i2l C dX5_explains_12 ?_
  refine g_lconst C (v := 1) (by decide) dX5_explains_13 ?_
  refine g_ldc2 C cn_X5_65 dX5_explains_14 ?_
  refine g_callS1 [] C (c_X5_in_t w tu sg (Int32.toInt64 (nI n)) 1 99 (in_ok1 (n := 99) (by omega) (by omega) (by decide))) mt_X5_in ml_X5_53 st_X5_in (by decide) rfl (Nat.le_of_ble_eq_true rfl) dX5_explains_17 ?_
  refine g_eq (L' := [(0, .ref (ad w 44)), (1, .long v), (3, .int (nI n)), (4, .int (nI 1))]) (S' := [.int (nI 1)]) rfl rfl rfl rfl ?_
  refine g_if_eq C (tgt := 40) (by decide) dX5_explains_20 (fun h20 => absurd h20 (by decide)) (fun h20 => ?_)
  refine g_iload C 3 rfl dX5_explains_23 ?_
  refine g_i2l C dX5_explains_25 ?_
  refine g_lconst C (v := 0) (by decide) dX5_explains_26 ?_
  refine g_ldc2 C cn_X5_151 dX5_explains_27 ?_
  refine g_callS1 [] C (c_X5_in_t w tu sg (Int32.toInt64 (nI 1)) 0 2 (in_ok (n := 2) (by omega) (by decide))) mt_X5_in ml_X5_53 st_X5_in (by decide) rfl (Nat.le_of_ble_eq_true rfl) dX5_explains_30 ?_
  refine g_eq (L' := [(0, .ref (ad w 44)), (1, .long v), (3, .int (nI n)), (4, .int (nI 1))]) (S' := [.int (nI 1)]) rfl rfl rfl rfl ?_
  refine g_if_eq C (tgt := 40) (by decide) dX5_explains_33 (fun h33 => absurd h33 (by decide)) (fun h33 => ?_)
  refine g_iconst C (v := (nI 1)) (by decide) dX5_explains_36 ?_
  refine g_goto C (tgt := 41) (by decide) dX5_explains_37 ?_
  refine g_istore C (L' := [(5, .int (nI 1)), (0, .ref (ad w 44)), (1, .long v), (3, .int (nI n)), (4, .int (nI 1))]) (by decide) rfl dX5_explains_41 ?_
  refine g_iload C 0 rfl dX5_explains_43 ?_
  refine g_if_eq C (tgt := 59) (by decide) dX5_explains_45 (fun h45 => absurd h45 (by decide)) (fun h45 => ?_)
  refine g_aload_n C 1 rfl rfl dX5_explains_48 ?_
  refine g_lload_n C 2 rfl rfl dX5_explains_49 ?_
  refine g_iload_n C 3 rfl rfl dX5_explains_50 ?_
  refine g_iload C 4 rfl dX5_explains_51 ?_
  refine g_callV1 [] C (c_X5_explained_1 w tu sg v n hn hok) mt_X5_explained e_44 rfl ml_X5_174 im_X5_explained se_X5_explained (by decide) rfl (Nat.le_of_ble_eq_true rfl) dX5_explains_53 ?_
  refine g_eq (sg' := (us (us sg 50 (gwI (sg 45) 5 9)) 51 (emb 0 (twI (gw (sg 45) 5 9) (reN (sg 45)) n) (sg 51)))) (L' := [(5, .int (nI 1)), (0, .ref (ad w 44)), (1, .long v), (3, .int (nI n)), (4, .int (nI 1))]) (S' := [.int ((ex6 v n (sg 45) 6).2.1)]) rfl rfl rfl rfl ?_
  refine g_goto C (tgt := 65) (by decide) dX5_explains_56 ?_
  exact g_iret C E dX5_explains_65 rfl Sq.rf rfl
set_option maxRecDepth 100000 in
set_option maxHeartbeats 400000 in
theorem c_X5_explained_2 (w : GW) (tu : Int64) (sg : Sg) (v : Int64) (n : Nat) (hn : n ≤ 99) (hok : ROk (sg 45)) : Kt w yX5_explained cX5_explained 11 (some .int) 2 [.ref (ad w 44), .long v, .int (nI n), .int (nI 2)] sg tu (some (.int ((ex6 v n (sg 45) 6).2.2))) (us (us sg 50 (gwI (sg 45) 5 9)) 51 (emb 0 (twI (gw (sg 45) 5 9) (reN (sg 45)) n) (sg 51))) tu := by
  refine Kt.of2 RX5 rfl [(0, .ref (ad w 44)), (1, .long v), (3, .int (nI n)), (4, .int (nI 2))] (by decide) rfl (Nat.le_of_ble_eq_true rfl) (fun z C E => ?_)
  refine g_iconst C (v := (nI 0)) (by decide) dX5_explained_0 ?_
  refine g_istore C (L' := [(5, .int (nI 0)), (0, .ref (ad w 44)), (1, .long v), (3, .int (nI n)), (4, .int (nI 2))]) (by decide) rfl dX5_explained_1 ?_
  refine g_iconst C (v := (-1)) (by decide) dX5_explained_3 ?_
  refine g_istore C (L' := [(6, .int (-1)), (5, .int (nI 0)), (0, .ref (ad w 44)), (1, .long v), (3, .int (nI n)), (4, .int (nI 2))]) (by decide) rfl dX5_explained_4 ?_
  refine g_iconst C (v := (-1)) (by decide) dX5_explained_6 ?_
  refine g_istore C (L' := [(7, .int (-1)), (6, .int (-1)), (5, .int (nI 0)), (0, .ref (ad w 44)), (1, .long v), (3, .int (nI n)), (4, .int (nI 2))]) (by decide) rfl dX5_explained_7 ?_
  refine g_iconst C (v := (nI 0)) (by decide) dX5_explained_9 ?_
  refine g_istore C (L' := [(8, .int (nI 0)), (7, .int (-1)), (6, .int (-1)), (5, .int (nI 0)), (0, .ref (ad w 44)), (1, .long v), (3, .int (nI n)), (4, .int (nI 2))]) (by decide) rfl dX5_explained_10 ?_
  refine g_sgE (sg' := (us (us sg 50 (sg 50)) 51 (sg 51))) (by rw [us_id]; exact us_id.symm) ?_
  have lpd : ∀ (nf d : Nat) (A : Nat → Int32) (B : Nat → Int32) (m : Int32) (l : Int32) (gr : Int32), 6 < d + nf → d ≤ 6 → (ex6 v n (sg 45) d = (m, l, gr) ∧ (0 < d → (∀ e, e < 6 → A e = gwI (sg 45) (d - 1) 9 e) ∧ ∀ k, k < 12 → B k = nI (twI (gw (sg 45) (d - 1) 9) (reN (sg 45)) n k))) → G z w 11 (us (us sg 50 A) 51 B) tu 12 [(8, .int (nI d)), (7, .int gr), (6, .int l), (5, .int m), (0, .ref (ad w 44)), (1, .long v), (3, .int (nI n)), (4, .int (nI 2))] [] := by
    intro nf
    induction nf with
    | zero => intro d A B m l gr h1 h2 hI; exact absurd h1 (by omega)
    | succ nf ihlpd =>
      intro d A B m l gr h1 h2 hI
      refine g_iload C 0 rfl dX5_explained_12 ?_
      refine g_bipush C (v := (nI 6)) (by decide) dX5_explained_14 ?_
      refine g_icmpN_ge C d 6 (by omega) (by omega) (tgt := 135) (by decide) dX5_explained_16 (fun h16 => ?_) (fun h16 => ?_)
      ·
        have hiN : 6 = d := by omega
        subst hiN
        refine g_iload C 7 rfl dX5_explained_135 ?_
        refine g_if_ne C (tgt := 145) (by decide) dX5_explained_137 (fun h137 => ?_) (fun h137 => absurd h137 (by decide))
        refine g_iload C 7 rfl dX5_explained_145 ?_
        refine g_iconst C (v := (nI 1)) (by decide) dX5_explained_147 ?_
        refine g_icmpN_ne C 2 1 (by omega) (by omega) (tgt := 156) (by decide) dX5_explained_148 (fun h148 => ?_) (fun h148 => absurd h148 (by decide))
        refine g_iload C 1 rfl dX5_explained_156 ?_
        exact g_iret C E dX5_explained_158 (by rw [hI.1]) (sq2 (hI.2 (by decide)).1 (fun k hk => ((hI.2 (by decide)).2 k hk).trans (by have h9 := emb_in (b := 0) (v := twI (gw (sg 45) 5 9) (reN (sg 45)) n) (old := sg 51) hk; rw [Nat.zero_add] at h9; exact h9.symm))) rfl
      ·
        refine g_iconst C (v := (nI 1)) (by decide) dX5_explained_19 ?_
        refine g_istore C (L' := [(9, .int (nI 1)), (8, .int (nI d)), (7, .int gr), (6, .int l), (5, .int m), (0, .ref (ad w 44)), (1, .long v), (3, .int (nI n)), (4, .int (nI 2))]) (by decide) rfl dX5_explained_20 ?_
        have hd6 : d < 6 := by omega
        have lpt : ∀ (nf t : Nat) (A : Nat → Int32) (B : Nat → Int32) (m : Int32) (l : Int32) (gr : Int32), 10 < t + nf → t ≤ 10 → (1 ≤ t ∧ ex1 v n (sg 45) d (t - 1) (ex6 v n (sg 45) d) = (m, l, gr) ∧ (1 < t → (∀ e, e < 6 → A e = gwI (sg 45) d (t - 1) e) ∧ ∀ k, k < 12 → B k = nI (twI (gw (sg 45) d (t - 1)) (reN (sg 45)) n k))) → G z w 11 (us (us sg 50 A) 51 B) tu 22 [(9, .int (nI t)), (8, .int (nI d)), (7, .int gr), (6, .int l), (5, .int m), (0, .ref (ad w 44)), (1, .long v), (3, .int (nI n)), (4, .int (nI 2))] [] := by
          intro nf
          induction nf with
          | zero => intro t A B m l gr h1 h2 hI; exact absurd h1 (by omega)
          | succ nf ihlpt =>
            intro t A B m l gr h1 h2 hI
            refine g_iload C 0 rfl dX5_explained_22 ?_
            refine g_bipush C (v := (nI 10)) (by decide) dX5_explained_24 ?_
            refine g_icmpN_ge C t 10 (by omega) (by omega) (tgt := 129) (by decide) dX5_explained_26 (fun h26 => ?_) (fun h26 => ?_)
            ·
              have hiN : 10 = t := by omega
              subst hiN
              have hI : ex6 v n (sg 45) (d + 1) = (m, l, gr) ∧ (1 < 10 → (∀ e, e < 6 → A e = gwI (sg 45) d 9 e) ∧ ∀ k, k < 12 → B k = nI (twI (gw (sg 45) d 9) (reN (sg 45)) n k)) := ⟨hI.2.1, fun _ => hI.2.2 (by decide)⟩
              refine g_iinc C (n := 1) (v := (nI (d + 1))) (L' := [(8, .int (nI (d + 1))), (9, .int (nI 10)), (7, .int gr), (6, .int l), (5, .int m), (0, .ref (ad w 44)), (1, .long v), (3, .int (nI n)), (4, .int (nI 2))]) 1 rfl (nI_add d 1) (by decide) rfl dX5_explained_129 ?_
              refine g_goto C (tgt := 12) (by decide) dX5_explained_132 ?_
              refine g_sub (L' := [(8, .int (nI (d + 1))), (7, .int gr), (6, .int l), (5, .int m), (0, .ref (ad w 44)), (1, .long v), (3, .int (nI n)), (4, .int (nI 2))]) [0, 2, 3, 4, 5, 6, 7, 8] rfl ?_
              exact ihlpd (d + 1) A B m l gr (by omega) (by omega) (⟨hI.1, fun _ => hI.2 (by decide)⟩)
            ·
              refine g_iconst C (v := (nI 0)) (by decide) dX5_explained_29 ?_
              refine g_istore C (L' := [(10, .int (nI 0)), (9, .int (nI t)), (8, .int (nI d)), (7, .int gr), (6, .int l), (5, .int m), (0, .ref (ad w 44)), (1, .long v), (3, .int (nI n)), (4, .int (nI 2))]) (by decide) rfl dX5_explained_30 ?_
              have hM := hI
              have lpe : ∀ (nf e : Nat), 6 < e + nf → e ≤ 6 → (True) → G z w 11 (us (us sg 51 B) 50 (fw 0 (gwI (sg 45) d t) A e)) tu 32 [(10, .int (nI e)), (9, .int (nI t)), (8, .int (nI d)), (7, .int gr), (6, .int l), (5, .int m), (0, .ref (ad w 44)), (1, .long v), (3, .int (nI n)), (4, .int (nI 2))] [] := by
                intro nf
                induction nf with
                | zero => intro e  h1 h2 hI; exact absurd h1 (by omega)
                | succ nf ihlpe =>
                  intro e  h1 h2 hI
                  refine g_iload C 0 rfl dX5_explained_32 ?_
                  refine g_bipush C (v := (nI 6)) (by decide) dX5_explained_34 ?_
                  refine g_icmpN_ge C e 6 (by omega) (by omega) (tgt := 79) (by decide) dX5_explained_36 (fun h36 => ?_) (fun h36 => ?_)
                  ·
                    have hiN : 6 = e := by omega
                    subst hiN
                    refine g_aload_n C 6 rfl rfl dX5_explained_79 ?_
                    refine g_iload_n C 8 rfl rfl dX5_explained_80 ?_
                    refine g_callV1 [] C (c_X5_tries w tu (us (us sg 51 B) 50 (fw 0 (gwI (sg 45) d t) A 6)) n (gw (sg 45) d t) (reN (sg 45)) hn hok.2.2.2.2.1 hok.2.2.2.2.2 (fun i hi => (fw_in ⟨Nat.zero_le _, by omega⟩).trans (gw_ok hok hi).1) (fun i hi => (gw_ok hok hi).2)) mt_X5_tries e_44 rfl ml_X5_167 im_X5_tries se_X5_tries (by decide) rfl (Nat.le_of_ble_eq_true rfl) dX5_explained_81 ?_
                    refine g_eq (sg' := (us (us (us sg 51 B) 50 (fw 0 (gwI (sg 45) d t) A 6)) 51 (emb 0 (twI (gw (sg 45) d t) (reN (sg 45)) n) B))) (L' := [(10, .int (nI 6)), (9, .int (nI t)), (8, .int (nI d)), (7, .int gr), (6, .int l), (5, .int m), (0, .ref (ad w 44)), (1, .long v), (3, .int (nI n)), (4, .int (nI 2))]) (S' := [.long (trv (gw (sg 45) d t) (reN (sg 45)) n)]) rfl rfl rfl rfl ?_
                    refine g_lload_n C 7 rfl rfl dX5_explained_84 ?_
                    refine g_lcmp C dX5_explained_85 ?_
                    refine g_lif_ne C (tgt := 123) (by decide) dX5_explained_86 (fun h86 => ?_) (fun h86 => ?_)
                    ·
                      refine g_iinc C (n := 1) (v := (nI (t + 1))) (L' := [(9, .int (nI (t + 1))), (10, .int (nI 6)), (8, .int (nI d)), (7, .int gr), (6, .int l), (5, .int m), (0, .ref (ad w 44)), (1, .long v), (3, .int (nI n)), (4, .int (nI 2))]) 1 rfl (nI_add t 1) (by decide) rfl dX5_explained_123 ?_
                      refine g_goto C (tgt := 22) (by decide) dX5_explained_126 ?_
                      refine g_sub (L' := [(9, .int (nI (t + 1))), (8, .int (nI d)), (7, .int gr), (6, .int l), (5, .int m), (0, .ref (ad w 44)), (1, .long v), (3, .int (nI n)), (4, .int (nI 2))]) [0, 2, 3, 4, 5, 6, 7, 8, 9] rfl ?_
                      refine g_sgE (sg' := (us (us sg 50 (fw 0 (gwI (sg 45) d t) A 6)) 51 (emb 0 (twI (gw (sg 45) d t) (reN (sg 45)) n) B))) (us_nrm (by decide)) ?_
                      exact ihlpt (t + 1) (fw 0 (gwI (sg 45) d t) A 6) (emb 0 (twI (gw (sg 45) d t) (reN (sg 45)) n) B) m l gr (by omega) (by omega) (⟨by omega, by rw [show t + 1 - 1 = t from rfl, ex1_s hM.1, hM.2.1, exS_n h86], fun _ => ⟨fun e he => fw_in ⟨Nat.zero_le _, by omega⟩, fun k hk => by have h9 := emb_in (b := 0) (v := twI (gw (sg 45) d t) (reN (sg 45)) n) (old := B) hk; rw [Nat.zero_add] at h9; exact h9⟩⟩)
                    ·
                      refine g_iinc C (n := 1) (v := (m + 1)) (L' := [(5, .int (m + 1)), (10, .int (nI 6)), (9, .int (nI t)), (8, .int (nI d)), (7, .int gr), (6, .int l), (0, .ref (ad w 44)), (1, .long v), (3, .int (nI n)), (4, .int (nI 2))]) 5 rfl rfl (by decide) rfl dX5_explained_89 ?_
                      refine g_iload C 5 rfl dX5_explained_92 ?_
                      refine g_iconst C (v := (-1)) (by decide) dX5_explained_94 ?_
                      refine g_icmp_ne C (tgt := 109) (by decide) dX5_explained_95 (fun h95 => ?_) (fun h95 => ?_)
                      ·
                        refine g_iload C 5 rfl dX5_explained_109 ?_
                        refine g_istore C (L' := [(6, .int l), (5, .int (m + 1)), (10, .int (nI 6)), (9, .int (nI t)), (8, .int (nI d)), (7, .int gr), (0, .ref (ad w 44)), (1, .long v), (3, .int (nI n)), (4, .int (nI 2))]) (by decide) rfl dX5_explained_111 ?_
                        refine g_bipush C (v := (nI 10)) (by decide) dX5_explained_113 ?_
                        refine g_iload C 4 rfl dX5_explained_115 ?_
                        refine g_imul C dX5_explained_117 ?_
                        refine g_top (y := (nI (10 * d))) (pk_mul 10 d) ?_
                        refine g_iload C 3 rfl dX5_explained_118 ?_
                        refine g_iadd C dX5_explained_120 ?_
                        refine g_top (y := (nI ((10 * d) + t))) (nI_add (10 * d) t) ?_
                        refine g_istore C (L' := [(7, .int (nI ((10 * d) + t))), (6, .int l), (5, .int (m + 1)), (10, .int (nI 6)), (9, .int (nI t)), (8, .int (nI d)), (0, .ref (ad w 44)), (1, .long v), (3, .int (nI n)), (4, .int (nI 2))]) (by decide) rfl dX5_explained_121 ?_
                        refine g_iinc C (n := 1) (v := (nI (t + 1))) (L' := [(9, .int (nI (t + 1))), (7, .int (nI ((10 * d) + t))), (6, .int l), (5, .int (m + 1)), (10, .int (nI 6)), (8, .int (nI d)), (0, .ref (ad w 44)), (1, .long v), (3, .int (nI n)), (4, .int (nI 2))]) 4 rfl (nI_add t 1) (by decide) rfl dX5_explained_123 ?_
                        refine g_goto C (tgt := 22) (by decide) dX5_explained_126 ?_
                        refine g_sub (L' := [(9, .int (nI (t + 1))), (8, .int (nI d)), (7, .int (nI ((10 * d) + t))), (6, .int l), (5, .int (m + 1)), (0, .ref (ad w 44)), (1, .long v), (3, .int (nI n)), (4, .int (nI 2))]) [0, 5, 1, 2, 3, 6, 7, 8, 9] rfl ?_
                        refine g_sgE (sg' := (us (us sg 50 (fw 0 (gwI (sg 45) d t) A 6)) 51 (emb 0 (twI (gw (sg 45) d t) (reN (sg 45)) n) B))) (us_nrm (by decide)) ?_
                        exact ihlpt (t + 1) (fw 0 (gwI (sg 45) d t) A 6) (emb 0 (twI (gw (sg 45) d t) (reN (sg 45)) n) B) (m + 1) l (nI ((10 * d) + t)) (by omega) (by omega) (⟨by omega, by rw [show t + 1 - 1 = t from rfl, ex1_s hM.1, hM.2.1, exS_y h86, if_neg h95]; rfl, fun _ => ⟨fun e he => fw_in ⟨Nat.zero_le _, by omega⟩, fun k hk => by have h9 := emb_in (b := 0) (v := twI (gw (sg 45) d t) (reN (sg 45)) n) (old := B) hk; rw [Nat.zero_add] at h9; exact h9⟩⟩)
                      ·
                        refine g_bipush C (v := (nI 10)) (by decide) dX5_explained_98 ?_
                        refine g_iload C 3 rfl dX5_explained_100 ?_
                        refine g_imul C dX5_explained_102 ?_
                        refine g_top (y := (nI (10 * d))) (pk_mul 10 d) ?_
                        refine g_iload C 2 rfl dX5_explained_103 ?_
                        refine g_iadd C dX5_explained_105 ?_
                        refine g_top (y := (nI ((10 * d) + t))) (nI_add (10 * d) t) ?_
                        refine g_goto C (tgt := 111) (by decide) dX5_explained_106 ?_
                        refine g_istore C (L' := [(6, .int (nI ((10 * d) + t))), (5, .int (m + 1)), (10, .int (nI 6)), (9, .int (nI t)), (8, .int (nI d)), (7, .int gr), (0, .ref (ad w 44)), (1, .long v), (3, .int (nI n)), (4, .int (nI 2))]) (by decide) rfl dX5_explained_111 ?_
                        refine g_bipush C (v := (nI 10)) (by decide) dX5_explained_113 ?_
                        refine g_iload C 4 rfl dX5_explained_115 ?_
                        refine g_imul C dX5_explained_117 ?_
                        refine g_top (y := (nI (10 * d))) (pk_mul 10 d) ?_
                        refine g_iload C 3 rfl dX5_explained_118 ?_
                        refine g_iadd C dX5_explained_120 ?_
                        refine g_top (y := (nI ((10 * d) + t))) (nI_add (10 * d) t) ?_
                        refine g_istore C (L' := [(7, .int (nI ((10 * d) + t))), (6, .int (nI ((10 * d) + t))), (5, .int (m + 1)), (10, .int (nI 6)), (9, .int (nI t)), (8, .int (nI d)), (0, .ref (ad w 44)), (1, .long v), (3, .int (nI n)), (4, .int (nI 2))]) (by decide) rfl dX5_explained_121 ?_
                        refine g_iinc C (n := 1) (v := (nI (t + 1))) (L' := [(9, .int (nI (t + 1))), (7, .int (nI ((10 * d) + t))), (6, .int (nI ((10 * d) + t))), (5, .int (m + 1)), (10, .int (nI 6)), (8, .int (nI d)), (0, .ref (ad w 44)), (1, .long v), (3, .int (nI n)), (4, .int (nI 2))]) 4 rfl (nI_add t 1) (by decide) rfl dX5_explained_123 ?_
                        refine g_goto C (tgt := 22) (by decide) dX5_explained_126 ?_
                        refine g_sub (L' := [(9, .int (nI (t + 1))), (8, .int (nI d)), (7, .int (nI ((10 * d) + t))), (6, .int (nI ((10 * d) + t))), (5, .int (m + 1)), (0, .ref (ad w 44)), (1, .long v), (3, .int (nI n)), (4, .int (nI 2))]) [0, 5, 1, 2, 3, 6, 7, 8, 9] rfl ?_
                        refine g_sgE (sg' := (us (us sg 50 (fw 0 (gwI (sg 45) d t) A 6)) 51 (emb 0 (twI (gw (sg 45) d t) (reN (sg 45)) n) B))) (us_nrm (by decide)) ?_
                        exact ihlpt (t + 1) (fw 0 (gwI (sg 45) d t) A 6) (emb 0 (twI (gw (sg 45) d t) (reN (sg 45)) n) B) (m + 1) (nI ((10 * d) + t)) (nI ((10 * d) + t)) (by omega) (by omega) (⟨by omega, by rw [show t + 1 - 1 = t from rfl, ex1_s hM.1, hM.2.1, exS_y h86, if_pos h95]; rfl, fun _ => ⟨fun e he => fw_in ⟨Nat.zero_le _, by omega⟩, fun k hk => by have h9 := emb_in (b := 0) (v := twI (gw (sg 45) d t) (reN (sg 45)) n) (old := B) hk; rw [Nat.zero_add] at h9; exact h9⟩⟩)
                  ·
                    refine g_aload_n C 6 rfl rfl dX5_explained_39 ?_
                    refine g_getR C (j := 7) cls5 e_44 rfl (by decide) fl_X5_25 dX5_explained_40 ?_
                    refine g_iload C 0 rfl dX5_explained_43 ?_
                    refine g_aload_n C 6 rfl rfl dX5_explained_45 ?_
                    refine g_getR C (j := 0) cls5 e_44 rfl (by decide) fl_X5_7 dX5_explained_46 ?_
                    refine g_iconst C (v := (nI 0)) (by decide) dX5_explained_49 ?_
                    refine g_iload C 0 rfl dX5_explained_50 ?_
                    refine g_iadd C dX5_explained_52 ?_
                    refine g_top (y := (nI e)) (by rw [nI_add, Nat.zero_add]) ?_
                    refine g_ialdN C e e_45 (by omega) (by decide) dX5_explained_53 ?_
                    refine g_top (y := (sg 45 e)) rfl ?_
                    refine g_top (y := (nI (dN (sg 45) e))) (hok.1 e (by omega)).1 ?_
                    refine g_iload C 0 rfl dX5_explained_54 ?_
                    refine g_iload C 2 rfl dX5_explained_56 ?_
                    refine g_icmpN_ne C e d (by omega) (by omega) (tgt := 68) (by decide) dX5_explained_58 (fun h58 => ?_) (fun h58 => ?_)
                    ·
                      refine g_iconst C (v := (nI 0)) (by decide) dX5_explained_68 ?_
                      refine g_callS1 [.int (nI e), .ref (ad w 50)] C (c_X5_whole w tu (us (us sg 51 B) 50 (fw 0 (gwI (sg 45) d t) A e)) (dN (sg 45) e) (nI 0) (hok.1 e (by omega)).2) mt_X5_whole ml_X5_57 st_X5_whole (by decide) rfl (Nat.le_of_ble_eq_true rfl) dX5_explained_69 ?_
                      refine g_eq (L' := [(10, .int (nI e)), (9, .int (nI t)), (8, .int (nI d)), (7, .int gr), (6, .int l), (5, .int m), (0, .ref (ad w 44)), (1, .long v), (3, .int (nI n)), (4, .int (nI 2))]) (S' := [.int (whX (nI 0) ((dN (sg 45) e) + 1)), .int (nI e), .ref (ad w 50)]) rfl rfl rfl rfl ?_
                      refine g_iastN C e e_50 (by omega) (by decide) dX5_explained_72 ?_
                      refine g_sgE (sg' := (us (us sg 51 B) 50 (upd (fw 0 (gwI (sg 45) d t) A e) e (whX (nI 0) ((dN (sg 45) e) + 1))))) us_us ?_
                      refine g_iinc C (n := 1) (v := (nI (e + 1))) (L' := [(10, .int (nI (e + 1))), (9, .int (nI t)), (8, .int (nI d)), (7, .int gr), (6, .int l), (5, .int m), (0, .ref (ad w 44)), (1, .long v), (3, .int (nI n)), (4, .int (nI 2))]) 0 rfl (nI_add e 1) (by decide) rfl dX5_explained_73 ?_
                      refine g_goto C (tgt := 32) (by decide) dX5_explained_76 ?_
                      refine g_sub (L' := [(10, .int (nI (e + 1))), (9, .int (nI t)), (8, .int (nI d)), (7, .int gr), (6, .int l), (5, .int m), (0, .ref (ad w 44)), (1, .long v), (3, .int (nI n)), (4, .int (nI 2))]) [0, 1, 2, 3, 4, 5, 6, 7, 8, 9] rfl ?_
                      refine g_sgE (sg' := (us (us sg 51 B) 50 (fw 0 (gwI (sg 45) d t) A (e + 1)))) (congrArg (us _ 50) (fw_s0 (by show _ = whX (if e = d then _ else _) _; rw [if_neg h58]))) ?_
                      exact ihlpe (e + 1)  (by omega) (by omega) trivial
                    ·
                      refine g_iconst C (v := (nI 1)) (by decide) dX5_explained_61 ?_
                      refine g_iload C 1 rfl dX5_explained_62 ?_
                      refine g_ishl C dX5_explained_64 ?_
                      refine g_goto C (tgt := 69) (by decide) dX5_explained_65 ?_
                      refine g_callS1 [.int (nI e), .ref (ad w 50)] C (c_X5_whole w tu (us (us sg 51 B) 50 (fw 0 (gwI (sg 45) d t) A e)) (dN (sg 45) e) ((nI 1) <<< ((nI t) &&& 31)) (hok.1 e (by omega)).2) mt_X5_whole ml_X5_57 st_X5_whole (by decide) rfl (Nat.le_of_ble_eq_true rfl) dX5_explained_69 ?_
                      refine g_eq (L' := [(10, .int (nI e)), (9, .int (nI t)), (8, .int (nI d)), (7, .int gr), (6, .int l), (5, .int m), (0, .ref (ad w 44)), (1, .long v), (3, .int (nI n)), (4, .int (nI 2))]) (S' := [.int (whX ((nI 1) <<< ((nI t) &&& 31)) ((dN (sg 45) e) + 1)), .int (nI e), .ref (ad w 50)]) rfl rfl rfl rfl ?_
                      refine g_iastN C e e_50 (by omega) (by decide) dX5_explained_72 ?_
                      refine g_sgE (sg' := (us (us sg 51 B) 50 (upd (fw 0 (gwI (sg 45) d t) A e) e (whX ((nI 1) <<< ((nI t) &&& 31)) ((dN (sg 45) e) + 1))))) us_us ?_
                      refine g_iinc C (n := 1) (v := (nI (e + 1))) (L' := [(10, .int (nI (e + 1))), (9, .int (nI t)), (8, .int (nI d)), (7, .int gr), (6, .int l), (5, .int m), (0, .ref (ad w 44)), (1, .long v), (3, .int (nI n)), (4, .int (nI 2))]) 0 rfl (nI_add e 1) (by decide) rfl dX5_explained_73 ?_
                      refine g_goto C (tgt := 32) (by decide) dX5_explained_76 ?_
                      refine g_sub (L' := [(10, .int (nI (e + 1))), (9, .int (nI t)), (8, .int (nI d)), (7, .int gr), (6, .int l), (5, .int m), (0, .ref (ad w 44)), (1, .long v), (3, .int (nI n)), (4, .int (nI 2))]) [0, 1, 2, 3, 4, 5, 6, 7, 8, 9] rfl ?_
                      refine g_sgE (sg' := (us (us sg 51 B) 50 (fw 0 (gwI (sg 45) d t) A (e + 1)))) (congrArg (us _ 50) (fw_s0 (by show _ = whX (if e = d then _ else _) _; rw [if_pos h58]))) ?_
                      exact ihlpe (e + 1)  (by omega) (by omega) trivial
              refine g_sgE (sg' := (us (us sg 51 B) 50 (fw 0 (gwI (sg 45) d t) A 0))) (us_in (by decide) fw_0.symm) ?_
              exact lpe (6 + 1) 0  (by omega) (by omega) trivial
        refine g_sub (L' := [(9, .int (nI 1)), (8, .int (nI d)), (7, .int gr), (6, .int l), (5, .int m), (0, .ref (ad w 44)), (1, .long v), (3, .int (nI n)), (4, .int (nI 2))]) [0, 1, 2, 3, 4, 5, 6, 7, 8] rfl ?_
        exact lpt (10 + 1) 1 A B m l gr (by omega) (by omega) (⟨Nat.le_refl _, hI.1, fun q => absurd q (by decide)⟩)
  refine g_sub (L' := [(8, .int (nI 0)), (7, .int (-1)), (6, .int (-1)), (5, .int (nI 0)), (0, .ref (ad w 44)), (1, .long v), (3, .int (nI n)), (4, .int (nI 2))]) [0, 1, 2, 3, 4, 5, 6, 7] rfl ?_
  exact lpd (6 + 1) 0 (sg 50) (sg 51) (nI 0) (-1) (-1) (by omega) (by omega) (⟨rfl, fun q => absurd q (by decide)⟩)
set_option maxRecDepth 100000 in
set_option maxHeartbeats 400000 in
theorem c_X5_explains_2 (w : GW) (tu : Int64) (sg : Sg) (v : Int64) (n : Nat) (hv : 0 ≤ v ∧ v ≤ 999999999999) (hn1 : 1 ≤ n) (hn : n ≤ 99) (hok : ROk (sg 45)) : Kt w yX5_explains cX5_explains 6 (some .int) 3 [.ref (ad w 44), .long v, .int (nI n), .int (nI 2)] sg tu (some (.int ((ex6 v n (sg 45) 6).2.2))) (us (us sg 50 (gwI (sg 45) 5 9)) 51 (emb 0 (twI (gw (sg 45) 5 9) (reN (sg 45)) n) (sg 51))) tu := by
  refine Kt.of2 RX5 rfl [(0, .ref (ad w 44)), (1, .long v), (3, .int (nI n)), (4, .int (nI 2))] (by decide) rfl (Nat.le_of_ble_eq_true rfl) (fun z C E => ?_)
  refine g_lload_n C 1 rfl rfl dX5_explains_0 ?_
  refine g_lconst C (v := 0) (by decide) dX5_explains_1 ?_
  refine g_ldc2 C cn_X5_110 dX5_explains_2 ?_
  refine g_callS1 [] C (c_X5_in_t w tu sg v 0 999999999999 hv) mt_X5_in ml_X5_53 st_X5_in (by decide) rfl (Nat.le_of_ble_eq_true rfl) dX5_explains_5 ?_
  refine g_eq (L' := [(0, .ref (ad w 44)), (1, .long v), (3, .int (nI n)), (4, .int (nI 2))]) (S' := [.int (nI 1)]) rfl rfl rfl rfl ?_
  refine g_if_eq C (tgt := 40) (by decide) dX5_explains_8 (fun h8 => absurd h8 (by decide)) (fun h8 => ?_)
  refine g_iload_n C 2 rfl rfl dX5_explains_11 ?_
  refine g_i2l C dX5_explains_12 ?_
  refine g_lconst C (v := 1) (by decide) dX5_explains_13 ?_
  refine g_ldc2 C cn_X5_65 dX5_explains_14 ?_
  refine g_callS1 [] C (c_X5_in_t w tu sg (Int32.toInt64 (nI n)) 1 99 (in_ok1 (n := 99) (by omega) (by omega) (by decide))) mt_X5_in ml_X5_53 st_X5_in (by decide) rfl (Nat.le_of_ble_eq_true rfl) dX5_explains_17 ?_
  refine g_eq (L' := [(0, .ref (ad w 44)), (1, .long v), (3, .int (nI n)), (4, .int (nI 2))]) (S' := [.int (nI 1)]) rfl rfl rfl rfl ?_
  refine g_if_eq C (tgt := 40) (by decide) dX5_explains_20 (fun h20 => absurd h20 (by decide)) (fun h20 => ?_)
  refine g_iload C 3 rfl dX5_explains_23 ?_
  refine g_i2l C dX5_explains_25 ?_
  refine g_lconst C (v := 0) (by decide) dX5_explains_26 ?_
  refine g_ldc2 C cn_X5_151 dX5_explains_27 ?_
  refine g_callS1 [] C (c_X5_in_t w tu sg (Int32.toInt64 (nI 2)) 0 2 (in_ok (n := 2) (by omega) (by decide))) mt_X5_in ml_X5_53 st_X5_in (by decide) rfl (Nat.le_of_ble_eq_true rfl) dX5_explains_30 ?_
  refine g_eq (L' := [(0, .ref (ad w 44)), (1, .long v), (3, .int (nI n)), (4, .int (nI 2))]) (S' := [.int (nI 1)]) rfl rfl rfl rfl ?_
  refine g_if_eq C (tgt := 40) (by decide) dX5_explains_33 (fun h33 => absurd h33 (by decide)) (fun h33 => ?_)
  refine g_iconst C (v := (nI 1)) (by decide) dX5_explains_36 ?_
  refine g_goto C (tgt := 41) (by decide) dX5_explains_37 ?_
  refine g_istore C (L' := [(5, .int (nI 1)), (0, .ref (ad w 44)), (1, .long v), (3, .int (nI n)), (4, .int (nI 2))]) (by decide) rfl dX5_explains_41 ?_
  refine g_iload C 0 rfl dX5_explains_43 ?_
  refine g_if_eq C (tgt := 59) (by decide) dX5_explains_45 (fun h45 => absurd h45 (by decide)) (fun h45 => ?_)
  refine g_aload_n C 1 rfl rfl dX5_explains_48 ?_
  refine g_lload_n C 2 rfl rfl dX5_explains_49 ?_
  refine g_iload_n C 3 rfl rfl dX5_explains_50 ?_
  refine g_iload C 4 rfl dX5_explains_51 ?_
  refine g_callV1 [] C (c_X5_explained_2 w tu sg v n hn hok) mt_X5_explained e_44 rfl ml_X5_174 im_X5_explained se_X5_explained (by decide) rfl (Nat.le_of_ble_eq_true rfl) dX5_explains_53 ?_
  refine g_eq (sg' := (us (us sg 50 (gwI (sg 45) 5 9)) 51 (emb 0 (twI (gw (sg 45) 5 9) (reN (sg 45)) n) (sg 51)))) (L' := [(5, .int (nI 1)), (0, .ref (ad w 44)), (1, .long v), (3, .int (nI n)), (4, .int (nI 2))]) (S' := [.int ((ex6 v n (sg 45) 6).2.2)]) rfl rfl rfl rfl ?_
  refine g_goto C (tgt := 65) (by decide) dX5_explains_56 ?_
  exact g_iret C E dX5_explains_65 rfl Sq.rf rfl
set_option maxRecDepth 100000 in
set_option maxHeartbeats 400000 in
theorem c_X5_explains_bad (w : GW) (tu : Int64) (sg : Sg) (v : Int64) (x : Int32) (y : Int32) (h : ¬ ((0 ≤ v ∧ v ≤ 999999999999) ∧ (1 ≤ Int32.toInt64 x ∧ Int32.toInt64 x ≤ 99) ∧ (0 ≤ Int32.toInt64 y ∧ Int32.toInt64 y ≤ 2))) : Kt w yX5_explains cX5_explains 6 (some .int) 1 [.ref (ad w 44), .long v, .int x, .int y] sg tu (some (.int (-2))) (us sg 48 (upd (sg 48) 0 ((sg 48 0) + nI 1))) tu := by
  refine Kt.of2 RX5 rfl [(0, .ref (ad w 44)), (1, .long v), (3, .int x), (4, .int y)] (by decide) rfl (Nat.le_of_ble_eq_true rfl) (fun z C E => ?_)
  refine g_lload_n C 1 rfl rfl dX5_explains_0 ?_
  refine g_lconst C (v := 0) (by decide) dX5_explains_1 ?_
  refine g_ldc2 C cn_X5_110 dX5_explains_2 ?_
  refine g_callS1 [] C (c_X5_in w tu sg v 0 999999999999 ) mt_X5_in ml_X5_53 st_X5_in (by decide) rfl (Nat.le_of_ble_eq_true rfl) dX5_explains_5 ?_
  refine g_eq (L' := [(0, .ref (ad w 44)), (1, .long v), (3, .int x), (4, .int y)]) (S' := [.int (bI (0 ≤ v ∧ v ≤ 999999999999))]) rfl rfl rfl rfl ?_
  refine g_bif_eq C (tgt := 40) (by decide) dX5_explains_8 (fun h8 => ?_) (fun h8 => ?_)
  ·
    refine g_iconst C (v := (nI 0)) (by decide) dX5_explains_40 ?_
    refine g_istore C (L' := [(5, .int (nI 0)), (0, .ref (ad w 44)), (1, .long v), (3, .int x), (4, .int y)]) (by decide) rfl dX5_explains_41 ?_
    refine g_iload C 0 rfl dX5_explains_43 ?_
    refine g_if_eq C (tgt := 59) (by decide) dX5_explains_45 (fun h45 => ?_) (fun h45 => absurd h45 (by decide))
    refine g_aload_n C 1 rfl rfl dX5_explains_59 ?_
    refine g_bipush C (v := (-2)) (by decide) dX5_explains_60 ?_
    refine g_callV1 [] C (c_X5_refuses_bad w tu sg  ) mt_X5_refuses e_44 rfl ml_X5_44 im_X5_refuses se_X5_refuses (by decide) rfl (Nat.le_of_ble_eq_true rfl) dX5_explains_62 ?_
    refine g_eq (sg' := (us sg 48 (upd (sg 48) 0 ((sg 48 0) + nI 1)))) (L' := [(5, .int (nI 0)), (0, .ref (ad w 44)), (1, .long v), (3, .int x), (4, .int y)]) (S' := [.int (-2)]) rfl rfl rfl rfl ?_
    exact g_iret C E dX5_explains_65 rfl Sq.rf rfl
  ·
    refine g_iload_n C 2 rfl rfl dX5_explains_11 ?_
    refine g_i2l C dX5_explains_12 ?_
    refine g_lconst C (v := 1) (by decide) dX5_explains_13 ?_
    refine g_ldc2 C cn_X5_65 dX5_explains_14 ?_
    refine g_callS1 [] C (c_X5_in w tu sg (Int32.toInt64 x) 1 99 ) mt_X5_in ml_X5_53 st_X5_in (by decide) rfl (Nat.le_of_ble_eq_true rfl) dX5_explains_17 ?_
    refine g_eq (L' := [(0, .ref (ad w 44)), (1, .long v), (3, .int x), (4, .int y)]) (S' := [.int (bI (1 ≤ (Int32.toInt64 x) ∧ (Int32.toInt64 x) ≤ 99))]) rfl rfl rfl rfl ?_
    refine g_bif_eq C (tgt := 40) (by decide) dX5_explains_20 (fun h20 => ?_) (fun h20 => ?_)
    ·
      refine g_iconst C (v := (nI 0)) (by decide) dX5_explains_40 ?_
      refine g_istore C (L' := [(5, .int (nI 0)), (0, .ref (ad w 44)), (1, .long v), (3, .int x), (4, .int y)]) (by decide) rfl dX5_explains_41 ?_
      refine g_iload C 0 rfl dX5_explains_43 ?_
      refine g_if_eq C (tgt := 59) (by decide) dX5_explains_45 (fun h45 => ?_) (fun h45 => absurd h45 (by decide))
      refine g_aload_n C 1 rfl rfl dX5_explains_59 ?_
      refine g_bipush C (v := (-2)) (by decide) dX5_explains_60 ?_
      refine g_callV1 [] C (c_X5_refuses_bad w tu sg  ) mt_X5_refuses e_44 rfl ml_X5_44 im_X5_refuses se_X5_refuses (by decide) rfl (Nat.le_of_ble_eq_true rfl) dX5_explains_62 ?_
      refine g_eq (sg' := (us sg 48 (upd (sg 48) 0 ((sg 48 0) + nI 1)))) (L' := [(5, .int (nI 0)), (0, .ref (ad w 44)), (1, .long v), (3, .int x), (4, .int y)]) (S' := [.int (-2)]) rfl rfl rfl rfl ?_
      exact g_iret C E dX5_explains_65 rfl Sq.rf rfl
    ·
      refine g_iload C 3 rfl dX5_explains_23 ?_
      refine g_i2l C dX5_explains_25 ?_
      refine g_lconst C (v := 0) (by decide) dX5_explains_26 ?_
      refine g_ldc2 C cn_X5_151 dX5_explains_27 ?_
      refine g_callS1 [] C (c_X5_in w tu sg (Int32.toInt64 y) 0 2 ) mt_X5_in ml_X5_53 st_X5_in (by decide) rfl (Nat.le_of_ble_eq_true rfl) dX5_explains_30 ?_
      refine g_eq (L' := [(0, .ref (ad w 44)), (1, .long v), (3, .int x), (4, .int y)]) (S' := [.int (bI (0 ≤ (Int32.toInt64 y) ∧ (Int32.toInt64 y) ≤ 2))]) rfl rfl rfl rfl ?_
      refine g_bif_eq C (tgt := 40) (by decide) dX5_explains_33 (fun h33 => ?_) (fun h33 => absurd ⟨h8, h20, h33⟩ h)
      refine g_iconst C (v := (nI 0)) (by decide) dX5_explains_40 ?_
      refine g_istore C (L' := [(5, .int (nI 0)), (0, .ref (ad w 44)), (1, .long v), (3, .int x), (4, .int y)]) (by decide) rfl dX5_explains_41 ?_
      refine g_iload C 0 rfl dX5_explains_43 ?_
      refine g_if_eq C (tgt := 59) (by decide) dX5_explains_45 (fun h45 => ?_) (fun h45 => absurd h45 (by decide))
      refine g_aload_n C 1 rfl rfl dX5_explains_59 ?_
      refine g_bipush C (v := (-2)) (by decide) dX5_explains_60 ?_
      refine g_callV1 [] C (c_X5_refuses_bad w tu sg  ) mt_X5_refuses e_44 rfl ml_X5_44 im_X5_refuses se_X5_refuses (by decide) rfl (Nat.le_of_ble_eq_true rfl) dX5_explains_62 ?_
      refine g_eq (sg' := (us sg 48 (upd (sg 48) 0 ((sg 48 0) + nI 1)))) (L' := [(5, .int (nI 0)), (0, .ref (ad w 44)), (1, .long v), (3, .int x), (4, .int y)]) (S' := [.int (-2)]) rfl rfl rfl rfl ?_
      exact g_iret C E dX5_explains_65 rfl Sq.rf rfl
