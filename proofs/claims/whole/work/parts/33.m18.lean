theorem nx_xor' (a b : Nat) : nI a ^^^ nI b = nI (a ^^^ b) := by
  apply Int32.toBitVec_inj.mp
  show (nI a).toBitVec ^^^ (nI b).toBitVec = (nI (a ^^^ b)).toBitVec
  apply BitVec.eq_of_toNat_eq
  rw [BitVec.toNat_xor]
  show (BitVec.ofNat 32 a).toNat ^^^ (BitVec.ofNat 32 b).toNat = (BitVec.ofNat 32 (a ^^^ b)).toNat
  rw [BitVec.toNat_ofNat, BitVec.toNat_ofNat, BitVec.toNat_ofNat, Nat.xor_mod_two_pow]
set_option maxRecDepth 100000 in
set_option maxHeartbeats 1000000 in
theorem c_X5_doneOne (w : GW) (tu : Int64) (sg : Sg) (k l a b : Nat) (hk : k < 60) (hl0 : ¬ mnI l = (-1)) (hl : sg 53 k = nI l) (ha0 : ¬ mnI l = nI 0 → sg 54 (2 * k) = nI a) (hb0 : mnI l = nI 2 → sg 54 (2 * k + 1) = nI b) (ha9 : a < 1000000) (hb9 : b < 1000000) (hok : ROk (sg 45)) : KtP w yX5_doneOne cX5_doneOne 4 (some .int) 5 [.ref (ad w 44), .int (nI k)] sg tu (doP sg tu l a b) := by
  have hls : l = 105 ∨ l = 115 ∨ l = 117 ∨ l = 100 ∨ l = 99 ∨ l = 116 ∨ l = 118 ∨ l = 119 ∨ l = 114 := by
    apply Classical.byContradiction
    intro q
    apply hl0
    unfold mnI
    rw [if_neg (by omega), if_neg (by omega), if_neg (by omega)]
  rcases hls with rfl | rfl | rfl | rfl | rfl | rfl | rfl | rfl | rfl
  · by_cases h : a < 6 ∧ b ≤ 9
    · skip
      exact (c_X5_doneOne_i_ok w tu sg k a b hk hl (ha0 (by decide)) ha9 (hb0 (by decide)) hb9 hok h).toP ⟨rfl, (fun k h1 h2 h3 h4 => by simp [us, h1, h2, h3, h4]), Or.inl ⟨_, _, by unfold opR; rw [if_pos rfl, if_pos h]; exact (congrArg some (us_same _ _ _)).symm, rfl, rfl, (m2_of ⟨_, by have := (hok.1 a h.1).2; omega, (hok.1 a h.1).1⟩)⟩⟩
    · skip
      exact (c_X5_doneOne_i_no w tu sg k a b hk hl (ha0 (by decide)) ha9 (hb0 (by decide)) hb9 hok h).toP ⟨rfl, (fun k h1 h2 h3 h4 => by simp [us, h1, h2, h3, h4]), Or.inr ⟨by unfold opR; rw [if_pos rfl, if_neg h], _, rfl, by decide⟩⟩
  · by_cases h : a ≤ 6
    · skip
      exact (c_X5_doneOne_s_ok w tu sg k a b hk hl (ha0 (by decide)) ha9 hok h).toP ⟨rfl, (fun k h1 h2 h3 h4 => by simp [us, h1, h2, h3, h4]), Or.inl ⟨_, _, by unfold opR; rw [if_neg (by decide), if_pos rfl, if_pos h]; exact (congrArg some (us_same _ _ _)).symm, rfl, rfl, (m2_of ⟨_, by have := hok.2.2.2.1.2; omega, hok.2.2.2.1.1⟩)⟩⟩
    · skip
      exact (c_X5_doneOne_s_no w tu sg k a b hk hl (ha0 (by decide)) ha9 hok h).toP ⟨rfl, (fun k h1 h2 h3 h4 => by simp [us, h1, h2, h3, h4]), Or.inr ⟨by unfold opR; rw [if_neg (by decide), if_pos rfl, if_neg h], _, rfl, by decide⟩⟩
  · by_cases h : 1 ≤ a ∧ a ≤ 99
    · skip
      exact (c_X5_doneOne_u_ok w tu sg k a b hk hl (ha0 (by decide)) ha9 hok h).toP ⟨rfl, (fun k h1 h2 h3 h4 => by simp [us, h1, h2, h3, h4]), Or.inl ⟨_, _, by unfold opR; rw [if_neg (by decide), if_neg (by decide), if_pos rfl, if_pos h]; exact (congrArg some (us_same _ _ _)).symm, rfl, rfl, (rgs_gt h.2)⟩⟩
    · skip
      exact (c_X5_doneOne_u_no w tu sg k a b hk hl (ha0 (by decide)) ha9 hok h).toP ⟨rfl, (fun k h1 h2 h3 h4 => by simp [us, h1, h2, h3, h4]), Or.inr ⟨by unfold opR; rw [if_neg (by decide), if_neg (by decide), if_pos rfl, if_neg h], _, rfl, by decide⟩⟩
  · by_cases h : 1 ≤ a ∧ a ≤ 99
    · skip
      exact (c_X5_doneOne_d_ok w tu sg k a b hk hl (ha0 (by decide)) ha9 hok h).toP ⟨rfl, (fun k h1 h2 h3 h4 => by simp [us, h1, h2, h3, h4]), Or.inl ⟨_, _, by unfold opR; rw [if_neg (by decide), if_neg (by decide), if_neg (by decide), if_pos rfl, if_pos h]; exact (congrArg some (us_same _ _ _)).symm, rfl, rfl, (rgs_gt h.2)⟩⟩
    · skip
      exact (c_X5_doneOne_d_no w tu sg k a b hk hl (ha0 (by decide)) ha9 hok h).toP ⟨rfl, (fun k h1 h2 h3 h4 => by simp [us, h1, h2, h3, h4]), Or.inr ⟨by unfold opR; rw [if_neg (by decide), if_neg (by decide), if_neg (by decide), if_pos rfl, if_neg h], _, rfl, by decide⟩⟩
  · skip
    exact (c_X5_doneOne_c_ok w tu sg k a b hk hl hok ).toP ⟨rfl, (fun k h1 h2 h3 h4 => by simp [us, h1, h2, h3, h4]), Or.inl ⟨_, _, by unfold opR; rw [if_neg (by decide), if_neg (by decide), if_neg (by decide), if_neg (by decide), if_pos rfl]; exact (congrArg some (us_same _ _ _)).symm, rfl, rfl, (czX_gt (by decide))⟩⟩
  · by_cases h : a ≤ 999999 ∧ b ≤ 1
    · rcases (show b = 0 ∨ b = 1 by omega) with hbv | hbv
      · skip
        exact (c_X5_doneOne_t_0 w tu sg k a b hk hl (ha0 (by decide)) ha9 (hb0 (by decide)) hb9 hok hbv h.1).toP ⟨rfl, (fun k h1 h2 h3 h4 => by simp [us, h1, h2, h3, h4]), Or.inl ⟨_, _, by unfold opR; rw [if_neg (by decide), if_neg (by decide), if_neg (by decide), if_neg (by decide), if_neg (by decide), if_pos rfl, if_pos ⟨h.1, hbv⟩]; exact (congrArg some (us_same _ _ _)).symm, rfl, rfl, (m2_lt (by have := smP_le (how := 0) (n := a) 7; omega))⟩⟩
      · skip
        exact (c_X5_doneOne_t_1 w tu sg k a b hk hl (ha0 (by decide)) ha9 (hb0 (by decide)) hb9 hok hbv h.1).toP ⟨rfl, (fun k h1 h2 h3 h4 => by simp [us, h1, h2, h3, h4]), Or.inl ⟨_, _, by unfold opR; rw [if_neg (by decide), if_neg (by decide), if_neg (by decide), if_neg (by decide), if_neg (by decide), if_pos rfl, if_neg (by omega), if_pos ⟨h.1, hbv⟩]; exact (congrArg some (us_same _ _ _)).symm, rfl, rfl, (m2_lt (by have := smP_le (how := 1) (n := a) 7; omega))⟩⟩
    · skip
      exact (c_X5_doneOne_t_no w tu sg k a b hk hl (ha0 (by decide)) ha9 (hb0 (by decide)) hb9 hok h).toP ⟨rfl, (fun k h1 h2 h3 h4 => by simp [us, h1, h2, h3, h4]), Or.inr ⟨by unfold opR; rw [if_neg (by decide), if_neg (by decide), if_neg (by decide), if_neg (by decide), if_neg (by decide), if_pos rfl, if_neg (by omega), if_neg (by omega)], _, rfl, by decide⟩⟩
  · by_cases hz : gsm (gN (sg 45)) 6 = 0
    · skip
      exact (c_X5_doneOne_v_z w tu sg k a b hk hl hok hz).toP ⟨rfl, (fun k h1 h2 h3 h4 => by simp [us, h1, h2, h3, h4]), Or.inr ⟨by unfold opR; rw [if_neg (by decide), if_neg (by decide), if_neg (by decide), if_neg (by decide), if_neg (by decide), if_neg (by decide), if_pos rfl, if_pos hz], _, rfl, by decide⟩⟩
    · cases hb : dvB (gN (sg 45)) 7 (ccR (sg 45)) with
      | true =>
        exact (c_X5_doneOne_v_ok w tu sg k a b hk hl hok hz hb).toP ⟨rfl, (fun k h1 h2 h3 h4 => by simp [us, h1, h2, h3, h4]), Or.inl ⟨_, _, by unfold opR; rw [if_neg (by decide), if_neg (by decide), if_neg (by decide), if_neg (by decide), if_neg (by decide), if_neg (by decide), if_pos rfl, if_neg hz, if_pos hb]; exact (congrArg some (us_same _ _ _)).symm, rfl, rfl, (m2_lt (by have := dvC_le (g := gN (sg 45)) 7 (ccR (sg 45)); omega))⟩⟩
      | false =>
        exact (c_X5_doneOne_v_no w tu sg k a b hk hl hok hz hb).toP ⟨rfl, (fun k h1 h2 h3 h4 => by simp [us, h1, h2, h3, h4]), Or.inr ⟨by unfold opR; rw [if_neg (by decide), if_neg (by decide), if_neg (by decide), if_neg (by decide), if_neg (by decide), if_neg (by decide), if_pos rfl, if_neg hz, if_neg (by rw [hb]; decide)], _, rfl, by decide⟩⟩
  · by_cases h : a < 6 ∧ 1 ≤ b ∧ b ≤ 9
    · skip
      exact (c_X5_doneOne_w_ok w tu sg k a b hk hl (ha0 (by decide)) ha9 (hb0 (by decide)) hb9 hok h).toP ⟨rfl, (fun k h1 h2 h3 h4 => by simp [us, h1, h2, h3, h4]), Or.inl ⟨_, _, by unfold opR; rw [if_neg (by decide), if_neg (by decide), if_neg (by decide), if_neg (by decide), if_neg (by decide), if_neg (by decide), if_neg (by decide), if_pos rfl, if_pos h]; exact (congrArg some (us_same _ _ _)).symm, rfl, rfl, wmX_gt⟩⟩
    · skip
      exact (c_X5_doneOne_w_no w tu sg k a b hk hl (ha0 (by decide)) ha9 (hb0 (by decide)) hb9 hok h).toP ⟨rfl, (fun k h1 h2 h3 h4 => by simp [us, h1, h2, h3, h4]), Or.inr ⟨by unfold opR; rw [if_neg (by decide), if_neg (by decide), if_neg (by decide), if_neg (by decide), if_neg (by decide), if_neg (by decide), if_neg (by decide), if_pos rfl, if_neg h], _, rfl, by decide⟩⟩
  · by_cases h : a ≤ 12
    · skip
      exact (c_X5_doneOne_r_ok w tu sg k a b hk hl (ha0 (by decide)) ha9 hok h).toP ⟨rfl, (fun k h1 h2 h3 h4 => by simp [us, h1, h2, h3, h4]), Or.inl ⟨_, _, by unfold opR; rw [if_neg (by decide), if_neg (by decide), if_neg (by decide), if_neg (by decide), if_neg (by decide), if_neg (by decide), if_neg (by decide), if_neg (by decide), if_pos h]; exact (congrArg some (us_same _ _ _)).symm, rfl, rfl, (m2_of ⟨_, by have := hok.2.2.2.2.2; omega, hok.2.2.2.2.1⟩)⟩⟩
    · skip
      exact (c_X5_doneOne_r_no w tu sg k a b hk hl (ha0 (by decide)) ha9 hok h).toP ⟨rfl, (fun k h1 h2 h3 h4 => by simp [us, h1, h2, h3, h4]), Or.inr ⟨by unfold opR; rw [if_neg (by decide), if_neg (by decide), if_neg (by decide), if_neg (by decide), if_neg (by decide), if_neg (by decide), if_neg (by decide), if_neg (by decide), if_neg h], _, rfl, by decide⟩⟩
theorem opR_ok {l a b : Nat} {f f' : Nat → Int32} (hf : ROk f) (h : opR l a b f = some f') : ROk f' := by
  have hg : ∀ i, i < 6 → gN f i ≤ 9 := fun _ h => (gN_ok hf h).2
  unfold opR at h
  split at h
  · split at h
    · rename_i hc; cases h
      refine ROk.mk (d := fun k => if k = a then b else dN f k) (o := oN f) (wh := wN f) (s := sN f) (re := reN f) (fun k hk => ?_) (fun k hk => ?_) (fun k hk => ?_) ?_ ?_
      · by_cases hka : k = a
        · subst hka; rw [upd_same, if_pos rfl]; exact ⟨rfl, hc.2⟩
        · rw [upd_ne hka, if_neg hka]; exact hf.1 k hk
      · rw [upd_ne (by omega)]; exact hf.2.1 k hk
      · rw [upd_ne (by omega)]; exact hf.2.2.1 k hk
      · rw [upd_ne (by omega)]; exact hf.2.2.2.1
      · rw [upd_ne (by omega)]; exact hf.2.2.2.2
    · cases h
  · split at h
    · split at h
      · rename_i hc; cases h; exact sh_ok hf hc
      · cases h
    · split at h
      · split at h
        · cases h; exact itR_ok hf hg _
        · cases h
      · split at h
        · split at h
          · cases h; exact itR_ok hf hg _
          · cases h
        · split at h
          · cases h; exact clR_ok hf
          · split at h
            · split at h
              · cases h; exact muR_ok (clR_ok hf) hg 6 (by decide)
              · split at h
                · cases h; exact muR_ok (clR_ok hf) hg 7 (by decide)
                · cases h
            · split at h
              · split at h
                · cases h
                · split at h
                  · cases h; exact dvF_ok hg 7 _ (by decide) (ccR_ok hf)
                  · cases h
              · split at h
                · split at h
                  · rename_i hc; cases h
                    have hx : ∀ m, m < 1024 → m % 2 = 0 → ∀ t, t < 10 → 1 ≤ t → ∃ m2, m2 < 1024 ∧ m2 % 2 = 0 ∧ nI m ^^^ (nI 1 <<< (nI t &&& 31)) = nI m2 := by
                      intro m hm he t ht ht1
                      rw [sh_nI (by omega)]
                      refine ⟨m ^^^ 2 ^ t, Nat.xor_lt_two_pow (n := 10) hm (Nat.pow_lt_pow_right (by decide) ht), ?_, nx_xor' m (2 ^ t)⟩
                      have h1 : (m ^^^ 2 ^ t).testBit 0 = false := by
                        rw [Nat.testBit_xor, Nat.testBit_two_pow_of_ne (by omega)]
                        rw [Nat.testBit_zero]
                        simp [he]
                      rw [Nat.testBit_zero] at h1
                      have h2 := Nat.mod_two_eq_zero_or_one (m ^^^ 2 ^ t)
                      rcases h2 with h2 | h2
                      · exact h2
                      · rw [h2] at h1; simp at h1
                    have h9 := hf.2.1 a hc.1
                    obtain ⟨m2, q1, q2, q3⟩ := hx (oN f a) h9.2.1 h9.2.2 b (by omega) hc.2.1
                    refine ROk.mk (d := dN f) (o := fun k => if k = a then m2 else oN f k) (wh := wN f) (s := sN f) (re := reN f) (fun k hk => ?_) (fun k hk => ?_) (fun k hk => ?_) ?_ ?_
                    · rw [upd_ne (by omega)]; exact hf.1 k hk
                    · by_cases hka : k = a
                      · subst hka; rw [upd_same, if_pos rfl, h9.1, q3]; exact ⟨rfl, q1, q2⟩
                      · rw [upd_ne (by omega), if_neg hka]; exact hf.2.1 k hk
                    · rw [upd_ne (by omega)]; exact hf.2.2.1 k hk
                    · rw [upd_ne (by omega)]; exact hf.2.2.2.1
                    · rw [upd_ne (by omega)]; exact hf.2.2.2.2
                  · cases h
                · split at h
                  · rename_i hc; cases h
                    refine ROk.mk (d := dN f) (o := oN f) (wh := wN f) (s := sN f) (re := a) (fun k hk => ?_) (fun k hk => ?_) (fun k hk => ?_) ?_ ?_
                    · rw [upd_ne (by omega)]; exact hf.1 k hk
                    · rw [upd_ne (by omega)]; exact hf.2.1 k hk
                    · rw [upd_ne (by omega)]; exact hf.2.2.1 k hk
                    · rw [upd_ne (by omega)]; exact hf.2.2.2.1
                    · rw [upd_same]; exact ⟨rfl, hc⟩
                  · cases h
