set_option maxRecDepth 100000 in
set_option maxHeartbeats 400000 in
theorem c_X5_in (w : GW) (tu : Int64) (sg : Sg) (a : Int64) (b : Int64) (c : Int64) : Kt w yX5_in cX5_in 6 (some .boolean) 0 [.long a, .long b, .long c] sg tu (some (.int (bI (b ≤ a ∧ a ≤ c)))) sg tu := by
  refine Kt.of2 RX5 rfl [(0, .long a), (2, .long b), (4, .long c)] (by decide) rfl (Nat.le_of_ble_eq_true rfl) (fun z C E => ?_)
  refine g_lload_n C 0 rfl rfl dX5_in_0 ?_
  refine g_lload_n C 1 rfl rfl dX5_in_1 ?_
  refine g_lcmp C dX5_in_2 ?_
  refine g_lif_lt C (tgt := 17) (by decide) dX5_in_3 (fun h3 => ?_) (fun h3 => ?_)
  ·
    refine g_iconst C (v := (nI 0)) (by decide) dX5_in_17 ?_
    exact g_zret C E dX5_in_18 (by decide +kernel) (bI_f (fun q => by have := Int64.not_le.mpr h3; exact this q.1)).symm Sq.rf rfl
  ·
    refine g_lload_n C 0 rfl rfl dX5_in_6 ?_
    refine g_lload C 2 rfl dX5_in_7 ?_
    refine g_lcmp C dX5_in_9 ?_
    refine g_lif_gt C (tgt := 17) (by decide) dX5_in_10 (fun h10 => ?_) (fun h10 => ?_)
    ·
      refine g_iconst C (v := (nI 0)) (by decide) dX5_in_17 ?_
      exact g_zret C E dX5_in_18 (by decide +kernel) (bI_f (fun q => by have := Int64.not_le.mpr h10; exact this q.2)).symm Sq.rf rfl
    ·
      refine g_iconst C (v := (nI 1)) (by decide) dX5_in_13 ?_
      refine g_goto C (tgt := 18) (by decide) dX5_in_14 ?_
      exact g_zret C E dX5_in_18 (by decide +kernel) (bI_t ⟨Int64.not_lt.mp h3, Int64.not_lt.mp h10⟩).symm Sq.rf rfl
theorem c_X5_in_t (w : GW) (tu : Int64) (sg : Sg) (a b c : Int64) (h : b ≤ a ∧ a ≤ c) : Kt w yX5_in cX5_in 6 (some .boolean) 0 [.long a, .long b, .long c] sg tu (some (.int (nI 1))) sg tu := by
  have h1 := c_X5_in w tu sg a b c
  rw [bI_t h] at h1
  exact h1
theorem c_X5_in_f (w : GW) (tu : Int64) (sg : Sg) (a b c : Int64) (h : ¬ (b ≤ a ∧ a ≤ c)) : Kt w yX5_in cX5_in 6 (some .boolean) 0 [.long a, .long b, .long c] sg tu (some (.int (nI 0))) sg tu := by
  have h1 := c_X5_in w tu sg a b c
  rw [bI_f h] at h1
  exact h1
set_option maxRecDepth 100000 in
set_option maxHeartbeats 400000 in
theorem c_X5_isDrum (w : GW) (tu : Int64) (sg : Sg) (x : Int32) : Kt w yX5_isDrum cX5_isDrum 1 (some .boolean) 1 [.int x] sg tu (some (.int (bI (0 ≤ Int32.toInt64 x ∧ Int32.toInt64 x ≤ 5)))) sg tu := by
  refine Kt.of2 RX5 rfl [(0, .int x)] (by decide) rfl (Nat.le_of_ble_eq_true rfl) (fun z C E => ?_)
  refine g_iload_n C 0 rfl rfl dX5_isDrum_0 ?_
  refine g_i2l C dX5_isDrum_1 ?_
  refine g_lconst C (v := 0) (by decide) dX5_isDrum_2 ?_
  refine g_ldc2 C cn_X5_51 dX5_isDrum_3 ?_
  refine g_callS1 [] C (c_X5_in w tu sg (Int32.toInt64 x) 0 5 ) mt_X5_in ml_X5_53 st_X5_in (by decide) rfl (Nat.le_of_ble_eq_true rfl) dX5_isDrum_6 ?_
  refine g_eq (L' := [(0, .int x)]) (S' := [.int (bI (0 ≤ (Int32.toInt64 x) ∧ (Int32.toInt64 x) ≤ 5))]) rfl rfl rfl rfl ?_
  exact g_zret C E dX5_isDrum_9 bI_nar rfl Sq.rf rfl
theorem c_X5_isDrum_t (w : GW) (tu : Int64) (sg : Sg) (j : Nat) (h : j < 6) : Kt w yX5_isDrum cX5_isDrum 1 (some .boolean) 1 [.int (nI j)] sg tu (some (.int (nI 1))) sg tu := by
  have h1 := c_X5_isDrum w tu sg (nI j)
  have e : bI (0 ≤ Int32.toInt64 (nI j) ∧ Int32.toInt64 (nI j) ≤ 5) = 1 := bI_t (in_ok (n := 5) (by omega) (by decide))
  rw [e] at h1
  exact h1
set_option maxRecDepth 100000 in
set_option maxHeartbeats 400000 in
theorem c_X5_change (w : GW) (tu : Int64) (sg : Sg) (j : Nat) (v : Int32) (hj : j < 35) : Kt w yX5_change cX5_change 4 (some .int) 0 [.ref (ad w 44), .int (nI j), .int v] sg tu (some (.int (sg 45 j))) (us sg 45 (upd (sg 45) j v)) tu := by
  refine Kt.of2 RX5 rfl [(0, .ref (ad w 44)), (1, .int (nI j)), (2, .int v)] (by decide) rfl (Nat.le_of_ble_eq_true rfl) (fun z C E => ?_)
  refine g_aload_n C 0 rfl rfl dX5_change_0 ?_
  refine g_getR C (j := 0) cls5 e_44 rfl (by decide) fl_X5_7 dX5_change_1 ?_
  refine g_iload_n C 1 rfl rfl dX5_change_4 ?_
  refine g_ialdN C j e_45 hj (by decide) dX5_change_5 ?_
  refine g_istore_n C (L' := [(3, .int (sg 45 j)), (0, .ref (ad w 44)), (1, .int (nI j)), (2, .int v)]) rfl (by decide) rfl dX5_change_6 ?_
  refine g_aload_n C 1 rfl rfl dX5_change_7 ?_
  refine g_getR C (j := 0) cls5 e_44 rfl (by decide) fl_X5_7 dX5_change_8 ?_
  refine g_iload_n C 2 rfl rfl dX5_change_11 ?_
  refine g_iload_n C 3 rfl rfl dX5_change_12 ?_
  refine g_iastN C j e_45 hj (by decide) dX5_change_13 ?_
  refine g_sgE (sg' := (us sg 45 (upd (sg 45) j v))) rfl ?_
  refine g_iload_n C 0 rfl rfl dX5_change_14 ?_
  exact g_iret C E dX5_change_15 rfl Sq.rf rfl
set_option maxRecDepth 100000 in
set_option maxHeartbeats 400000 in
theorem c_X5_fails (w : GW) (tu : Int64) (sg : Sg) : Kt w yX5_fails cX5_fails 1 (some .boolean) 0 [.ref (ad w 44)] sg tu (some (.int (nI 0))) (us sg 44 (upd (sg 44) 14 (sg 44 13))) tu := by
  refine Kt.of2 RX5 rfl [(0, .ref (ad w 44))] (by decide) rfl (Nat.le_of_ble_eq_true rfl) (fun z C E => ?_)
  refine g_aload_n C 0 rfl rfl dX5_fails_0 ?_
  refine g_aload_n C 0 rfl rfl dX5_fails_1 ?_
  refine g_getI C (j := 13) cls5 e_44 rfl (by decide) fl_X5_183 dX5_fails_2 ?_
  refine g_putI C (j := 14) cls5 e_44 rfl (by decide) rfl rfl fl_X5_189 dX5_fails_5 ?_
  refine g_sgE (sg' := (us sg 44 (upd (sg 44) 14 (sg 44 13)))) rfl ?_
  refine g_iconst C (v := (nI 0)) (by decide) dX5_fails_8 ?_
  exact g_zret C E dX5_fails_9 (by decide +kernel) rfl Sq.rf rfl
set_option maxRecDepth 100000 in
set_option maxHeartbeats 400000 in
theorem c_X5_mix (w : GW) (tu : Int64) (sg : Sg) (v : Int64) : Kt w yX5_mix cX5_mix 3 none 0 [.ref (ad w 44), .long v] sg tu (none) sg (31 * tu + v) := by
  refine Kt.of2 RX5 rfl [(0, .ref (ad w 44)), (1, .long v)] (by decide) rfl (Nat.le_of_ble_eq_true rfl) (fun z C E => ?_)
  refine g_aload_n C 0 rfl rfl dX5_mix_0 ?_
  refine g_ldc2 C cn_X5_221 dX5_mix_1 ?_
  refine g_aload_n C 0 rfl rfl dX5_mix_4 ?_
  refine g_getL C (j := 15) cls5 e_44 rfl (by decide) fl_X5_223 dX5_mix_5 ?_
  refine g_lmul C dX5_mix_8 ?_
  refine g_lload_n C 1 rfl rfl dX5_mix_9 ?_
  refine g_ladd C dX5_mix_10 ?_
  refine g_putL C fl_X5_223 dX5_mix_11 ?_
  exact g_vret C E dX5_mix_14 Sq.rf rfl
set_option maxRecDepth 100000 in
set_option maxHeartbeats 400000 in
theorem c_X5_wipes (w : GW) (tu : Int64) (sg : Sg) : Kt w yX5_wipes cX5_wipes 2 (some .int) 0 [.ref (ad w 44)] sg tu (some (.int (sg 44 6))) (us sg 44 (upd (sg 44) 6 (nI 0))) tu := by
  refine Kt.of2 RX5 rfl [(0, .ref (ad w 44))] (by decide) rfl (Nat.le_of_ble_eq_true rfl) (fun z C E => ?_)
  refine g_aload_n C 0 rfl rfl dX5_wipes_0 ?_
  refine g_getI C (j := 6) cls5 e_44 rfl (by decide) fl_X5_180 dX5_wipes_1 ?_
  refine g_istore_n C (L' := [(1, .int (sg 44 6)), (0, .ref (ad w 44))]) rfl (by decide) rfl dX5_wipes_4 ?_
  refine g_aload_n C 1 rfl rfl dX5_wipes_5 ?_
  refine g_iconst C (v := (nI 0)) (by decide) dX5_wipes_6 ?_
  refine g_putI C (j := 6) cls5 e_44 rfl (by decide) rfl rfl fl_X5_180 dX5_wipes_7 ?_
  refine g_sgE (sg' := (us sg 44 (upd (sg 44) 6 (nI 0)))) rfl ?_
  refine g_iload_n C 0 rfl rfl dX5_wipes_10 ?_
  exact g_iret C E dX5_wipes_11 rfl Sq.rf rfl
