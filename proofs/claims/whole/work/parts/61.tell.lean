theorem ws_nat {f : Nat → Int32} : ∀ d, ∃ c, c ≤ 9 * d ∧ wsX f d = nI c
  | 0 => ⟨0, by omega, rfl⟩
  | d + 1 => by
    obtain ⟨c, hc, e⟩ := ws_nat (f := f) d
    obtain ⟨b, hb, e2⟩ := wmX_nat (f (6 + d)) 9
    refine ⟨c + b, by omega, ?_⟩
    show wsX f d + wmX (f (6 + d)) 10 = _
    rw [e, e2, nI_add]
theorem nn_7 {f : Nat → Int32} : 0 ≤ wsX f 6 := by
  obtain ⟨c, hc, e⟩ := ws_nat (f := f) 6
  rw [e]
  exact nI_pos' (by omega)
theorem nn_0 {f : Nat → Int32} (hf : ROk f) : 0 ≤ nbX f 0 6 (nI 0) := by
  rw [(nb_dig hf).1]
  exact nI_pos' (by have := (nb_dig hf).2; omega)
theorem nn_1 {f : Nat → Int32} (hf : ROk f) : 0 ≤ nI (ngX (gN f) 6 0) :=
  nI_pos' (by have := ngX_lt (g := gN f) 6 0 (fun k hk => (gN_ok hf hk).2); omega)
theorem nn_f {f : Nat → Int32} {j c : Nat} (h : f j = nI c) (hc : c < 2 ^ 31) : 0 ≤ f j := by
  rw [h]; exact nI_pos' hc
theorem vl_lt {f : Nat → Int32} (hf : ROk f) : 0 ≤ vlX f 12 12 0 ∧ vlX f 12 12 0 ≤ 999999999999 := by
  have h := vlX_nat (f := f) (b := 12) (d := wN f) 12 0 (fun k hk => ⟨(hf.2.2.1 k hk).1, by have := (hf.2.2.1 k hk).2; omega⟩)
  have h2 := nbN_lt (d := wN f) 12 0 (fun k hk => (hf.2.2.1 k hk).2)
  rw [show (0 : Int64) = lN 0 from rfl, h]
  exact ⟨(pk_lLE (by omega) (by omega)).mpr (Nat.zero_le _), (pk_lLE (b := 999999999999) (by omega) (by omega)).mpr (by omega)⟩
def tC (sg : Sg) (k : Nat) : Int32 := if k < 3 then sg 0 (5 + k) else if k = 3 then sg 38 1 else sg 11 2
theorem mxs_add {h0 : Int64} {t : Nat → Int32} {a : Nat} : ∀ b, mxs (mxs h0 t a) (fun k => t (a + k)) b = mxs h0 t (a + b)
  | 0 => rfl
  | b + 1 => by
    show 31 * mxs (mxs h0 t a) (fun k => t (a + k)) b + _ = 31 * mxs h0 t (a + b) + _
    rw [mxs_add b]
    rfl
theorem mxs_cg {h0 : Int64} {t t' : Nat → Int32} : ∀ b, (∀ k, k < b → t k = t' k) → mxs h0 t b = mxs h0 t' b
  | 0, _ => rfl
  | b + 1, h => by
    show 31 * mxs h0 t b + Int32.toInt64 (t b) = 31 * mxs h0 t' b + Int32.toInt64 (t' b)
    rw [mxs_cg b (fun k hk => h k (by omega)), h b (by omega)]
set_option maxRecDepth 100000 in
set_option maxHeartbeats 400000 in
theorem c_X4_turns_0 (w : GW) (tu : Int64) (sg : Sg) (n : Nat) (hn : n ≤ 999999) : Kt w yX4_turns cX4_turns 3 (some .int) 3 [.ref (ad w 0), .int (nI n), .int (nI 0)] sg tu (some (.int (nI (smP 0 n 6)))) sg tu := by
  refine Kt.of2 RX4 rfl [(0, .ref (ad w 0)), (1, .int (nI n)), (2, .int (nI 0))] (by decide) rfl (Nat.le_of_ble_eq_true rfl) (fun z C E => ?_)
  refine g_aload_n C 0 rfl rfl dX4_turns_0 ?_
  refine g_iload_n C 1 rfl rfl dX4_turns_1 ?_
  refine g_iload_n C 2 rfl rfl dX4_turns_2 ?_
  refine g_callS1 [.ref (ad w 0)] C (c_X4_turnsToMultiply_0 w tu sg n hn) mt_X4_turnsToMultiply ml_X4_80 st_X4_turnsToMultiply (by decide) rfl (Nat.le_of_ble_eq_true rfl) dX4_turns_3 ?_
  refine g_eq (L' := [(0, .ref (ad w 0)), (1, .int (nI n)), (2, .int (nI 0))]) (S' := [.int (nI (smP 0 n 6)), .ref (ad w 0)]) rfl rfl rfl rfl ?_
  refine g_callV1 [] C (c_X4_counted_ok w tu sg (nI (smP 0 n 6)) (nI_pos' (by have := smP_le (how := 0) (n := n) 6; omega))) mt_X4_counted e_0 rfl ml_X4_83 im_X4_counted se_X4_counted (by decide) rfl (Nat.le_of_ble_eq_true rfl) dX4_turns_6 ?_
  refine g_eq (L' := [(0, .ref (ad w 0)), (1, .int (nI n)), (2, .int (nI 0))]) (S' := [.int (nI (smP 0 n 6))]) rfl rfl rfl rfl ?_
  exact g_iret C E dX4_turns_9 rfl Sq.rf rfl
set_option maxRecDepth 100000 in
set_option maxHeartbeats 400000 in
theorem c_X4_turns_1 (w : GW) (tu : Int64) (sg : Sg) (n : Nat) (hn : n ≤ 999999) : Kt w yX4_turns cX4_turns 3 (some .int) 3 [.ref (ad w 0), .int (nI n), .int (nI 1)] sg tu (some (.int (nI (smP 1 n 7)))) sg tu := by
  refine Kt.of2 RX4 rfl [(0, .ref (ad w 0)), (1, .int (nI n)), (2, .int (nI 1))] (by decide) rfl (Nat.le_of_ble_eq_true rfl) (fun z C E => ?_)
  refine g_aload_n C 0 rfl rfl dX4_turns_0 ?_
  refine g_iload_n C 1 rfl rfl dX4_turns_1 ?_
  refine g_iload_n C 2 rfl rfl dX4_turns_2 ?_
  refine g_callS1 [.ref (ad w 0)] C (c_X4_turnsToMultiply_1 w tu sg n hn) mt_X4_turnsToMultiply ml_X4_80 st_X4_turnsToMultiply (by decide) rfl (Nat.le_of_ble_eq_true rfl) dX4_turns_3 ?_
  refine g_eq (L' := [(0, .ref (ad w 0)), (1, .int (nI n)), (2, .int (nI 1))]) (S' := [.int (nI (smP 1 n 7)), .ref (ad w 0)]) rfl rfl rfl rfl ?_
  refine g_callV1 [] C (c_X4_counted_ok w tu sg (nI (smP 1 n 7)) (nI_pos' (by have := smP_le (how := 1) (n := n) 7; omega))) mt_X4_counted e_0 rfl ml_X4_83 im_X4_counted se_X4_counted (by decide) rfl (Nat.le_of_ble_eq_true rfl) dX4_turns_6 ?_
  refine g_eq (L' := [(0, .ref (ad w 0)), (1, .int (nI n)), (2, .int (nI 1))]) (S' := [.int (nI (smP 1 n 7))]) rfl rfl rfl rfl ?_
  exact g_iret C E dX4_turns_9 rfl Sq.rf rfl
set_option maxRecDepth 100000 in
set_option maxHeartbeats 400000 in
theorem c_X4_turns_bad (w : GW) (tu : Int64) (sg : Sg) (x : Int32) (v : Int32) (h : ¬ ((0 ≤ Int32.toInt64 x ∧ Int32.toInt64 x ≤ 999999) ∧ (0 ≤ Int32.toInt64 v ∧ Int32.toInt64 v ≤ 1))) : Kt w yX4_turns cX4_turns 3 (some .int) 3 [.ref (ad w 0), .int x, .int v] sg tu (some (.int (-2))) (us sg 0 (upd (sg 0) 5 ((sg 0) 5 + nI 1))) tu := by
  refine Kt.of2 RX4 rfl [(0, .ref (ad w 0)), (1, .int x), (2, .int v)] (by decide) rfl (Nat.le_of_ble_eq_true rfl) (fun z C E => ?_)
  refine g_aload_n C 0 rfl rfl dX4_turns_0 ?_
  refine g_iload_n C 1 rfl rfl dX4_turns_1 ?_
  refine g_iload_n C 2 rfl rfl dX4_turns_2 ?_
  refine g_callS1 [.ref (ad w 0)] C (c_X4_turnsToMultiply_bad w tu sg x v h) mt_X4_turnsToMultiply ml_X4_80 st_X4_turnsToMultiply (by decide) rfl (Nat.le_of_ble_eq_true rfl) dX4_turns_3 ?_
  refine g_eq (L' := [(0, .ref (ad w 0)), (1, .int x), (2, .int v)]) (S' := [.int (-2), .ref (ad w 0)]) rfl rfl rfl rfl ?_
  refine g_callV1 [] C (c_X4_counted_bad w tu sg  ) mt_X4_counted e_0 rfl ml_X4_83 im_X4_counted se_X4_counted (by decide) rfl (Nat.le_of_ble_eq_true rfl) dX4_turns_6 ?_
  refine g_eq (sg' := (us sg 0 (upd (sg 0) 5 ((sg 0) 5 + nI 1)))) (L' := [(0, .ref (ad w 0)), (1, .int x), (2, .int v)]) (S' := [.int (-2)]) rfl rfl rfl rfl ?_
  exact g_iret C E dX4_turns_9 rfl Sq.rf rfl
set_option maxRecDepth 100000 in
set_option maxHeartbeats 400000 in
theorem c_X4_drum_0 (w : GW) (tu : Int64) (sg : Sg) (d : Nat) (hd : d < 6) (hok : ROk (rowC sg 1)) : Kt w yX4_drum cX4_drum 3 (some .int) 3 [.ref (ad w 0), .int (nI d), .int (nI 0)] sg tu (some (.int ((rowC sg 1) d))) sg tu := by
  refine Kt.of2 RX4 rfl [(0, .ref (ad w 0)), (1, .int (nI d)), (2, .int (nI 0))] (by decide) rfl (Nat.le_of_ble_eq_true rfl) (fun z C E => ?_)
  refine g_aload_n C 0 rfl rfl dX4_drum_0 ?_
  refine g_aload_n C 0 rfl rfl dX4_drum_1 ?_
  refine g_getR C (j := 0) cls4 e_0 rfl (by decide) fl_X4_10 dX4_drum_2 ?_
  refine g_iload_n C 1 rfl rfl dX4_drum_5 ?_
  refine g_iload_n C 2 rfl rfl dX4_drum_6 ?_
  refine g_callV1 [.ref (ad w 0)] C (c_X3_tellDrum_0 w tu sg d hd hok) mt_X3_tellDrum e_1 rfl ml_X4_86 im_X3_tellDrum se_X3_tellDrum (by decide) rfl (Nat.le_of_ble_eq_true rfl) dX4_drum_7 ?_
  refine g_eq (L' := [(0, .ref (ad w 0)), (1, .int (nI d)), (2, .int (nI 0))]) (S' := [.int ((rowC sg 1) d), .ref (ad w 0)]) rfl rfl rfl rfl ?_
  refine g_callV1 [] C (c_X4_counted_ok w tu sg ((rowC sg 1) d) (nn_f (hok.1 d hd).1 (by have := (hok.1 d hd).2; omega))) mt_X4_counted e_0 rfl ml_X4_83 im_X4_counted se_X4_counted (by decide) rfl (Nat.le_of_ble_eq_true rfl) dX4_drum_10 ?_
  refine g_eq (L' := [(0, .ref (ad w 0)), (1, .int (nI d)), (2, .int (nI 0))]) (S' := [.int ((rowC sg 1) d)]) rfl rfl rfl rfl ?_
  exact g_iret C E dX4_drum_13 rfl Sq.rf rfl
set_option maxRecDepth 100000 in
set_option maxHeartbeats 400000 in
theorem c_X4_drum_1 (w : GW) (tu : Int64) (sg : Sg) (d : Nat) (hd : d < 6) (hok : ROk (rowC sg 1)) : Kt w yX4_drum cX4_drum 3 (some .int) 3 [.ref (ad w 0), .int (nI d), .int (nI 1)] sg tu (some (.int (nI (gN (rowC sg 1) d)))) sg tu := by
  refine Kt.of2 RX4 rfl [(0, .ref (ad w 0)), (1, .int (nI d)), (2, .int (nI 1))] (by decide) rfl (Nat.le_of_ble_eq_true rfl) (fun z C E => ?_)
  refine g_aload_n C 0 rfl rfl dX4_drum_0 ?_
  refine g_aload_n C 0 rfl rfl dX4_drum_1 ?_
  refine g_getR C (j := 0) cls4 e_0 rfl (by decide) fl_X4_10 dX4_drum_2 ?_
  refine g_iload_n C 1 rfl rfl dX4_drum_5 ?_
  refine g_iload_n C 2 rfl rfl dX4_drum_6 ?_
  refine g_callV1 [.ref (ad w 0)] C (c_X3_tellDrum_1 w tu sg d hd hok) mt_X3_tellDrum e_1 rfl ml_X4_86 im_X3_tellDrum se_X3_tellDrum (by decide) rfl (Nat.le_of_ble_eq_true rfl) dX4_drum_7 ?_
  refine g_eq (L' := [(0, .ref (ad w 0)), (1, .int (nI d)), (2, .int (nI 1))]) (S' := [.int (nI (gN (rowC sg 1) d)), .ref (ad w 0)]) rfl rfl rfl rfl ?_
  refine g_callV1 [] C (c_X4_counted_ok w tu sg (nI (gN (rowC sg 1) d)) (nI_pos' (by have := (gN_ok hok hd).2; omega))) mt_X4_counted e_0 rfl ml_X4_83 im_X4_counted se_X4_counted (by decide) rfl (Nat.le_of_ble_eq_true rfl) dX4_drum_10 ?_
  refine g_eq (L' := [(0, .ref (ad w 0)), (1, .int (nI d)), (2, .int (nI 1))]) (S' := [.int (nI (gN (rowC sg 1) d))]) rfl rfl rfl rfl ?_
  exact g_iret C E dX4_drum_13 rfl Sq.rf rfl
set_option maxRecDepth 100000 in
set_option maxHeartbeats 400000 in
theorem c_X4_drum_2 (w : GW) (tu : Int64) (sg : Sg) (d : Nat) (hd : d < 6) (hok : ROk (rowC sg 1)) : Kt w yX4_drum cX4_drum 3 (some .int) 3 [.ref (ad w 0), .int (nI d), .int (nI 2)] sg tu (some (.int ((rowC sg 1) (6 + d)))) sg tu := by
  refine Kt.of2 RX4 rfl [(0, .ref (ad w 0)), (1, .int (nI d)), (2, .int (nI 2))] (by decide) rfl (Nat.le_of_ble_eq_true rfl) (fun z C E => ?_)
  refine g_aload_n C 0 rfl rfl dX4_drum_0 ?_
  refine g_aload_n C 0 rfl rfl dX4_drum_1 ?_
  refine g_getR C (j := 0) cls4 e_0 rfl (by decide) fl_X4_10 dX4_drum_2 ?_
  refine g_iload_n C 1 rfl rfl dX4_drum_5 ?_
  refine g_iload_n C 2 rfl rfl dX4_drum_6 ?_
  refine g_callV1 [.ref (ad w 0)] C (c_X3_tellDrum_2 w tu sg d hd hok) mt_X3_tellDrum e_1 rfl ml_X4_86 im_X3_tellDrum se_X3_tellDrum (by decide) rfl (Nat.le_of_ble_eq_true rfl) dX4_drum_7 ?_
  refine g_eq (L' := [(0, .ref (ad w 0)), (1, .int (nI d)), (2, .int (nI 2))]) (S' := [.int ((rowC sg 1) (6 + d)), .ref (ad w 0)]) rfl rfl rfl rfl ?_
  refine g_callV1 [] C (c_X4_counted_ok w tu sg ((rowC sg 1) (6 + d)) (nn_f (hok.2.1 d hd).1 (by have := (hok.2.1 d hd).2.1; omega))) mt_X4_counted e_0 rfl ml_X4_83 im_X4_counted se_X4_counted (by decide) rfl (Nat.le_of_ble_eq_true rfl) dX4_drum_10 ?_
  refine g_eq (L' := [(0, .ref (ad w 0)), (1, .int (nI d)), (2, .int (nI 2))]) (S' := [.int ((rowC sg 1) (6 + d))]) rfl rfl rfl rfl ?_
  exact g_iret C E dX4_drum_13 rfl Sq.rf rfl
set_option maxRecDepth 100000 in
set_option maxHeartbeats 400000 in
theorem c_X4_drum_bad (w : GW) (tu : Int64) (sg : Sg) (x : Int32) (v : Int32) (h : ¬ (0 ≤ Int32.toInt64 x ∧ Int32.toInt64 x ≤ 5)) : Kt w yX4_drum cX4_drum 3 (some .int) 2 [.ref (ad w 0), .int x, .int v] sg tu (some (.int (-2))) (us sg 0 (upd (sg 0) 5 ((sg 0) 5 + nI 1))) tu := by
  refine Kt.of2 RX4 rfl [(0, .ref (ad w 0)), (1, .int x), (2, .int v)] (by decide) rfl (Nat.le_of_ble_eq_true rfl) (fun z C E => ?_)
  refine g_aload_n C 0 rfl rfl dX4_drum_0 ?_
  refine g_aload_n C 0 rfl rfl dX4_drum_1 ?_
  refine g_getR C (j := 0) cls4 e_0 rfl (by decide) fl_X4_10 dX4_drum_2 ?_
  refine g_iload_n C 1 rfl rfl dX4_drum_5 ?_
  refine g_iload_n C 2 rfl rfl dX4_drum_6 ?_
  refine g_callV1 [.ref (ad w 0)] C (c_X3_tellDrum_bad w tu sg x v h) mt_X3_tellDrum e_1 rfl ml_X4_86 im_X3_tellDrum se_X3_tellDrum (by decide) rfl (Nat.le_of_ble_eq_true rfl) dX4_drum_7 ?_
  refine g_eq (L' := [(0, .ref (ad w 0)), (1, .int x), (2, .int v)]) (S' := [.int (-2), .ref (ad w 0)]) rfl rfl rfl rfl ?_
  refine g_callV1 [] C (c_X4_counted_bad w tu sg  ) mt_X4_counted e_0 rfl ml_X4_83 im_X4_counted se_X4_counted (by decide) rfl (Nat.le_of_ble_eq_true rfl) dX4_drum_10 ?_
  refine g_eq (sg' := (us sg 0 (upd (sg 0) 5 ((sg 0) 5 + nI 1)))) (L' := [(0, .ref (ad w 0)), (1, .int x), (2, .int v)]) (S' := [.int (-2)]) rfl rfl rfl rfl ?_
  exact g_iret C E dX4_drum_13 rfl Sq.rf rfl
set_option maxRecDepth 100000 in
set_option maxHeartbeats 400000 in
theorem c_X4_drum_out (w : GW) (tu : Int64) (sg : Sg) (d : Nat) (v : Int32) (hd : d < 6) (h : ¬ (0 ≤ Int32.toInt64 v ∧ Int32.toInt64 v ≤ 2)) : Kt w yX4_drum cX4_drum 3 (some .int) 2 [.ref (ad w 0), .int (nI d), .int v] sg tu (some (.int (-2))) (us sg 0 (upd (sg 0) 5 ((sg 0) 5 + nI 1))) tu := by
  refine Kt.of2 RX4 rfl [(0, .ref (ad w 0)), (1, .int (nI d)), (2, .int v)] (by decide) rfl (Nat.le_of_ble_eq_true rfl) (fun z C E => ?_)
  refine g_aload_n C 0 rfl rfl dX4_drum_0 ?_
  refine g_aload_n C 0 rfl rfl dX4_drum_1 ?_
  refine g_getR C (j := 0) cls4 e_0 rfl (by decide) fl_X4_10 dX4_drum_2 ?_
  refine g_iload_n C 1 rfl rfl dX4_drum_5 ?_
  refine g_iload_n C 2 rfl rfl dX4_drum_6 ?_
  refine g_callV1 [.ref (ad w 0)] C (c_X3_tellDrum_out w tu sg d v hd h) mt_X3_tellDrum e_1 rfl ml_X4_86 im_X3_tellDrum se_X3_tellDrum (by decide) rfl (Nat.le_of_ble_eq_true rfl) dX4_drum_7 ?_
  refine g_eq (L' := [(0, .ref (ad w 0)), (1, .int (nI d)), (2, .int v)]) (S' := [.int (-2), .ref (ad w 0)]) rfl rfl rfl rfl ?_
  refine g_callV1 [] C (c_X4_counted_bad w tu sg  ) mt_X4_counted e_0 rfl ml_X4_83 im_X4_counted se_X4_counted (by decide) rfl (Nat.le_of_ble_eq_true rfl) dX4_drum_10 ?_
  refine g_eq (sg' := (us sg 0 (upd (sg 0) 5 ((sg 0) 5 + nI 1)))) (L' := [(0, .ref (ad w 0)), (1, .int (nI d)), (2, .int v)]) (S' := [.int (-2)]) rfl rfl rfl rfl ?_
  exact g_iret C E dX4_drum_13 rfl Sq.rf rfl
theorem c_X4_drum_n (w : GW) (tu : Int64) (sg : Sg) (d q : Nat) (hd : d < 6) (hq : q ≤ 2) (hok : ROk (rowC sg 1)) : Kt w yX4_drum cX4_drum 3 (some .int) 3 [.ref (ad w 0), .int (nI d), .int (nI q)] sg tu (some (.int (drT (rowC sg 1) (3 * d + q)))) sg tu := by
  rcases (show q = 0 ∨ q = 1 ∨ q = 2 by omega) with rfl | rfl | rfl
  · have e : drT (rowC sg 1) (3 * d + 0) = rowC sg 1 d := by unfold drT; rw [if_pos (by omega), show (3 * d + 0) / 3 = d by omega]
    rw [e]; exact c_X4_drum_0 w tu sg d hd hok
  · have e : drT (rowC sg 1) (3 * d + 1) = nI (gN (rowC sg 1) d) := by unfold drT; rw [if_neg (by omega), if_pos (by omega), show (3 * d + 1) / 3 = d by omega]; exact (gN_ok hok hd).1
    rw [e]; exact c_X4_drum_1 w tu sg d hd hok
  · have e : drT (rowC sg 1) (3 * d + 2) = rowC sg 1 (6 + d) := by unfold drT; rw [if_neg (by omega), if_neg (by omega), show (3 * d + 2) / 3 = d by omega]
    rw [e]; exact c_X4_drum_2 w tu sg d hd hok
set_option maxRecDepth 100000 in
set_option maxHeartbeats 400000 in
theorem c_X4_wheel_ok (w : GW) (tu : Int64) (sg : Sg) (k : Nat) (hk : k ≤ 11) (hok : ROk (rowC sg 1)) : Kt w yX4_wheel cX4_wheel 2 (some .int) 1 [.ref (ad w 0), .int (nI k)] sg tu (some (.int ((rowC sg 1) (12 + k)))) sg tu := by
  refine Kt.of2 RX4 rfl [(0, .ref (ad w 0)), (1, .int (nI k))] (by decide) rfl (Nat.le_of_ble_eq_true rfl) (fun z C E => ?_)
  refine g_aload_n C 0 rfl rfl dX4_wheel_0 ?_
  refine g_iload_n C 1 rfl rfl dX4_wheel_1 ?_
  refine g_i2l C dX4_wheel_2 ?_
  refine g_lconst C (v := 0) (by decide) dX4_wheel_3 ?_
  refine g_ldc2 C cn_X4_89 dX4_wheel_4 ?_
  refine g_callS1 [.ref (ad w 0)] C (c_X4_within_t w tu sg (Int32.toInt64 (nI k)) 0 11 (in_ok (n := 11) (by omega) (by decide))) mt_X4_within ml_X4_91 st_X4_within (by decide) rfl (Nat.le_of_ble_eq_true rfl) dX4_wheel_7 ?_
  refine g_eq (L' := [(0, .ref (ad w 0)), (1, .int (nI k))]) (S' := [.int (nI 1), .ref (ad w 0)]) rfl rfl rfl rfl ?_
  refine g_if_eq C (tgt := 25) (by decide) dX4_wheel_10 (fun h10 => absurd h10 (by decide)) (fun h10 => ?_)
  refine g_aload_n C 0 rfl rfl dX4_wheel_13 ?_
  refine g_getR C (j := 0) cls4 e_0 rfl (by decide) fl_X4_10 dX4_wheel_14 ?_
  refine g_getR C (j := 2) cls3 e_1 rfl (by decide) fl_X4_95 dX4_wheel_17 ?_
  refine g_iload_n C 1 rfl rfl dX4_wheel_20 ?_
  refine g_ialdN C k e_4 (by omega) (by decide) dX4_wheel_21 ?_
  refine g_goto C (tgt := 27) (by decide) dX4_wheel_22 ?_
  refine g_top (y := ((rowC sg 1) (12 + k))) (rowC_w (sg := sg) (w := 1) (by omega)).symm ?_
  refine g_callV1 [] C (c_X4_counted_ok w tu sg ((rowC sg 1) (12 + k)) (nn_f (hok.2.2.1 k (by omega)).1 (by have := (hok.2.2.1 k (by omega)).2; omega))) mt_X4_counted e_0 rfl ml_X4_83 im_X4_counted se_X4_counted (by decide) rfl (Nat.le_of_ble_eq_true rfl) dX4_wheel_27 ?_
  refine g_eq (L' := [(0, .ref (ad w 0)), (1, .int (nI k))]) (S' := [.int ((rowC sg 1) (12 + k))]) rfl rfl rfl rfl ?_
  exact g_iret C E dX4_wheel_30 rfl Sq.rf rfl
set_option maxRecDepth 100000 in
set_option maxHeartbeats 400000 in
theorem c_X4_wheel_bad (w : GW) (tu : Int64) (sg : Sg) (v : Int32) (h : ¬ (0 ≤ Int32.toInt64 v ∧ Int32.toInt64 v ≤ 11)) : Kt w yX4_wheel cX4_wheel 2 (some .int) 1 [.ref (ad w 0), .int v] sg tu (some (.int (-2))) (us sg 0 (upd (sg 0) 5 ((sg 0) 5 + nI 1))) tu := by
  refine Kt.of2 RX4 rfl [(0, .ref (ad w 0)), (1, .int v)] (by decide) rfl (Nat.le_of_ble_eq_true rfl) (fun z C E => ?_)
  refine g_aload_n C 0 rfl rfl dX4_wheel_0 ?_
  refine g_iload_n C 1 rfl rfl dX4_wheel_1 ?_
  refine g_i2l C dX4_wheel_2 ?_
  refine g_lconst C (v := 0) (by decide) dX4_wheel_3 ?_
  refine g_ldc2 C cn_X4_89 dX4_wheel_4 ?_
  refine g_callS1 [.ref (ad w 0)] C (c_X4_within w tu sg (Int32.toInt64 v) 0 11 ) mt_X4_within ml_X4_91 st_X4_within (by decide) rfl (Nat.le_of_ble_eq_true rfl) dX4_wheel_7 ?_
  refine g_eq (L' := [(0, .ref (ad w 0)), (1, .int v)]) (S' := [.int (bI (0 ≤ (Int32.toInt64 v) ∧ (Int32.toInt64 v) ≤ 11)), .ref (ad w 0)]) rfl rfl rfl rfl ?_
  refine g_bif_eq C (tgt := 25) (by decide) dX4_wheel_10 (fun h10 => ?_) (fun h10 => absurd h10 h)
  refine g_bipush C (v := (-2)) (by decide) dX4_wheel_25 ?_
  refine g_callV1 [] C (c_X4_counted_bad w tu sg  ) mt_X4_counted e_0 rfl ml_X4_83 im_X4_counted se_X4_counted (by decide) rfl (Nat.le_of_ble_eq_true rfl) dX4_wheel_27 ?_
  refine g_eq (sg' := (us sg 0 (upd (sg 0) 5 ((sg 0) 5 + nI 1)))) (L' := [(0, .ref (ad w 0)), (1, .int v)]) (S' := [.int (-2)]) rfl rfl rfl rfl ?_
  exact g_iret C E dX4_wheel_30 rfl Sq.rf rfl
set_option maxRecDepth 100000 in
set_option maxHeartbeats 400000 in
theorem c_X4_counter_ok (w : GW) (tu : Int64) (sg : Sg) (k : Nat) (hk : k ≤ 6) (ha : 0 ≤ rowC sg 1 (24 + k)) : Kt w yX4_counter cX4_counter 2 (some .int) 1 [.ref (ad w 0), .int (nI k)] sg tu (some (.int ((rowC sg 1) (24 + k)))) sg tu := by
  refine Kt.of2 RX4 rfl [(0, .ref (ad w 0)), (1, .int (nI k))] (by decide) rfl (Nat.le_of_ble_eq_true rfl) (fun z C E => ?_)
  refine g_aload_n C 0 rfl rfl dX4_counter_0 ?_
  refine g_iload_n C 1 rfl rfl dX4_counter_1 ?_
  refine g_i2l C dX4_counter_2 ?_
  refine g_lconst C (v := 0) (by decide) dX4_counter_3 ?_
  refine g_ldc2 C cn_X4_103 dX4_counter_4 ?_
  refine g_callS1 [.ref (ad w 0)] C (c_X4_within_t w tu sg (Int32.toInt64 (nI k)) 0 6 (in_ok (n := 6) (by omega) (by decide))) mt_X4_within ml_X4_91 st_X4_within (by decide) rfl (Nat.le_of_ble_eq_true rfl) dX4_counter_7 ?_
  refine g_eq (L' := [(0, .ref (ad w 0)), (1, .int (nI k))]) (S' := [.int (nI 1), .ref (ad w 0)]) rfl rfl rfl rfl ?_
  refine g_if_eq C (tgt := 25) (by decide) dX4_counter_10 (fun h10 => absurd h10 (by decide)) (fun h10 => ?_)
  refine g_aload_n C 0 rfl rfl dX4_counter_13 ?_
  refine g_getR C (j := 0) cls4 e_0 rfl (by decide) fl_X4_10 dX4_counter_14 ?_
  refine g_getR C (j := 3) cls3 e_1 rfl (by decide) fl_X4_105 dX4_counter_17 ?_
  refine g_iload_n C 1 rfl rfl dX4_counter_20 ?_
  refine g_ialdN C k e_5 (by omega) (by decide) dX4_counter_21 ?_
  refine g_goto C (tgt := 27) (by decide) dX4_counter_22 ?_
  refine g_top (y := ((rowC sg 1) (24 + k))) (rowC_c (sg := sg) (w := 1) (by omega)).symm ?_
  refine g_callV1 [] C (c_X4_counted_ok w tu sg ((rowC sg 1) (24 + k)) ha) mt_X4_counted e_0 rfl ml_X4_83 im_X4_counted se_X4_counted (by decide) rfl (Nat.le_of_ble_eq_true rfl) dX4_counter_27 ?_
  refine g_eq (L' := [(0, .ref (ad w 0)), (1, .int (nI k))]) (S' := [.int ((rowC sg 1) (24 + k))]) rfl rfl rfl rfl ?_
  exact g_iret C E dX4_counter_30 rfl Sq.rf rfl
set_option maxRecDepth 100000 in
set_option maxHeartbeats 400000 in
theorem c_X4_counter_bad (w : GW) (tu : Int64) (sg : Sg) (v : Int32) (h : ¬ (0 ≤ Int32.toInt64 v ∧ Int32.toInt64 v ≤ 6)) : Kt w yX4_counter cX4_counter 2 (some .int) 1 [.ref (ad w 0), .int v] sg tu (some (.int (-2))) (us sg 0 (upd (sg 0) 5 ((sg 0) 5 + nI 1))) tu := by
  refine Kt.of2 RX4 rfl [(0, .ref (ad w 0)), (1, .int v)] (by decide) rfl (Nat.le_of_ble_eq_true rfl) (fun z C E => ?_)
  refine g_aload_n C 0 rfl rfl dX4_counter_0 ?_
  refine g_iload_n C 1 rfl rfl dX4_counter_1 ?_
  refine g_i2l C dX4_counter_2 ?_
  refine g_lconst C (v := 0) (by decide) dX4_counter_3 ?_
  refine g_ldc2 C cn_X4_103 dX4_counter_4 ?_
  refine g_callS1 [.ref (ad w 0)] C (c_X4_within w tu sg (Int32.toInt64 v) 0 6 ) mt_X4_within ml_X4_91 st_X4_within (by decide) rfl (Nat.le_of_ble_eq_true rfl) dX4_counter_7 ?_
  refine g_eq (L' := [(0, .ref (ad w 0)), (1, .int v)]) (S' := [.int (bI (0 ≤ (Int32.toInt64 v) ∧ (Int32.toInt64 v) ≤ 6)), .ref (ad w 0)]) rfl rfl rfl rfl ?_
  refine g_bif_eq C (tgt := 25) (by decide) dX4_counter_10 (fun h10 => ?_) (fun h10 => absurd h10 h)
  refine g_bipush C (v := (-2)) (by decide) dX4_counter_25 ?_
  refine g_callV1 [] C (c_X4_counted_bad w tu sg  ) mt_X4_counted e_0 rfl ml_X4_83 im_X4_counted se_X4_counted (by decide) rfl (Nat.le_of_ble_eq_true rfl) dX4_counter_27 ?_
  refine g_eq (sg' := (us sg 0 (upd (sg 0) 5 ((sg 0) 5 + nI 1)))) (L' := [(0, .ref (ad w 0)), (1, .int v)]) (S' := [.int (-2)]) rfl rfl rfl rfl ?_
  exact g_iret C E dX4_counter_30 rfl Sq.rf rfl
set_option maxRecDepth 100000 in
set_option maxHeartbeats 400000 in
theorem c_X4_value (w : GW) (tu : Int64) (sg : Sg) : Kt w yX4_value cX4_value 1 (some .long) 1 [.ref (ad w 0)] sg tu (some (.long (vlX (rowC sg 1) 12 12 0))) sg tu := by
  refine Kt.of2 RX4 rfl [(0, .ref (ad w 0))] (by decide) rfl (Nat.le_of_ble_eq_true rfl) (fun z C E => ?_)
  refine g_aload_n C 0 rfl rfl dX4_value_0 ?_
  refine g_getR C (j := 0) cls4 e_0 rfl (by decide) fl_X4_10 dX4_value_1 ?_
  refine g_getR C (j := 2) cls3 e_1 rfl (by decide) fl_X4_95 dX4_value_4 ?_
  refine g_callS1 [] C (c_X4_number_whl w tu sg  ) mt_X4_number ml_X4_99 st_X4_number (by decide) rfl (Nat.le_of_ble_eq_true rfl) dX4_value_7 ?_
  refine g_eq (L' := [(0, .ref (ad w 0))]) (S' := [.long (vlY (sg 4) 12 0)]) rfl rfl rfl rfl ?_
  exact g_lret C E dX4_value_10 p_whl Sq.rf rfl
set_option maxRecDepth 100000 in
set_option maxHeartbeats 400000 in
theorem c_X4_count_0 (w : GW) (tu : Int64) (sg : Sg) (B : Nat) (hok : ROk (rowC sg 1)) (hx : XOk (rowC sg 1) B) (hB : B < 2 ^ 31) : Kt w yX4_count cX4_count 2 (some .int) 4 [.ref (ad w 0), .int (nI 0)] sg tu (some (.int (nbX (rowC sg 1) 0 6 (nI 0)))) sg tu := by
  refine Kt.of2 RX4 rfl [(0, .ref (ad w 0)), (1, .int (nI 0))] (by decide) rfl (Nat.le_of_ble_eq_true rfl) (fun z C E => ?_)
  refine g_aload_n C 0 rfl rfl dX4_count_0 ?_
  refine g_aload_n C 0 rfl rfl dX4_count_1 ?_
  refine g_getR C (j := 0) cls4 e_0 rfl (by decide) fl_X4_10 dX4_count_2 ?_
  refine g_iload_n C 1 rfl rfl dX4_count_5 ?_
  refine g_callV1 [.ref (ad w 0)] C (c_X3_tellCount_0 w tu sg  ) mt_X3_tellCount e_1 rfl ml_X4_108 im_X3_tellCount se_X3_tellCount (by decide) rfl (Nat.le_of_ble_eq_true rfl) dX4_count_6 ?_
  refine g_eq (L' := [(0, .ref (ad w 0)), (1, .int (nI 0))]) (S' := [.int (Int64.toInt32 (vlY (sg 2) 6 0)), .ref (ad w 0)]) rfl rfl rfl rfl ?_
  refine g_top (y := (nbX (rowC sg 1) 0 6 (nI 0))) p_dig ?_
  refine g_callV1 [] C (c_X4_counted_ok w tu sg (nbX (rowC sg 1) 0 6 (nI 0)) (nn_0 hok)) mt_X4_counted e_0 rfl ml_X4_83 im_X4_counted se_X4_counted (by decide) rfl (Nat.le_of_ble_eq_true rfl) dX4_count_9 ?_
  refine g_eq (L' := [(0, .ref (ad w 0)), (1, .int (nI 0))]) (S' := [.int (nbX (rowC sg 1) 0 6 (nI 0))]) rfl rfl rfl rfl ?_
  exact g_iret C E dX4_count_12 rfl Sq.rf rfl
set_option maxRecDepth 100000 in
set_option maxHeartbeats 400000 in
theorem c_X4_count_1 (w : GW) (tu : Int64) (sg : Sg) (B : Nat) (hok : ROk (rowC sg 1)) (hx : XOk (rowC sg 1) B) (hB : B < 2 ^ 31) : Kt w yX4_count cX4_count 2 (some .int) 4 [.ref (ad w 0), .int (nI 1)] sg tu (some (.int (nI (ngX (gN (rowC sg 1)) 6 0)))) sg tu := by
  refine Kt.of2 RX4 rfl [(0, .ref (ad w 0)), (1, .int (nI 1))] (by decide) rfl (Nat.le_of_ble_eq_true rfl) (fun z C E => ?_)
  refine g_aload_n C 0 rfl rfl dX4_count_0 ?_
  refine g_aload_n C 0 rfl rfl dX4_count_1 ?_
  refine g_getR C (j := 0) cls4 e_0 rfl (by decide) fl_X4_10 dX4_count_2 ?_
  refine g_iload_n C 1 rfl rfl dX4_count_5 ?_
  refine g_callV1 [.ref (ad w 0)] C (c_X3_tellCount_1 w tu sg  hok) mt_X3_tellCount e_1 rfl ml_X4_108 im_X3_tellCount se_X3_tellCount (by decide) rfl (Nat.le_of_ble_eq_true rfl) dX4_count_6 ?_
  refine g_eq (L' := [(0, .ref (ad w 0)), (1, .int (nI 1))]) (S' := [.int (nI (ngX (gN (rowC sg 1)) 6 0)), .ref (ad w 0)]) rfl rfl rfl rfl ?_
  refine g_callV1 [] C (c_X4_counted_ok w tu sg (nI (ngX (gN (rowC sg 1)) 6 0)) (nn_1 hok)) mt_X4_counted e_0 rfl ml_X4_83 im_X4_counted se_X4_counted (by decide) rfl (Nat.le_of_ble_eq_true rfl) dX4_count_9 ?_
  refine g_eq (L' := [(0, .ref (ad w 0)), (1, .int (nI 1))]) (S' := [.int (nI (ngX (gN (rowC sg 1)) 6 0))]) rfl rfl rfl rfl ?_
  exact g_iret C E dX4_count_12 rfl Sq.rf rfl
set_option maxRecDepth 100000 in
set_option maxHeartbeats 400000 in
theorem c_X4_count_2 (w : GW) (tu : Int64) (sg : Sg) (B : Nat) (hok : ROk (rowC sg 1)) (hx : XOk (rowC sg 1) B) (hB : B < 2 ^ 31) : Kt w yX4_count cX4_count 2 (some .int) 4 [.ref (ad w 0), .int (nI 2)] sg tu (some (.int (nbX (rowC sg 1) 24 7 (nI 0)))) sg tu := by
  refine Kt.of2 RX4 rfl [(0, .ref (ad w 0)), (1, .int (nI 2))] (by decide) rfl (Nat.le_of_ble_eq_true rfl) (fun z C E => ?_)
  refine g_aload_n C 0 rfl rfl dX4_count_0 ?_
  refine g_aload_n C 0 rfl rfl dX4_count_1 ?_
  refine g_getR C (j := 0) cls4 e_0 rfl (by decide) fl_X4_10 dX4_count_2 ?_
  refine g_iload_n C 1 rfl rfl dX4_count_5 ?_
  refine g_callV1 [.ref (ad w 0)] C (c_X3_tellCount_2 w tu sg  ) mt_X3_tellCount e_1 rfl ml_X4_108 im_X3_tellCount se_X3_tellCount (by decide) rfl (Nat.le_of_ble_eq_true rfl) dX4_count_6 ?_
  refine g_eq (L' := [(0, .ref (ad w 0)), (1, .int (nI 2))]) (S' := [.int (Int64.toInt32 (vlY (sg 5) 7 0)), .ref (ad w 0)]) rfl rfl rfl rfl ?_
  refine g_top (y := (nbX (rowC sg 1) 24 7 (nI 0))) p_cnt ?_
  refine g_callV1 [] C (c_X4_counted_ok w tu sg (nbX (rowC sg 1) 24 7 (nI 0)) (nn_2 hx)) mt_X4_counted e_0 rfl ml_X4_83 im_X4_counted se_X4_counted (by decide) rfl (Nat.le_of_ble_eq_true rfl) dX4_count_9 ?_
  refine g_eq (L' := [(0, .ref (ad w 0)), (1, .int (nI 2))]) (S' := [.int (nbX (rowC sg 1) 24 7 (nI 0))]) rfl rfl rfl rfl ?_
  exact g_iret C E dX4_count_12 rfl Sq.rf rfl
set_option maxRecDepth 100000 in
set_option maxHeartbeats 400000 in
theorem c_X4_count_3 (w : GW) (tu : Int64) (sg : Sg) (B : Nat) (hok : ROk (rowC sg 1)) (hx : XOk (rowC sg 1) B) (hB : B < 2 ^ 31) : Kt w yX4_count cX4_count 2 (some .int) 4 [.ref (ad w 0), .int (nI 3)] sg tu (some (.int ((rowC sg 1) 31))) sg tu := by
  refine Kt.of2 RX4 rfl [(0, .ref (ad w 0)), (1, .int (nI 3))] (by decide) rfl (Nat.le_of_ble_eq_true rfl) (fun z C E => ?_)
  refine g_aload_n C 0 rfl rfl dX4_count_0 ?_
  refine g_aload_n C 0 rfl rfl dX4_count_1 ?_
  refine g_getR C (j := 0) cls4 e_0 rfl (by decide) fl_X4_10 dX4_count_2 ?_
  refine g_iload_n C 1 rfl rfl dX4_count_5 ?_
  refine g_callV1 [.ref (ad w 0)] C (c_X3_tellCount_3 w tu sg  ) mt_X3_tellCount e_1 rfl ml_X4_108 im_X3_tellCount se_X3_tellCount (by decide) rfl (Nat.le_of_ble_eq_true rfl) dX4_count_6 ?_
  refine g_eq (L' := [(0, .ref (ad w 0)), (1, .int (nI 3))]) (S' := [.int ((rowC sg 1) 31), .ref (ad w 0)]) rfl rfl rfl rfl ?_
  refine g_callV1 [] C (c_X4_counted_ok w tu sg ((rowC sg 1) 31) (nn_f hok.2.2.2.1.1 (by have := hok.2.2.2.1.2; omega))) mt_X4_counted e_0 rfl ml_X4_83 im_X4_counted se_X4_counted (by decide) rfl (Nat.le_of_ble_eq_true rfl) dX4_count_9 ?_
  refine g_eq (L' := [(0, .ref (ad w 0)), (1, .int (nI 3))]) (S' := [.int ((rowC sg 1) 31)]) rfl rfl rfl rfl ?_
  exact g_iret C E dX4_count_12 rfl Sq.rf rfl
set_option maxRecDepth 100000 in
set_option maxHeartbeats 400000 in
theorem c_X4_count_4 (w : GW) (tu : Int64) (sg : Sg) (B : Nat) (hok : ROk (rowC sg 1)) (hx : XOk (rowC sg 1) B) (hB : B < 2 ^ 31) : Kt w yX4_count cX4_count 2 (some .int) 4 [.ref (ad w 0), .int (nI 4)] sg tu (some (.int ((rowC sg 1) 32))) sg tu := by
  refine Kt.of2 RX4 rfl [(0, .ref (ad w 0)), (1, .int (nI 4))] (by decide) rfl (Nat.le_of_ble_eq_true rfl) (fun z C E => ?_)
  refine g_aload_n C 0 rfl rfl dX4_count_0 ?_
  refine g_aload_n C 0 rfl rfl dX4_count_1 ?_
  refine g_getR C (j := 0) cls4 e_0 rfl (by decide) fl_X4_10 dX4_count_2 ?_
  refine g_iload_n C 1 rfl rfl dX4_count_5 ?_
  refine g_callV1 [.ref (ad w 0)] C (c_X3_tellCount_4 w tu sg  ) mt_X3_tellCount e_1 rfl ml_X4_108 im_X3_tellCount se_X3_tellCount (by decide) rfl (Nat.le_of_ble_eq_true rfl) dX4_count_6 ?_
  refine g_eq (L' := [(0, .ref (ad w 0)), (1, .int (nI 4))]) (S' := [.int ((rowC sg 1) 32), .ref (ad w 0)]) rfl rfl rfl rfl ?_
  refine g_callV1 [] C (c_X4_counted_ok w tu sg ((rowC sg 1) 32) (nn_f hok.2.2.2.2.1 (by have := hok.2.2.2.2.2; omega))) mt_X4_counted e_0 rfl ml_X4_83 im_X4_counted se_X4_counted (by decide) rfl (Nat.le_of_ble_eq_true rfl) dX4_count_9 ?_
  refine g_eq (L' := [(0, .ref (ad w 0)), (1, .int (nI 4))]) (S' := [.int ((rowC sg 1) 32)]) rfl rfl rfl rfl ?_
  exact g_iret C E dX4_count_12 rfl Sq.rf rfl
set_option maxRecDepth 100000 in
set_option maxHeartbeats 400000 in
theorem c_X4_count_5 (w : GW) (tu : Int64) (sg : Sg) (B : Nat) (hok : ROk (rowC sg 1)) (hx : XOk (rowC sg 1) B) (hB : B < 2 ^ 31) : Kt w yX4_count cX4_count 2 (some .int) 4 [.ref (ad w 0), .int (nI 5)] sg tu (some (.int ((rowC sg 1) 33))) sg tu := by
  refine Kt.of2 RX4 rfl [(0, .ref (ad w 0)), (1, .int (nI 5))] (by decide) rfl (Nat.le_of_ble_eq_true rfl) (fun z C E => ?_)
  refine g_aload_n C 0 rfl rfl dX4_count_0 ?_
  refine g_aload_n C 0 rfl rfl dX4_count_1 ?_
  refine g_getR C (j := 0) cls4 e_0 rfl (by decide) fl_X4_10 dX4_count_2 ?_
  refine g_iload_n C 1 rfl rfl dX4_count_5 ?_
  refine g_callV1 [.ref (ad w 0)] C (c_X3_tellCount_5 w tu sg  ) mt_X3_tellCount e_1 rfl ml_X4_108 im_X3_tellCount se_X3_tellCount (by decide) rfl (Nat.le_of_ble_eq_true rfl) dX4_count_6 ?_
  refine g_eq (L' := [(0, .ref (ad w 0)), (1, .int (nI 5))]) (S' := [.int ((rowC sg 1) 33), .ref (ad w 0)]) rfl rfl rfl rfl ?_
  refine g_callV1 [] C (c_X4_counted_ok w tu sg ((rowC sg 1) 33) (nn_5 hB hx)) mt_X4_counted e_0 rfl ml_X4_83 im_X4_counted se_X4_counted (by decide) rfl (Nat.le_of_ble_eq_true rfl) dX4_count_9 ?_
  refine g_eq (L' := [(0, .ref (ad w 0)), (1, .int (nI 5))]) (S' := [.int ((rowC sg 1) 33)]) rfl rfl rfl rfl ?_
  exact g_iret C E dX4_count_12 rfl Sq.rf rfl
set_option maxRecDepth 100000 in
set_option maxHeartbeats 400000 in
theorem c_X4_count_6 (w : GW) (tu : Int64) (sg : Sg) (B : Nat) (hok : ROk (rowC sg 1)) (hx : XOk (rowC sg 1) B) (hB : B < 2 ^ 31) : Kt w yX4_count cX4_count 2 (some .int) 4 [.ref (ad w 0), .int (nI 6)] sg tu (some (.int ((rowC sg 1) 34))) sg tu := by
  refine Kt.of2 RX4 rfl [(0, .ref (ad w 0)), (1, .int (nI 6))] (by decide) rfl (Nat.le_of_ble_eq_true rfl) (fun z C E => ?_)
  refine g_aload_n C 0 rfl rfl dX4_count_0 ?_
  refine g_aload_n C 0 rfl rfl dX4_count_1 ?_
  refine g_getR C (j := 0) cls4 e_0 rfl (by decide) fl_X4_10 dX4_count_2 ?_
  refine g_iload_n C 1 rfl rfl dX4_count_5 ?_
  refine g_callV1 [.ref (ad w 0)] C (c_X3_tellCount_6 w tu sg  ) mt_X3_tellCount e_1 rfl ml_X4_108 im_X3_tellCount se_X3_tellCount (by decide) rfl (Nat.le_of_ble_eq_true rfl) dX4_count_6 ?_
  refine g_eq (L' := [(0, .ref (ad w 0)), (1, .int (nI 6))]) (S' := [.int ((rowC sg 1) 34), .ref (ad w 0)]) rfl rfl rfl rfl ?_
  refine g_callV1 [] C (c_X4_counted_ok w tu sg ((rowC sg 1) 34) (nn_6 hB hx)) mt_X4_counted e_0 rfl ml_X4_83 im_X4_counted se_X4_counted (by decide) rfl (Nat.le_of_ble_eq_true rfl) dX4_count_9 ?_
  refine g_eq (L' := [(0, .ref (ad w 0)), (1, .int (nI 6))]) (S' := [.int ((rowC sg 1) 34)]) rfl rfl rfl rfl ?_
  exact g_iret C E dX4_count_12 rfl Sq.rf rfl
set_option maxRecDepth 100000 in
set_option maxHeartbeats 400000 in
theorem c_X4_count_7 (w : GW) (tu : Int64) (sg : Sg) (B : Nat) (hok : ROk (rowC sg 1)) (hx : XOk (rowC sg 1) B) (hB : B < 2 ^ 31) : Kt w yX4_count cX4_count 2 (some .int) 4 [.ref (ad w 0), .int (nI 7)] sg tu (some (.int (wsX (rowC sg 1) 6))) sg tu := by
  refine Kt.of2 RX4 rfl [(0, .ref (ad w 0)), (1, .int (nI 7))] (by decide) rfl (Nat.le_of_ble_eq_true rfl) (fun z C E => ?_)
  refine g_aload_n C 0 rfl rfl dX4_count_0 ?_
  refine g_aload_n C 0 rfl rfl dX4_count_1 ?_
  refine g_getR C (j := 0) cls4 e_0 rfl (by decide) fl_X4_10 dX4_count_2 ?_
  refine g_iload_n C 1 rfl rfl dX4_count_5 ?_
  refine g_callV1 [.ref (ad w 0)] C (c_X3_tellCount_7 w tu sg  ) mt_X3_tellCount e_1 rfl ml_X4_108 im_X3_tellCount se_X3_tellCount (by decide) rfl (Nat.le_of_ble_eq_true rfl) dX4_count_6 ?_
  refine g_eq (L' := [(0, .ref (ad w 0)), (1, .int (nI 7))]) (S' := [.int (wsC (sg 3) 6), .ref (ad w 0)]) rfl rfl rfl rfl ?_
  refine g_top (y := (wsX (rowC sg 1) 6)) (p_wrn hok 6 (by decide)) ?_
  refine g_callV1 [] C (c_X4_counted_ok w tu sg (wsX (rowC sg 1) 6) nn_7) mt_X4_counted e_0 rfl ml_X4_83 im_X4_counted se_X4_counted (by decide) rfl (Nat.le_of_ble_eq_true rfl) dX4_count_9 ?_
  refine g_eq (L' := [(0, .ref (ad w 0)), (1, .int (nI 7))]) (S' := [.int (wsX (rowC sg 1) 6)]) rfl rfl rfl rfl ?_
  exact g_iret C E dX4_count_12 rfl Sq.rf rfl
set_option maxRecDepth 100000 in
set_option maxHeartbeats 400000 in
theorem c_X4_count_bad (w : GW) (tu : Int64) (sg : Sg) (v : Int32) (h : ¬ (0 ≤ Int32.toInt64 v ∧ Int32.toInt64 v ≤ 7)) : Kt w yX4_count cX4_count 2 (some .int) 1 [.ref (ad w 0), .int v] sg tu (some (.int (-2))) (us sg 0 (upd (sg 0) 5 ((sg 0) 5 + nI 1))) tu := by
  refine Kt.of2 RX4 rfl [(0, .ref (ad w 0)), (1, .int v)] (by decide) rfl (Nat.le_of_ble_eq_true rfl) (fun z C E => ?_)
  refine g_aload_n C 0 rfl rfl dX4_count_0 ?_
  refine g_aload_n C 0 rfl rfl dX4_count_1 ?_
  refine g_getR C (j := 0) cls4 e_0 rfl (by decide) fl_X4_10 dX4_count_2 ?_
  refine g_iload_n C 1 rfl rfl dX4_count_5 ?_
  refine g_callV1 [.ref (ad w 0)] C (c_X3_tellCount_out w tu sg v h) mt_X3_tellCount e_1 rfl ml_X4_108 im_X3_tellCount se_X3_tellCount (by decide) rfl (Nat.le_of_ble_eq_true rfl) dX4_count_6 ?_
  refine g_eq (L' := [(0, .ref (ad w 0)), (1, .int v)]) (S' := [.int (-2), .ref (ad w 0)]) rfl rfl rfl rfl ?_
  refine g_callV1 [] C (c_X4_counted_bad w tu sg  ) mt_X4_counted e_0 rfl ml_X4_83 im_X4_counted se_X4_counted (by decide) rfl (Nat.le_of_ble_eq_true rfl) dX4_count_9 ?_
  refine g_eq (sg' := (us sg 0 (upd (sg 0) 5 ((sg 0) 5 + nI 1)))) (L' := [(0, .ref (ad w 0)), (1, .int v)]) (S' := [.int (-2)]) rfl rfl rfl rfl ?_
  exact g_iret C E dX4_count_12 rfl Sq.rf rfl
theorem c_X4_count_n (w : GW) (tu : Int64) (sg : Sg) (k B : Nat) (hk : k ≤ 7) (hok : ROk (rowC sg 1)) (hx : XOk (rowC sg 1) B) (hB : B < 2 ^ 31) : Kt w yX4_count cX4_count 2 (some .int) 4 [.ref (ad w 0), .int (nI k)] sg tu (some (.int (cnT (rowC sg 1) k))) sg tu := by
  rcases (show k = 0 ∨ k = 1 ∨ k = 2 ∨ k = 3 ∨ k = 4 ∨ k = 5 ∨ k = 6 ∨ k = 7 by omega) with rfl | rfl | rfl | rfl | rfl | rfl | rfl | rfl
  · exact c_X4_count_0 w tu sg B hok hx hB
  · have e : cnT (rowC sg 1) 1 = nI (ngX (gN (rowC sg 1)) 6 0) := p_giv hok
    rw [e]; exact c_X4_count_1 w tu sg B hok hx hB
  · exact c_X4_count_2 w tu sg B hok hx hB
  · exact c_X4_count_3 w tu sg B hok hx hB
  · exact c_X4_count_4 w tu sg B hok hx hB
  · exact c_X4_count_5 w tu sg B hok hx hB
  · exact c_X4_count_6 w tu sg B hok hx hB
  · exact c_X4_count_7 w tu sg B hok hx hB
set_option maxRecDepth 100000 in
set_option maxHeartbeats 400000 in
theorem c_X4_trial_ok (w : GW) (tu : Int64) (sg : Sg) (n : Nat) (hn1 : 1 ≤ n) (hn : n ≤ 99) (hok : ROk (rowC sg 1)) : Kt w yX4_trial cX4_trial 2 (some .long) 3 [.ref (ad w 0), .int (nI n)] sg tu (some (.long (trv (gN (rowC sg 1)) (reN (rowC sg 1)) n))) sg tu := by
  refine Kt.of2 RX4 rfl [(0, .ref (ad w 0)), (1, .int (nI n))] (by decide) rfl (Nat.le_of_ble_eq_true rfl) (fun z C E => ?_)
  refine g_iload_n C 1 rfl rfl dX4_trial_0 ?_
  refine g_i2l C dX4_trial_1 ?_
  refine g_lconst C (v := 1) (by decide) dX4_trial_2 ?_
  refine g_ldc2 C cn_X4_111 dX4_trial_3 ?_
  refine g_callS1 [] C (c_X4_within_t w tu sg (Int32.toInt64 (nI n)) 1 99 (in_ok1 (n := 99) (by omega) (by omega) (by decide))) mt_X4_within ml_X4_91 st_X4_within (by decide) rfl (Nat.le_of_ble_eq_true rfl) dX4_trial_6 ?_
  refine g_eq (L' := [(0, .ref (ad w 0)), (1, .int (nI n))]) (S' := [.int (nI 1)]) rfl rfl rfl rfl ?_
  refine g_if_ne C (tgt := 20) (by decide) dX4_trial_9 (fun h9 => ?_) (fun h9 => absurd h9 (by decide))
  refine g_aload_n C 0 rfl rfl dX4_trial_20 ?_
  refine g_getR C (j := 0) cls4 e_0 rfl (by decide) fl_X4_10 dX4_trial_21 ?_
  refine g_aload_n C 0 rfl rfl dX4_trial_24 ?_
  refine g_getR C (j := 0) cls4 e_0 rfl (by decide) fl_X4_10 dX4_trial_25 ?_
  refine g_callV1 [.ref (ad w 1)] C (c_X3_numberGiven w tu sg  hok) mt_X3_numberGiven e_1 rfl ml_X4_113 im_X3_numberGiven se_X3_numberGiven (by decide) rfl (Nat.le_of_ble_eq_true rfl) dX4_trial_28 ?_
  refine g_eq (L' := [(0, .ref (ad w 0)), (1, .int (nI n))]) (S' := [.int (nI (ngX (gN (rowC sg 1)) 6 0)), .ref (ad w 1)]) rfl rfl rfl rfl ?_
  refine g_iload_n C 1 rfl rfl dX4_trial_31 ?_
  refine g_callV1 [] C (c_X3_tried w tu sg (ngX (gN (rowC sg 1)) 6 0) n (reN (rowC sg 1)) (by have := ngX_lt (g := gN (rowC sg 1)) 6 0 (fun k hk => (gN_ok hok hk).2); omega) hn ((rowC_f (sg := sg) (w := 1) (j := 5) (by omega)).symm.trans hok.2.2.2.2.1) hok.2.2.2.2.2) mt_X3_tried e_1 rfl ml_X4_116 im_X3_tried se_X3_tried (by decide) rfl (Nat.le_of_ble_eq_true rfl) dX4_trial_32 ?_
  refine g_eq (L' := [(0, .ref (ad w 0)), (1, .int (nI n))]) (S' := [.long (trC (reN (rowC sg 1)) (ngX (gN (rowC sg 1)) 6 0) n)]) rfl rfl rfl rfl ?_
  exact g_lret C E dX4_trial_35 (p_tri (fun k hk => (gN_ok hok hk).2) hn).symm Sq.rf rfl
set_option maxRecDepth 100000 in
set_option maxHeartbeats 400000 in
theorem c_X4_trial_bad (w : GW) (tu : Int64) (sg : Sg) (v : Int32) (h : ¬ (1 ≤ Int32.toInt64 v ∧ Int32.toInt64 v ≤ 99)) : Kt w yX4_trial cX4_trial 2 (some .long) 1 [.ref (ad w 0), .int v] sg tu (some (.long (Int32.toInt64 (-2)))) (us sg 0 (upd (sg 0) 5 ((sg 0) 5 + nI 1))) tu := by
  refine Kt.of2 RX4 rfl [(0, .ref (ad w 0)), (1, .int v)] (by decide) rfl (Nat.le_of_ble_eq_true rfl) (fun z C E => ?_)
  refine g_iload_n C 1 rfl rfl dX4_trial_0 ?_
  refine g_i2l C dX4_trial_1 ?_
  refine g_lconst C (v := 1) (by decide) dX4_trial_2 ?_
  refine g_ldc2 C cn_X4_111 dX4_trial_3 ?_
  refine g_callS1 [] C (c_X4_within w tu sg (Int32.toInt64 v) 1 99 ) mt_X4_within ml_X4_91 st_X4_within (by decide) rfl (Nat.le_of_ble_eq_true rfl) dX4_trial_6 ?_
  refine g_eq (L' := [(0, .ref (ad w 0)), (1, .int v)]) (S' := [.int (bI (1 ≤ (Int32.toInt64 v) ∧ (Int32.toInt64 v) ≤ 99))]) rfl rfl rfl rfl ?_
  refine g_bif_ne C (tgt := 20) (by decide) dX4_trial_9 (fun h9 => absurd h9 h) (fun h9 => ?_)
  refine g_aload_n C 0 rfl rfl dX4_trial_12 ?_
  refine g_bipush C (v := (-2)) (by decide) dX4_trial_13 ?_
  refine g_callV1 [] C (c_X4_counted_bad w tu sg  ) mt_X4_counted e_0 rfl ml_X4_83 im_X4_counted se_X4_counted (by decide) rfl (Nat.le_of_ble_eq_true rfl) dX4_trial_15 ?_
  refine g_eq (sg' := (us sg 0 (upd (sg 0) 5 ((sg 0) 5 + nI 1)))) (L' := [(0, .ref (ad w 0)), (1, .int v)]) (S' := [.int (-2)]) rfl rfl rfl rfl ?_
  refine g_i2l C dX4_trial_18 ?_
  exact g_lret C E dX4_trial_19 rfl Sq.rf rfl
set_option maxRecDepth 100000 in
set_option maxHeartbeats 400000 in
theorem c_X4_explains_0 (w : GW) (tu : Int64) (sg : Sg) (v : Int64) (n : Nat) (hv : 0 ≤ v ∧ v ≤ 999999999999) (hn1 : 1 ≤ n) (hn : n ≤ 99) (hok : ROk (rowC sg 1)) : Kt w yX4_explains cX4_explains 5 (some .int) 2 [.ref (ad w 0), .long v, .int (nI n), .int (nI 0)] sg tu (some (.int ((ex6 v n (rowC sg 1) 6).1))) sg tu := by
  refine Kt.of2 RX4 rfl [(0, .ref (ad w 0)), (1, .long v), (3, .int (nI n)), (4, .int (nI 0))] (by decide) rfl (Nat.le_of_ble_eq_true rfl) (fun z C E => ?_)
  refine g_lload_n C 1 rfl rfl dX4_explains_0 ?_
  refine g_lconst C (v := 0) (by decide) dX4_explains_1 ?_
  refine g_ldc2 C cn_X4_120 dX4_explains_2 ?_
  refine g_callS1 [] C (c_X4_within_t w tu sg v 0 999999999999 hv) mt_X4_within ml_X4_91 st_X4_within (by decide) rfl (Nat.le_of_ble_eq_true rfl) dX4_explains_5 ?_
  refine g_eq (L' := [(0, .ref (ad w 0)), (1, .long v), (3, .int (nI n)), (4, .int (nI 0))]) (S' := [.int (nI 1)]) rfl rfl rfl rfl ?_
  refine g_if_eq C (tgt := 36) (by decide) dX4_explains_8 (fun h8 => absurd h8 (by decide)) (fun h8 => ?_)
  refine g_iload_n C 2 rfl rfl dX4_explains_11 ?_
  refine g_i2l C dX4_explains_12 ?_
  refine g_lconst C (v := 1) (by decide) dX4_explains_13 ?_
  refine g_ldc2 C cn_X4_111 dX4_explains_14 ?_
  refine g_callS1 [] C (c_X4_within_t w tu sg (Int32.toInt64 (nI n)) 1 99 (in_ok1 (n := 99) (by omega) (by omega) (by decide))) mt_X4_within ml_X4_91 st_X4_within (by decide) rfl (Nat.le_of_ble_eq_true rfl) dX4_explains_17 ?_
  refine g_eq (L' := [(0, .ref (ad w 0)), (1, .long v), (3, .int (nI n)), (4, .int (nI 0))]) (S' := [.int (nI 1)]) rfl rfl rfl rfl ?_
  refine g_if_eq C (tgt := 36) (by decide) dX4_explains_20 (fun h20 => absurd h20 (by decide)) (fun h20 => ?_)
  refine g_iload C 3 rfl dX4_explains_23 ?_
  refine g_i2l C dX4_explains_25 ?_
  refine g_lconst C (v := 0) (by decide) dX4_explains_26 ?_
  refine g_ldc2 C cn_X4_122 dX4_explains_27 ?_
  refine g_callS1 [] C (c_X4_within_t w tu sg (Int32.toInt64 (nI 0)) 0 2 (in_ok (n := 2) (by omega) (by decide))) mt_X4_within ml_X4_91 st_X4_within (by decide) rfl (Nat.le_of_ble_eq_true rfl) dX4_explains_30 ?_
  refine g_eq (L' := [(0, .ref (ad w 0)), (1, .long v), (3, .int (nI n)), (4, .int (nI 0))]) (S' := [.int (nI 1)]) rfl rfl rfl rfl ?_
  refine g_if_ne C (tgt := 43) (by decide) dX4_explains_33 (fun h33 => ?_) (fun h33 => absurd h33 (by decide))
  refine g_aload_n C 0 rfl rfl dX4_explains_43 ?_
  refine g_getR C (j := 0) cls4 e_0 rfl (by decide) fl_X4_10 dX4_explains_44 ?_
  refine g_lload_n C 1 rfl rfl dX4_explains_47 ?_
  refine g_iload_n C 2 rfl rfl dX4_explains_48 ?_
  refine g_iload C 3 rfl dX4_explains_49 ?_
  refine g_callV1 [] C (c_X3_explain_0 w tu sg v n hn hok) mt_X3_explain e_1 rfl ml_X4_124 im_X3_explain se_X3_explain (by decide) rfl (Nat.le_of_ble_eq_true rfl) dX4_explains_51 ?_
  refine g_eq (L' := [(0, .ref (ad w 0)), (1, .long v), (3, .int (nI n)), (4, .int (nI 0))]) (S' := [.int ((ex6 v n (rowC sg 1) 6).1)]) rfl rfl rfl rfl ?_
  exact g_iret C E dX4_explains_54 rfl Sq.rf rfl
set_option maxRecDepth 100000 in
set_option maxHeartbeats 400000 in
theorem c_X4_explains_1 (w : GW) (tu : Int64) (sg : Sg) (v : Int64) (n : Nat) (hv : 0 ≤ v ∧ v ≤ 999999999999) (hn1 : 1 ≤ n) (hn : n ≤ 99) (hok : ROk (rowC sg 1)) : Kt w yX4_explains cX4_explains 5 (some .int) 2 [.ref (ad w 0), .long v, .int (nI n), .int (nI 1)] sg tu (some (.int ((ex6 v n (rowC sg 1) 6).2.1))) sg tu := by
  refine Kt.of2 RX4 rfl [(0, .ref (ad w 0)), (1, .long v), (3, .int (nI n)), (4, .int (nI 1))] (by decide) rfl (Nat.le_of_ble_eq_true rfl) (fun z C E => ?_)
  refine g_lload_n C 1 rfl rfl dX4_explains_0 ?_
  refine g_lconst C (v := 0) (by decide) dX4_explains_1 ?_
  refine g_ldc2 C cn_X4_120 dX4_explains_2 ?_
  refine g_callS1 [] C (c_X4_within_t w tu sg v 0 999999999999 hv) mt_X4_within ml_X4_91 st_X4_within (by decide) rfl (Nat.le_of_ble_eq_true rfl) dX4_explains_5 ?_
  refine g_eq (L' := [(0, .ref (ad w 0)), (1, .long v), (3, .int (nI n)), (4, .int (nI 1))]) (S' := [.int (nI 1)]) rfl rfl rfl rfl ?_
  refine g_if_eq C (tgt := 36) (by decide) dX4_explains_8 (fun h8 => absurd h8 (by decide)) (fun h8 => ?_)
  refine g_iload_n C 2 rfl rfl dX4_explains_11 ?_
  refine g_i2l C dX4_explains_12 ?_
  refine g_lconst C (v := 1) (by decide) dX4_explains_13 ?_
  refine g_ldc2 C cn_X4_111 dX4_explains_14 ?_
  refine g_callS1 [] C (c_X4_within_t w tu sg (Int32.toInt64 (nI n)) 1 99 (in_ok1 (n := 99) (by omega) (by omega) (by decide))) mt_X4_within ml_X4_91 st_X4_within (by decide) rfl (Nat.le_of_ble_eq_true rfl) dX4_explains_17 ?_
  refine g_eq (L' := [(0, .ref (ad w 0)), (1, .long v), (3, .int (nI n)), (4, .int (nI 1))]) (S' := [.int (nI 1)]) rfl rfl rfl rfl ?_
  refine g_if_eq C (tgt := 36) (by decide) dX4_explains_20 (fun h20 => absurd h20 (by decide)) (fun h20 => ?_)
  refine g_iload C 3 rfl dX4_explains_23 ?_
  refine g_i2l C dX4_explains_25 ?_
  refine g_lconst C (v := 0) (by decide) dX4_explains_26 ?_
  refine g_ldc2 C cn_X4_122 dX4_explains_27 ?_
  refine g_callS1 [] C (c_X4_within_t w tu sg (Int32.toInt64 (nI 1)) 0 2 (in_ok (n := 2) (by omega) (by decide))) mt_X4_within ml_X4_91 st_X4_within (by decide) rfl (Nat.le_of_ble_eq_true rfl) dX4_explains_30 ?_
  refine g_eq (L' := [(0, .ref (ad w 0)), (1, .long v), (3, .int (nI n)), (4, .int (nI 1))]) (S' := [.int (nI 1)]) rfl rfl rfl rfl ?_
  refine g_if_ne C (tgt := 43) (by decide) dX4_explains_33 (fun h33 => ?_) (fun h33 => absurd h33 (by decide))
  refine g_aload_n C 0 rfl rfl dX4_explains_43 ?_
  refine g_getR C (j := 0) cls4 e_0 rfl (by decide) fl_X4_10 dX4_explains_44 ?_
  refine g_lload_n C 1 rfl rfl dX4_explains_47 ?_
  refine g_iload_n C 2 rfl rfl dX4_explains_48 ?_
  refine g_iload C 3 rfl dX4_explains_49 ?_
  refine g_callV1 [] C (c_X3_explain_1 w tu sg v n hn hok) mt_X3_explain e_1 rfl ml_X4_124 im_X3_explain se_X3_explain (by decide) rfl (Nat.le_of_ble_eq_true rfl) dX4_explains_51 ?_
  refine g_eq (L' := [(0, .ref (ad w 0)), (1, .long v), (3, .int (nI n)), (4, .int (nI 1))]) (S' := [.int ((ex6 v n (rowC sg 1) 6).2.1)]) rfl rfl rfl rfl ?_
  exact g_iret C E dX4_explains_54 rfl Sq.rf rfl
set_option maxRecDepth 100000 in
set_option maxHeartbeats 400000 in
theorem c_X4_explains_2 (w : GW) (tu : Int64) (sg : Sg) (v : Int64) (n : Nat) (hv : 0 ≤ v ∧ v ≤ 999999999999) (hn1 : 1 ≤ n) (hn : n ≤ 99) (hok : ROk (rowC sg 1)) : Kt w yX4_explains cX4_explains 5 (some .int) 2 [.ref (ad w 0), .long v, .int (nI n), .int (nI 2)] sg tu (some (.int ((ex6 v n (rowC sg 1) 6).2.2))) sg tu := by
  refine Kt.of2 RX4 rfl [(0, .ref (ad w 0)), (1, .long v), (3, .int (nI n)), (4, .int (nI 2))] (by decide) rfl (Nat.le_of_ble_eq_true rfl) (fun z C E => ?_)
  refine g_lload_n C 1 rfl rfl dX4_explains_0 ?_
  refine g_lconst C (v := 0) (by decide) dX4_explains_1 ?_
  refine g_ldc2 C cn_X4_120 dX4_explains_2 ?_
  refine g_callS1 [] C (c_X4_within_t w tu sg v 0 999999999999 hv) mt_X4_within ml_X4_91 st_X4_within (by decide) rfl (Nat.le_of_ble_eq_true rfl) dX4_explains_5 ?_
  refine g_eq (L' := [(0, .ref (ad w 0)), (1, .long v), (3, .int (nI n)), (4, .int (nI 2))]) (S' := [.int (nI 1)]) rfl rfl rfl rfl ?_
  refine g_if_eq C (tgt := 36) (by decide) dX4_explains_8 (fun h8 => absurd h8 (by decide)) (fun h8 => ?_)
  refine g_iload_n C 2 rfl rfl dX4_explains_11 ?_
  refine g_i2l C dX4_explains_12 ?_
  refine g_lconst C (v := 1) (by decide) dX4_explains_13 ?_
  refine g_ldc2 C cn_X4_111 dX4_explains_14 ?_
  refine g_callS1 [] C (c_X4_within_t w tu sg (Int32.toInt64 (nI n)) 1 99 (in_ok1 (n := 99) (by omega) (by omega) (by decide))) mt_X4_within ml_X4_91 st_X4_within (by decide) rfl (Nat.le_of_ble_eq_true rfl) dX4_explains_17 ?_
  refine g_eq (L' := [(0, .ref (ad w 0)), (1, .long v), (3, .int (nI n)), (4, .int (nI 2))]) (S' := [.int (nI 1)]) rfl rfl rfl rfl ?_
  refine g_if_eq C (tgt := 36) (by decide) dX4_explains_20 (fun h20 => absurd h20 (by decide)) (fun h20 => ?_)
  refine g_iload C 3 rfl dX4_explains_23 ?_
  refine g_i2l C dX4_explains_25 ?_
  refine g_lconst C (v := 0) (by decide) dX4_explains_26 ?_
  refine g_ldc2 C cn_X4_122 dX4_explains_27 ?_
  refine g_callS1 [] C (c_X4_within_t w tu sg (Int32.toInt64 (nI 2)) 0 2 (in_ok (n := 2) (by omega) (by decide))) mt_X4_within ml_X4_91 st_X4_within (by decide) rfl (Nat.le_of_ble_eq_true rfl) dX4_explains_30 ?_
  refine g_eq (L' := [(0, .ref (ad w 0)), (1, .long v), (3, .int (nI n)), (4, .int (nI 2))]) (S' := [.int (nI 1)]) rfl rfl rfl rfl ?_
  refine g_if_ne C (tgt := 43) (by decide) dX4_explains_33 (fun h33 => ?_) (fun h33 => absurd h33 (by decide))
  refine g_aload_n C 0 rfl rfl dX4_explains_43 ?_
  refine g_getR C (j := 0) cls4 e_0 rfl (by decide) fl_X4_10 dX4_explains_44 ?_
  refine g_lload_n C 1 rfl rfl dX4_explains_47 ?_
  refine g_iload_n C 2 rfl rfl dX4_explains_48 ?_
  refine g_iload C 3 rfl dX4_explains_49 ?_
  refine g_callV1 [] C (c_X3_explain_2 w tu sg v n hn hok) mt_X3_explain e_1 rfl ml_X4_124 im_X3_explain se_X3_explain (by decide) rfl (Nat.le_of_ble_eq_true rfl) dX4_explains_51 ?_
  refine g_eq (L' := [(0, .ref (ad w 0)), (1, .long v), (3, .int (nI n)), (4, .int (nI 2))]) (S' := [.int ((ex6 v n (rowC sg 1) 6).2.2)]) rfl rfl rfl rfl ?_
  exact g_iret C E dX4_explains_54 rfl Sq.rf rfl
set_option maxRecDepth 100000 in
set_option maxHeartbeats 400000 in
theorem c_X4_explains_bad (w : GW) (tu : Int64) (sg : Sg) (v : Int64) (x : Int32) (y : Int32) (h : ¬ ((0 ≤ v ∧ v ≤ 999999999999) ∧ (1 ≤ Int32.toInt64 x ∧ Int32.toInt64 x ≤ 99) ∧ (0 ≤ Int32.toInt64 y ∧ Int32.toInt64 y ≤ 2))) : Kt w yX4_explains cX4_explains 5 (some .int) 1 [.ref (ad w 0), .long v, .int x, .int y] sg tu (some (.int (-2))) (us sg 0 (upd (sg 0) 5 ((sg 0) 5 + nI 1))) tu := by
  refine Kt.of2 RX4 rfl [(0, .ref (ad w 0)), (1, .long v), (3, .int x), (4, .int y)] (by decide) rfl (Nat.le_of_ble_eq_true rfl) (fun z C E => ?_)
  refine g_lload_n C 1 rfl rfl dX4_explains_0 ?_
  refine g_lconst C (v := 0) (by decide) dX4_explains_1 ?_
  refine g_ldc2 C cn_X4_120 dX4_explains_2 ?_
  refine g_callS1 [] C (c_X4_within w tu sg v 0 999999999999 ) mt_X4_within ml_X4_91 st_X4_within (by decide) rfl (Nat.le_of_ble_eq_true rfl) dX4_explains_5 ?_
  refine g_eq (L' := [(0, .ref (ad w 0)), (1, .long v), (3, .int x), (4, .int y)]) (S' := [.int (bI (0 ≤ v ∧ v ≤ 999999999999))]) rfl rfl rfl rfl ?_
  refine g_bif_eq C (tgt := 36) (by decide) dX4_explains_8 (fun h8 => ?_) (fun h8 => ?_)
  ·
    refine g_aload_n C 0 rfl rfl dX4_explains_36 ?_
    refine g_bipush C (v := (-2)) (by decide) dX4_explains_37 ?_
    refine g_callV1 [] C (c_X4_counted_bad w tu sg  ) mt_X4_counted e_0 rfl ml_X4_83 im_X4_counted se_X4_counted (by decide) rfl (Nat.le_of_ble_eq_true rfl) dX4_explains_39 ?_
    refine g_eq (sg' := (us sg 0 (upd (sg 0) 5 ((sg 0) 5 + nI 1)))) (L' := [(0, .ref (ad w 0)), (1, .long v), (3, .int x), (4, .int y)]) (S' := [.int (-2)]) rfl rfl rfl rfl ?_
    exact g_iret C E dX4_explains_42 rfl Sq.rf rfl
  ·
    refine g_iload_n C 2 rfl rfl dX4_explains_11 ?_
    refine g_i2l C dX4_explains_12 ?_
    refine g_lconst C (v := 1) (by decide) dX4_explains_13 ?_
    refine g_ldc2 C cn_X4_111 dX4_explains_14 ?_
    refine g_callS1 [] C (c_X4_within w tu sg (Int32.toInt64 x) 1 99 ) mt_X4_within ml_X4_91 st_X4_within (by decide) rfl (Nat.le_of_ble_eq_true rfl) dX4_explains_17 ?_
    refine g_eq (L' := [(0, .ref (ad w 0)), (1, .long v), (3, .int x), (4, .int y)]) (S' := [.int (bI (1 ≤ (Int32.toInt64 x) ∧ (Int32.toInt64 x) ≤ 99))]) rfl rfl rfl rfl ?_
    refine g_bif_eq C (tgt := 36) (by decide) dX4_explains_20 (fun h20 => ?_) (fun h20 => ?_)
    ·
      refine g_aload_n C 0 rfl rfl dX4_explains_36 ?_
      refine g_bipush C (v := (-2)) (by decide) dX4_explains_37 ?_
      refine g_callV1 [] C (c_X4_counted_bad w tu sg  ) mt_X4_counted e_0 rfl ml_X4_83 im_X4_counted se_X4_counted (by decide) rfl (Nat.le_of_ble_eq_true rfl) dX4_explains_39 ?_
      refine g_eq (sg' := (us sg 0 (upd (sg 0) 5 ((sg 0) 5 + nI 1)))) (L' := [(0, .ref (ad w 0)), (1, .long v), (3, .int x), (4, .int y)]) (S' := [.int (-2)]) rfl rfl rfl rfl ?_
      exact g_iret C E dX4_explains_42 rfl Sq.rf rfl
    ·
      refine g_iload C 3 rfl dX4_explains_23 ?_
      refine g_i2l C dX4_explains_25 ?_
      refine g_lconst C (v := 0) (by decide) dX4_explains_26 ?_
      refine g_ldc2 C cn_X4_122 dX4_explains_27 ?_
      refine g_callS1 [] C (c_X4_within w tu sg (Int32.toInt64 y) 0 2 ) mt_X4_within ml_X4_91 st_X4_within (by decide) rfl (Nat.le_of_ble_eq_true rfl) dX4_explains_30 ?_
      refine g_eq (L' := [(0, .ref (ad w 0)), (1, .long v), (3, .int x), (4, .int y)]) (S' := [.int (bI (0 ≤ (Int32.toInt64 y) ∧ (Int32.toInt64 y) ≤ 2))]) rfl rfl rfl rfl ?_
      refine g_bif_ne C (tgt := 43) (by decide) dX4_explains_33 (fun h33 => absurd ⟨h8, h20, h33⟩ h) (fun h33 => ?_)
      refine g_aload_n C 0 rfl rfl dX4_explains_36 ?_
      refine g_bipush C (v := (-2)) (by decide) dX4_explains_37 ?_
      refine g_callV1 [] C (c_X4_counted_bad w tu sg  ) mt_X4_counted e_0 rfl ml_X4_83 im_X4_counted se_X4_counted (by decide) rfl (Nat.le_of_ble_eq_true rfl) dX4_explains_39 ?_
      refine g_eq (sg' := (us sg 0 (upd (sg 0) 5 ((sg 0) 5 + nI 1)))) (L' := [(0, .ref (ad w 0)), (1, .long v), (3, .int x), (4, .int y)]) (S' := [.int (-2)]) rfl rfl rfl rfl ?_
      exact g_iret C E dX4_explains_42 rfl Sq.rf rfl
set_option maxRecDepth 100000 in
set_option maxHeartbeats 400000 in
theorem c_X4_type_ok (w : GW) (tu : Int64) (sg : Sg) (c : Nat) (tl : Nat) (htl : sg 38 1 = nI tl) (hc : c ≤ 127) (h120 : tl < 120) : Kt w yX4_type cX4_type 2 (some .int) 2 [.ref (ad w 0), .int (nI c)] sg tu (some (.int (nI (tl + 1)))) (us (us sg 39 (upd (sg 39) tl (nI c))) 38 (upd (sg 38) 1 (nI (tl + 1)))) tu := by
  refine Kt.of2 RX4 rfl [(0, .ref (ad w 0)), (1, .int (nI c))] (by decide) rfl (Nat.le_of_ble_eq_true rfl) (fun z C E => ?_)
  refine g_aload_n C 0 rfl rfl dX4_type_0 ?_
  refine g_aload_n C 0 rfl rfl dX4_type_1 ?_
  refine g_getR C (j := 3) cls4 e_0 rfl (by decide) fl_X4_29 dX4_type_2 ?_
  refine g_iload_n C 1 rfl rfl dX4_type_5 ?_
  refine g_callV1 [.ref (ad w 0)] C (c_X2_add_ok w tu sg c tl htl hc h120) mt_X2_add e_38 rfl ml_X4_128 im_X2_add se_X2_add (by decide) rfl (Nat.le_of_ble_eq_true rfl) dX4_type_6 ?_
  refine g_eq (sg' := (us (us sg 39 (upd (sg 39) tl (nI c))) 38 (upd (sg 38) 1 (nI (tl + 1))))) (L' := [(0, .ref (ad w 0)), (1, .int (nI c))]) (S' := [.int (nI (tl + 1)), .ref (ad w 0)]) rfl rfl rfl rfl ?_
  refine g_callV1 [] C (c_X4_counted_ok w tu (us (us sg 39 (upd (sg 39) tl (nI c))) 38 (upd (sg 38) 1 (nI (tl + 1)))) (nI (tl + 1)) (nI_pos' (by omega))) mt_X4_counted e_0 rfl ml_X4_83 im_X4_counted se_X4_counted (by decide) rfl (Nat.le_of_ble_eq_true rfl) dX4_type_9 ?_
  refine g_eq (L' := [(0, .ref (ad w 0)), (1, .int (nI c))]) (S' := [.int (nI (tl + 1))]) rfl rfl rfl rfl ?_
  exact g_iret C E dX4_type_12 rfl Sq.rf rfl
set_option maxRecDepth 100000 in
set_option maxHeartbeats 400000 in
theorem c_X4_type_full (w : GW) (tu : Int64) (sg : Sg) (c : Nat) (tl : Nat) (htl : sg 38 1 = nI tl) (hc : c ≤ 127) (h120 : 120 ≤ tl) (hb : tl < 1000) : Kt w yX4_type cX4_type 2 (some .int) 2 [.ref (ad w 0), .int (nI c)] sg tu (some (.int (-4))) (us sg 0 (upd (sg 0) 7 ((sg 0) 7 + nI 1))) tu := by
  refine Kt.of2 RX4 rfl [(0, .ref (ad w 0)), (1, .int (nI c))] (by decide) rfl (Nat.le_of_ble_eq_true rfl) (fun z C E => ?_)
  refine g_aload_n C 0 rfl rfl dX4_type_0 ?_
  refine g_aload_n C 0 rfl rfl dX4_type_1 ?_
  refine g_getR C (j := 3) cls4 e_0 rfl (by decide) fl_X4_29 dX4_type_2 ?_
  refine g_iload_n C 1 rfl rfl dX4_type_5 ?_
  refine g_callV1 [.ref (ad w 0)] C (c_X2_add_full w tu sg c tl htl hc h120 hb) mt_X2_add e_38 rfl ml_X4_128 im_X2_add se_X2_add (by decide) rfl (Nat.le_of_ble_eq_true rfl) dX4_type_6 ?_
  refine g_eq (L' := [(0, .ref (ad w 0)), (1, .int (nI c))]) (S' := [.int (-4), .ref (ad w 0)]) rfl rfl rfl rfl ?_
  refine g_callV1 [] C (c_X4_counted_full w tu sg  ) mt_X4_counted e_0 rfl ml_X4_83 im_X4_counted se_X4_counted (by decide) rfl (Nat.le_of_ble_eq_true rfl) dX4_type_9 ?_
  refine g_eq (sg' := (us sg 0 (upd (sg 0) 7 ((sg 0) 7 + nI 1)))) (L' := [(0, .ref (ad w 0)), (1, .int (nI c))]) (S' := [.int (-4)]) rfl rfl rfl rfl ?_
  exact g_iret C E dX4_type_12 rfl Sq.rf rfl
set_option maxRecDepth 100000 in
set_option maxHeartbeats 400000 in
theorem c_X4_type_bad (w : GW) (tu : Int64) (sg : Sg) (v : Int32) (h : ¬ (0 ≤ Int32.toInt64 v ∧ Int32.toInt64 v ≤ 127)) : Kt w yX4_type cX4_type 2 (some .int) 2 [.ref (ad w 0), .int v] sg tu (some (.int (-2))) (us sg 0 (upd (sg 0) 5 ((sg 0) 5 + nI 1))) tu := by
  refine Kt.of2 RX4 rfl [(0, .ref (ad w 0)), (1, .int v)] (by decide) rfl (Nat.le_of_ble_eq_true rfl) (fun z C E => ?_)
  refine g_aload_n C 0 rfl rfl dX4_type_0 ?_
  refine g_aload_n C 0 rfl rfl dX4_type_1 ?_
  refine g_getR C (j := 3) cls4 e_0 rfl (by decide) fl_X4_29 dX4_type_2 ?_
  refine g_iload_n C 1 rfl rfl dX4_type_5 ?_
  refine g_callV1 [.ref (ad w 0)] C (c_X2_add_bad w tu sg v h) mt_X2_add e_38 rfl ml_X4_128 im_X2_add se_X2_add (by decide) rfl (Nat.le_of_ble_eq_true rfl) dX4_type_6 ?_
  refine g_eq (L' := [(0, .ref (ad w 0)), (1, .int v)]) (S' := [.int (-2), .ref (ad w 0)]) rfl rfl rfl rfl ?_
  refine g_callV1 [] C (c_X4_counted_bad w tu sg  ) mt_X4_counted e_0 rfl ml_X4_83 im_X4_counted se_X4_counted (by decide) rfl (Nat.le_of_ble_eq_true rfl) dX4_type_9 ?_
  refine g_eq (sg' := (us sg 0 (upd (sg 0) 5 ((sg 0) 5 + nI 1)))) (L' := [(0, .ref (ad w 0)), (1, .int v)]) (S' := [.int (-2)]) rfl rfl rfl rfl ?_
  exact g_iret C E dX4_type_12 rfl Sq.rf rfl
set_option maxRecDepth 100000 in
set_option maxHeartbeats 400000 in
theorem c_X4_wipes (w : GW) (tu : Int64) (sg : Sg) : Kt w yX4_wipes cX4_wipes 1 (some .int) 1 [.ref (ad w 0)] sg tu (some (.int (sg 38 1))) (us sg 38 (upd (sg 38) 1 (nI 0))) tu := by
  refine Kt.of2 RX4 rfl [(0, .ref (ad w 0))] (by decide) rfl (Nat.le_of_ble_eq_true rfl) (fun z C E => ?_)
  refine g_aload_n C 0 rfl rfl dX4_wipes_0 ?_
  refine g_getR C (j := 3) cls4 e_0 rfl (by decide) fl_X4_29 dX4_wipes_1 ?_
  refine g_callV1 [] C (c_X2_empty w tu sg  ) mt_X2_empty e_38 rfl ml_X4_131 im_X2_empty se_X2_empty (by decide) rfl (Nat.le_of_ble_eq_true rfl) dX4_wipes_4 ?_
  refine g_eq (sg' := (us sg 38 (upd (sg 38) 1 (nI 0)))) (L' := [(0, .ref (ad w 0))]) (S' := [.int (sg 38 1)]) rfl rfl rfl rfl ?_
  exact g_iret C E dX4_wipes_7 rfl Sq.rf rfl
set_option maxRecDepth 100000 in
set_option maxHeartbeats 400000 in
theorem c_X4_back_no (w : GW) (tu : Int64) (sg : Sg) (hsz : sg 11 2 = nI 0) : Kt w yX4_back cX4_back 1 (some .int) 1 [.ref (ad w 0)] sg tu (some (.int (-3))) (us sg 0 (upd (sg 0) 6 ((sg 0) 6 + nI 1))) tu := by
  refine Kt.of2 RX4 rfl [(0, .ref (ad w 0))] (by decide) rfl (Nat.le_of_ble_eq_true rfl) (fun z C E => ?_)
  refine g_aload_n C 0 rfl rfl dX4_back_0 ?_
  refine g_getR C (j := 2) cls4 e_0 rfl (by decide) fl_X4_22 dX4_back_1 ?_
  refine g_getI C (j := 2) cls1 e_11 rfl (by decide) fl_X4_162 dX4_back_4 ?_
  refine g_top (y := (nI 0)) hsz ?_
  refine g_if_ne C (tgt := 17) (by decide) dX4_back_7 (fun h7 => absurd h7 (by decide)) (fun h7 => ?_)
  refine g_aload_n C 0 rfl rfl dX4_back_10 ?_
  refine g_bipush C (v := (-3)) (by decide) dX4_back_11 ?_
  refine g_callV1 [] C (c_X4_counted_no w tu sg  ) mt_X4_counted e_0 rfl ml_X4_83 im_X4_counted se_X4_counted (by decide) rfl (Nat.le_of_ble_eq_true rfl) dX4_back_13 ?_
  refine g_eq (sg' := (us sg 0 (upd (sg 0) 6 ((sg 0) 6 + nI 1)))) (L' := [(0, .ref (ad w 0))]) (S' := [.int (-3)]) rfl rfl rfl rfl ?_
  exact g_iret C E dX4_back_16 rfl Sq.rf rfl
set_option maxRecDepth 100000 in
set_option maxHeartbeats 400000 in
theorem c_X4_back_ok (w : GW) (tu : Int64) (sg : Sg) (nx sz : Nat) (hn5 : nx < 5) (hnx : sg 11 1 = nI nx) (hsz : sg 11 2 = nI (sz + 1)) (hs5 : sz < 5) : Kt w yX4_back cX4_back 1 (some .int) 3 [.ref (ad w 0)] sg tu (some (.int (nI sz))) (wrR (gbS sg nx sz) 1 (rowC (gbS sg nx sz) (13 + 5 * ((nx + 4) % 5)))) tu := by
  refine Kt.of2 RX4 rfl [(0, .ref (ad w 0))] (by decide) rfl (Nat.le_of_ble_eq_true rfl) (fun z C E => ?_)
  refine g_aload_n C 0 rfl rfl dX4_back_0 ?_
  refine g_getR C (j := 2) cls4 e_0 rfl (by decide) fl_X4_22 dX4_back_1 ?_
  refine g_getI C (j := 2) cls1 e_11 rfl (by decide) fl_X4_162 dX4_back_4 ?_
  refine g_top (y := (nI (sz + 1))) hsz ?_
  refine g_ifN_ne C (sz + 1) (by omega) (tgt := 17) (by decide) dX4_back_7 (fun h7 => ?_) (fun h7 => absurd h7 (by omega))
  refine g_aload_n C 0 rfl rfl dX4_back_17 ?_
  refine g_getR C (j := 2) cls4 e_0 rfl (by decide) fl_X4_22 dX4_back_18 ?_
  refine g_aload_n C 0 rfl rfl dX4_back_21 ?_
  refine g_getR C (j := 0) cls4 e_0 rfl (by decide) fl_X4_10 dX4_back_22 ?_
  refine g_callV0 [] C (c_X1_giveBackTo w tu sg  nx sz hn5 hnx hsz hs5) mt_X1_giveBackTo e_11 rfl ml_X4_163 im_X1_giveBackTo se_X1_giveBackTo (by decide) rfl (Nat.le_of_ble_eq_true rfl) dX4_back_25 ?_
  refine g_eq (sg' := (wrR (gbS sg nx sz) 1 (rowC (gbS sg nx sz) (13 + 5 * ((nx + 4) % 5))))) (L' := [(0, .ref (ad w 0))]) (S' := []) rfl rfl rfl rfl ?_
  refine g_aload_n C 0 rfl rfl dX4_back_28 ?_
  refine g_getR C (j := 2) cls4 e_0 rfl (by decide) fl_X4_22 dX4_back_29 ?_
  refine g_getI C (j := 2) cls1 e_11 rfl (by decide) fl_X4_162 dX4_back_32 ?_
  refine g_top (y := (nI sz)) (by rw [wrR_n (by omega)]; rfl) ?_
  exact g_iret C E dX4_back_35 rfl Sq.rf rfl
set_option maxRecDepth 100000 in
set_option maxHeartbeats 400000 in
theorem c_X4_told_0 (w : GW) (tu : Int64) (sg : Sg) : Kt w yX4_told cX4_told 2 (some .int) 1 [.ref (ad w 0), .int (nI 0)] sg tu (some (.int (sg 0 5))) sg tu := by
  refine Kt.of2 RX4 rfl [(0, .ref (ad w 0)), (1, .int (nI 0))] (by decide) rfl (Nat.le_of_ble_eq_true rfl) (fun z C E => ?_)
  refine g_iload_n C 1 rfl rfl dX4_told_0 ?_
  refine g_tabIn C (off := 35) (tgt := 36) dX4_told_1 (by decide) (by decide) (by decide) (by decide) ?_
  refine g_aload_n C 0 rfl rfl dX4_told_36 ?_
  refine g_getI C (j := 5) cls4 e_0 rfl (by decide) fl_X4_166 dX4_told_37 ?_
  exact g_iret C E dX4_told_40 rfl Sq.rf rfl
set_option maxRecDepth 100000 in
set_option maxHeartbeats 400000 in
theorem c_X4_told_1 (w : GW) (tu : Int64) (sg : Sg) : Kt w yX4_told cX4_told 2 (some .int) 1 [.ref (ad w 0), .int (nI 1)] sg tu (some (.int (sg 0 6))) sg tu := by
  refine Kt.of2 RX4 rfl [(0, .ref (ad w 0)), (1, .int (nI 1))] (by decide) rfl (Nat.le_of_ble_eq_true rfl) (fun z C E => ?_)
  refine g_iload_n C 1 rfl rfl dX4_told_0 ?_
  refine g_tabIn C (off := 40) (tgt := 41) dX4_told_1 (by decide) (by decide) (by decide) (by decide) ?_
  refine g_aload_n C 0 rfl rfl dX4_told_41 ?_
  refine g_getI C (j := 6) cls4 e_0 rfl (by decide) fl_X4_169 dX4_told_42 ?_
  exact g_iret C E dX4_told_45 rfl Sq.rf rfl
set_option maxRecDepth 100000 in
set_option maxHeartbeats 400000 in
theorem c_X4_told_2 (w : GW) (tu : Int64) (sg : Sg) : Kt w yX4_told cX4_told 2 (some .int) 1 [.ref (ad w 0), .int (nI 2)] sg tu (some (.int (sg 0 7))) sg tu := by
  refine Kt.of2 RX4 rfl [(0, .ref (ad w 0)), (1, .int (nI 2))] (by decide) rfl (Nat.le_of_ble_eq_true rfl) (fun z C E => ?_)
  refine g_iload_n C 1 rfl rfl dX4_told_0 ?_
  refine g_tabIn C (off := 45) (tgt := 46) dX4_told_1 (by decide) (by decide) (by decide) (by decide) ?_
  refine g_aload_n C 0 rfl rfl dX4_told_46 ?_
  refine g_getI C (j := 7) cls4 e_0 rfl (by decide) fl_X4_172 dX4_told_47 ?_
  exact g_iret C E dX4_told_50 rfl Sq.rf rfl
set_option maxRecDepth 100000 in
set_option maxHeartbeats 400000 in
theorem c_X4_told_3 (w : GW) (tu : Int64) (sg : Sg) : Kt w yX4_told cX4_told 2 (some .int) 1 [.ref (ad w 0), .int (nI 3)] sg tu (some (.int (sg 38 1))) sg tu := by
  refine Kt.of2 RX4 rfl [(0, .ref (ad w 0)), (1, .int (nI 3))] (by decide) rfl (Nat.le_of_ble_eq_true rfl) (fun z C E => ?_)
  refine g_iload_n C 1 rfl rfl dX4_told_0 ?_
  refine g_tabIn C (off := 50) (tgt := 51) dX4_told_1 (by decide) (by decide) (by decide) (by decide) ?_
  refine g_aload_n C 0 rfl rfl dX4_told_51 ?_
  refine g_getR C (j := 3) cls4 e_0 rfl (by decide) fl_X4_29 dX4_told_52 ?_
  refine g_getI C (j := 1) cls2 e_38 rfl (by decide) fl_X4_175 dX4_told_55 ?_
  exact g_iret C E dX4_told_58 rfl Sq.rf rfl
set_option maxRecDepth 100000 in
set_option maxHeartbeats 400000 in
theorem c_X4_told_4 (w : GW) (tu : Int64) (sg : Sg) : Kt w yX4_told cX4_told 2 (some .int) 1 [.ref (ad w 0), .int (nI 4)] sg tu (some (.int (sg 11 2))) sg tu := by
  refine Kt.of2 RX4 rfl [(0, .ref (ad w 0)), (1, .int (nI 4))] (by decide) rfl (Nat.le_of_ble_eq_true rfl) (fun z C E => ?_)
  refine g_iload_n C 1 rfl rfl dX4_told_0 ?_
  refine g_tabIn C (off := 58) (tgt := 59) dX4_told_1 (by decide) (by decide) (by decide) (by decide) ?_
  refine g_aload_n C 0 rfl rfl dX4_told_59 ?_
  refine g_getR C (j := 2) cls4 e_0 rfl (by decide) fl_X4_22 dX4_told_60 ?_
  refine g_getI C (j := 2) cls1 e_11 rfl (by decide) fl_X4_162 dX4_told_63 ?_
  exact g_iret C E dX4_told_66 rfl Sq.rf rfl
set_option maxRecDepth 100000 in
set_option maxHeartbeats 400000 in
theorem c_X4_told_bad (w : GW) (tu : Int64) (sg : Sg) (v : Int32) (h : ¬ (0 ≤ Int32.toInt64 v ∧ Int32.toInt64 v ≤ 4)) : Kt w yX4_told cX4_told 2 (some .int) 1 [.ref (ad w 0), .int v] sg tu (some (.int (-2))) (us sg 0 (upd (sg 0) 5 ((sg 0) 5 + nI 1))) tu := by
  refine Kt.of2 RX4 rfl [(0, .ref (ad w 0)), (1, .int v)] (by decide) rfl (Nat.le_of_ble_eq_true rfl) (fun z C E => ?_)
  refine g_iload_n C 1 rfl rfl dX4_told_0 ?_
  refine g_tabOut C (tgt := 67) dX4_told_1 (tb_out (n := 4) (by decide) h) (by decide) ?_
  refine g_aload_n C 0 rfl rfl dX4_told_67 ?_
  refine g_bipush C (v := (-2)) (by decide) dX4_told_68 ?_
  refine g_callV1 [] C (c_X4_counted_bad w tu sg  ) mt_X4_counted e_0 rfl ml_X4_83 im_X4_counted se_X4_counted (by decide) rfl (Nat.le_of_ble_eq_true rfl) dX4_told_70 ?_
  refine g_eq (sg' := (us sg 0 (upd (sg 0) 5 ((sg 0) 5 + nI 1)))) (L' := [(0, .ref (ad w 0)), (1, .int v)]) (S' := [.int (-2)]) rfl rfl rfl rfl ?_
  exact g_iret C E dX4_told_73 rfl Sq.rf rfl
theorem c_X4_told_n (w : GW) (tu : Int64) (sg : Sg) (k : Nat) (hk : k ≤ 4) : Kt w yX4_told cX4_told 2 (some .int) 1 [.ref (ad w 0), .int (nI k)] sg tu (some (.int (tC sg k))) sg tu := by
  rcases (show k = 0 ∨ k = 1 ∨ k = 2 ∨ k = 3 ∨ k = 4 by omega) with rfl | rfl | rfl | rfl | rfl
  · exact c_X4_told_0 w tu sg
  · exact c_X4_told_1 w tu sg
  · exact c_X4_told_2 w tu sg
  · exact c_X4_told_3 w tu sg
  · exact c_X4_told_4 w tu sg
