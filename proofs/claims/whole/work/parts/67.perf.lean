theorem in_le {x n : Nat} (hx : x < 2 ^ 31) (hn : n < 2 ^ 31) (q : (0 : Int64) ≤ Int32.toInt64 (nI x) ∧ Int32.toInt64 (nI x) ≤ lN n) : x ≤ n := Classical.byContradiction (fun h => in_no hx hn h q)
theorem in_le1 {x n : Nat} (hx : x < 2 ^ 31) (hn : n < 2 ^ 31) (q : (1 : Int64) ≤ Int32.toInt64 (nI x) ∧ Int32.toInt64 (nI x) ≤ lN n) : 1 ≤ x ∧ x ≤ n := Classical.byContradiction (fun h => in_no1 hx hn h q)
theorem nm_dd {sg : Sg} {j : Nat} (hok : ROk (rowC sg 1)) (hj : j < 6) : 0 ≤ sg 2 j := by
  rw [show sg 2 j = rowC sg 1 j from (rowC_d (sg := sg) (w := 1) hj).symm, (hok.1 j hj).1]
  exact nI_pos' (by have := (hok.1 j hj).2; omega)
theorem nm_sh {sg : Sg} (hok : ROk (rowC sg 1)) : 0 ≤ sg 1 4 := by
  rw [show sg 1 4 = rowC sg 1 31 from (rowC_f (sg := sg) (w := 1) (j := 4) (by omega)).symm, hok.2.2.2.1.1]
  exact nI_pos' (by have := hok.2.2.2.1.2; omega)
theorem nm_re {sg : Sg} (hok : ROk (rowC sg 1)) : 0 ≤ sg 1 5 := by
  rw [show sg 1 5 = rowC sg 1 32 from (rowC_f (sg := sg) (w := 1) (j := 5) (by omega)).symm, hok.2.2.2.2.1]
  exact nI_pos' (by have := hok.2.2.2.2.2; omega)
theorem nm_we {sg : Sg} {j t : Nat} (hok : ROk (rowC sg 1)) (hj : j < 6) (ht1 : 1 ≤ t) (ht : t ≤ 9) : 0 ≤ bcX ((sg 3 j) ^^^ (nI 1 <<< (nI t &&& 31))) := by
  rw [show sg 3 j = rowC sg 1 (6 + j) from (rowC_o (sg := sg) (w := 1) hj).symm, bc_w hok hj ht1 ht]
  exact wm_nn
theorem nI_nm {n : Nat} (h : n < 2 ^ 31) : ¬ nI n = (-1) := fun q => by
  have h1 := congrArg Int32.toInt q
  rw [nI_toInt h, show (-1 : Int32).toInt = -1 by decide] at h1
  omega
theorem enR_le {tx : Nat → Nat} {len q a b : Nat} (hq : q ≤ len) : (enR tx len q a b).2.1 ≤ len := by
  unfold enR
  split
  · rename_i h; exact h.1
  · exact sk_le hq
theorem odR_le {tx : Nat → Nat} {len p : Nat} (hp : p < len) : (odR tx len p).2.1 ≤ len := by
  have l1 : (nuP tx len (p + 1)).1 ≤ len := nuP_le hp
  have l2 : (nuP tx len (nuP tx len (p + 1)).1).1 ≤ len := nuP_le l1
  unfold odR
  split
  · exact Nat.le_of_lt hp
  · split
    · exact enR_le hp
    · split
      · split
        · exact enR_le l1
        · split
          · exact enR_le l2
          · exact l2
      · exact l1
theorem flP_le {tx : Nat → Nat} {len m : Nat} (h : pst tx len m = len ∨ (pst tx len m < len ∧ (odR tx len (pst tx len m)).1 = false)) : flP tx len m ≤ len := by
  unfold flP
  split
  · exact sk_le (Nat.zero_le _)
  · rename_i h1
    exact odR_le (h.resolve_left h1).1
def dcP (sg : Sg) (tu : Int64) (l a b : Nat) (r : Option Value) (s2 : Sg) (t2 : Int64) : Prop := tu = t2 ∧ (∀ k, k < 1 ∨ 5 < k → s2 k = sg k) ∧ ((∃ f v, opR l a b (rowC sg 1) = some f ∧ rowC s2 1 = f ∧ r = some (.int v) ∧ 0 ≤ v) ∨ (opR l a b (rowC sg 1) = none ∧ ∃ v, r = some (.int v) ∧ ¬ 0 ≤ v))
set_option maxRecDepth 100000 in
set_option maxHeartbeats 400000 in
theorem c_X4_perform_i_ok (w : GW) (tu : Int64) (sg : Sg) (a : Nat) (b : Nat) (ha9 : a < 1000000) (hb9 : b < 1000000) (h : a < 6 ∧ b ≤ 9) : Kt w yX4_perform cX4_perform 4 (some .int) 5 [.ref (ad w 0), .int (nI 105), .int (nI a), .int (nI b)] sg tu (some (.int (sg 2 a))) (wrR sg 1 (upd (rowC sg 1) a (nI b))) tu := by
  refine Kt.of2 RX4 rfl [(0, .ref (ad w 0)), (1, .int (nI 105)), (2, .int (nI a)), (3, .int (nI b))] (by decide) rfl (Nat.le_of_ble_eq_true rfl) (fun z C E => ?_)
  refine g_iload_n C 1 rfl rfl dX4_perform_0 ?_
  refine g_tabIn C (off := 99) (tgt := 100) dX4_perform_1 (by decide) (by decide) (by decide) (by decide) ?_
  refine g_aload_n C 0 rfl rfl dX4_perform_100 ?_
  refine g_getR C (j := 0) cls4 e_0 rfl (by decide) fl_X4_10 dX4_perform_101 ?_
  refine g_iload_n C 2 rfl rfl dX4_perform_104 ?_
  refine g_iload_n C 3 rfl rfl dX4_perform_105 ?_
  refine g_callV1 [] C (c_X3_setDrum_ok w tu sg a b h.1 h.2) mt_X3_setDrum e_1 rfl ml_X4_43 im_X3_setDrum se_X3_setDrum (by decide) rfl (Nat.le_of_ble_eq_true rfl) dX4_perform_106 ?_
  refine g_eq (sg' := (wrR sg 1 (upd (rowC sg 1) a (nI b)))) (L' := [(0, .ref (ad w 0)), (1, .int (nI 105)), (2, .int (nI a)), (3, .int (nI b))]) (S' := [.int (sg 2 a)]) rfl rfl rfl rfl ?_
  exact g_iret C E dX4_perform_109 rfl Sq.rf rfl
set_option maxRecDepth 100000 in
set_option maxHeartbeats 400000 in
theorem c_X4_perform_i_no (w : GW) (tu : Int64) (sg : Sg) (a : Nat) (b : Nat) (ha9 : a < 1000000) (hb9 : b < 1000000) (h : ¬ (a < 6 ∧ b ≤ 9)) : Kt w yX4_perform cX4_perform 4 (some .int) 5 [.ref (ad w 0), .int (nI 105), .int (nI a), .int (nI b)] sg tu (some (.int (-2))) sg tu := by
  refine Kt.of2 RX4 rfl [(0, .ref (ad w 0)), (1, .int (nI 105)), (2, .int (nI a)), (3, .int (nI b))] (by decide) rfl (Nat.le_of_ble_eq_true rfl) (fun z C E => ?_)
  refine g_iload_n C 1 rfl rfl dX4_perform_0 ?_
  refine g_tabIn C (off := 99) (tgt := 100) dX4_perform_1 (by decide) (by decide) (by decide) (by decide) ?_
  refine g_aload_n C 0 rfl rfl dX4_perform_100 ?_
  refine g_getR C (j := 0) cls4 e_0 rfl (by decide) fl_X4_10 dX4_perform_101 ?_
  refine g_iload_n C 2 rfl rfl dX4_perform_104 ?_
  refine g_iload_n C 3 rfl rfl dX4_perform_105 ?_
  refine g_callV1 [] C (c_X3_setDrum_bad w tu sg (nI a) (nI b) (fun q => h ⟨by have := in_le (n := 5) (by omega) (by omega) q.1; omega, in_le (n := 9) (by omega) (by omega) q.2⟩)) mt_X3_setDrum e_1 rfl ml_X4_43 im_X3_setDrum se_X3_setDrum (by decide) rfl (Nat.le_of_ble_eq_true rfl) dX4_perform_106 ?_
  refine g_eq (L' := [(0, .ref (ad w 0)), (1, .int (nI 105)), (2, .int (nI a)), (3, .int (nI b))]) (S' := [.int (-2)]) rfl rfl rfl rfl ?_
  exact g_iret C E dX4_perform_109 rfl Sq.rf rfl
set_option maxRecDepth 100000 in
set_option maxHeartbeats 400000 in
theorem c_X4_perform_s_ok (w : GW) (tu : Int64) (sg : Sg) (a : Nat) (y : Int32) (ha9 : a < 1000000) (h : a ≤ 6) : Kt w yX4_perform cX4_perform 4 (some .int) 5 [.ref (ad w 0), .int (nI 115), .int (nI a), .int y] sg tu (some (.int (sg 1 4))) (wrR sg 1 (upd (rowC sg 1) 31 (nI a))) tu := by
  refine Kt.of2 RX4 rfl [(0, .ref (ad w 0)), (1, .int (nI 115)), (2, .int (nI a)), (3, .int y)] (by decide) rfl (Nat.le_of_ble_eq_true rfl) (fun z C E => ?_)
  refine g_iload_n C 1 rfl rfl dX4_perform_0 ?_
  refine g_tabIn C (off := 109) (tgt := 110) dX4_perform_1 (by decide) (by decide) (by decide) (by decide) ?_
  refine g_aload_n C 0 rfl rfl dX4_perform_110 ?_
  refine g_getR C (j := 0) cls4 e_0 rfl (by decide) fl_X4_10 dX4_perform_111 ?_
  refine g_iload_n C 2 rfl rfl dX4_perform_114 ?_
  refine g_callV1 [] C (c_X3_setShift_ok w tu sg a h) mt_X3_setShift e_1 rfl ml_X4_54 im_X3_setShift se_X3_setShift (by decide) rfl (Nat.le_of_ble_eq_true rfl) dX4_perform_115 ?_
  refine g_eq (sg' := (wrR sg 1 (upd (rowC sg 1) 31 (nI a)))) (L' := [(0, .ref (ad w 0)), (1, .int (nI 115)), (2, .int (nI a)), (3, .int y)]) (S' := [.int (sg 1 4)]) rfl rfl rfl rfl ?_
  exact g_iret C E dX4_perform_118 rfl Sq.rf rfl
set_option maxRecDepth 100000 in
set_option maxHeartbeats 400000 in
theorem c_X4_perform_s_no (w : GW) (tu : Int64) (sg : Sg) (a : Nat) (y : Int32) (ha9 : a < 1000000) (h : ¬ a ≤ 6) : Kt w yX4_perform cX4_perform 4 (some .int) 5 [.ref (ad w 0), .int (nI 115), .int (nI a), .int y] sg tu (some (.int (-2))) sg tu := by
  refine Kt.of2 RX4 rfl [(0, .ref (ad w 0)), (1, .int (nI 115)), (2, .int (nI a)), (3, .int y)] (by decide) rfl (Nat.le_of_ble_eq_true rfl) (fun z C E => ?_)
  refine g_iload_n C 1 rfl rfl dX4_perform_0 ?_
  refine g_tabIn C (off := 109) (tgt := 110) dX4_perform_1 (by decide) (by decide) (by decide) (by decide) ?_
  refine g_aload_n C 0 rfl rfl dX4_perform_110 ?_
  refine g_getR C (j := 0) cls4 e_0 rfl (by decide) fl_X4_10 dX4_perform_111 ?_
  refine g_iload_n C 2 rfl rfl dX4_perform_114 ?_
  refine g_callV1 [] C (c_X3_setShift_bad w tu sg (nI a) (fun q => h (in_le (n := 6) (by omega) (by omega) q))) mt_X3_setShift e_1 rfl ml_X4_54 im_X3_setShift se_X3_setShift (by decide) rfl (Nat.le_of_ble_eq_true rfl) dX4_perform_115 ?_
  refine g_eq (L' := [(0, .ref (ad w 0)), (1, .int (nI 115)), (2, .int (nI a)), (3, .int y)]) (S' := [.int (-2)]) rfl rfl rfl rfl ?_
  exact g_iret C E dX4_perform_118 rfl Sq.rf rfl
set_option maxRecDepth 100000 in
set_option maxHeartbeats 400000 in
theorem c_X4_perform_r_ok (w : GW) (tu : Int64) (sg : Sg) (a : Nat) (y : Int32) (ha9 : a < 1000000) (h : a ≤ 12) : Kt w yX4_perform cX4_perform 4 (some .int) 5 [.ref (ad w 0), .int (nI 114), .int (nI a), .int y] sg tu (some (.int (sg 1 5))) (wrR sg 1 (upd (rowC sg 1) 32 (nI a))) tu := by
  refine Kt.of2 RX4 rfl [(0, .ref (ad w 0)), (1, .int (nI 114)), (2, .int (nI a)), (3, .int y)] (by decide) rfl (Nat.le_of_ble_eq_true rfl) (fun z C E => ?_)
  refine g_iload_n C 1 rfl rfl dX4_perform_0 ?_
  refine g_tabIn C (off := 174) (tgt := 175) dX4_perform_1 (by decide) (by decide) (by decide) (by decide) ?_
  refine g_aload_n C 0 rfl rfl dX4_perform_175 ?_
  refine g_getR C (j := 0) cls4 e_0 rfl (by decide) fl_X4_10 dX4_perform_176 ?_
  refine g_iload_n C 2 rfl rfl dX4_perform_179 ?_
  refine g_callV1 [] C (c_X3_setReach_ok w tu sg a h) mt_X3_setReach e_1 rfl ml_X4_57 im_X3_setReach se_X3_setReach (by decide) rfl (Nat.le_of_ble_eq_true rfl) dX4_perform_180 ?_
  refine g_eq (sg' := (wrR sg 1 (upd (rowC sg 1) 32 (nI a)))) (L' := [(0, .ref (ad w 0)), (1, .int (nI 114)), (2, .int (nI a)), (3, .int y)]) (S' := [.int (sg 1 5)]) rfl rfl rfl rfl ?_
  exact g_iret C E dX4_perform_183 rfl Sq.rf rfl
set_option maxRecDepth 100000 in
set_option maxHeartbeats 400000 in
theorem c_X4_perform_r_no (w : GW) (tu : Int64) (sg : Sg) (a : Nat) (y : Int32) (ha9 : a < 1000000) (h : ¬ a ≤ 12) : Kt w yX4_perform cX4_perform 4 (some .int) 5 [.ref (ad w 0), .int (nI 114), .int (nI a), .int y] sg tu (some (.int (-2))) sg tu := by
  refine Kt.of2 RX4 rfl [(0, .ref (ad w 0)), (1, .int (nI 114)), (2, .int (nI a)), (3, .int y)] (by decide) rfl (Nat.le_of_ble_eq_true rfl) (fun z C E => ?_)
  refine g_iload_n C 1 rfl rfl dX4_perform_0 ?_
  refine g_tabIn C (off := 174) (tgt := 175) dX4_perform_1 (by decide) (by decide) (by decide) (by decide) ?_
  refine g_aload_n C 0 rfl rfl dX4_perform_175 ?_
  refine g_getR C (j := 0) cls4 e_0 rfl (by decide) fl_X4_10 dX4_perform_176 ?_
  refine g_iload_n C 2 rfl rfl dX4_perform_179 ?_
  refine g_callV1 [] C (c_X3_setReach_bad w tu sg (nI a) (fun q => h (in_le (n := 12) (by omega) (by omega) q))) mt_X3_setReach e_1 rfl ml_X4_57 im_X3_setReach se_X3_setReach (by decide) rfl (Nat.le_of_ble_eq_true rfl) dX4_perform_180 ?_
  refine g_eq (L' := [(0, .ref (ad w 0)), (1, .int (nI 114)), (2, .int (nI a)), (3, .int y)]) (S' := [.int (-2)]) rfl rfl rfl rfl ?_
  exact g_iret C E dX4_perform_183 rfl Sq.rf rfl
set_option maxRecDepth 100000 in
set_option maxHeartbeats 400000 in
theorem c_X4_perform_u_ok (w : GW) (tu : Int64) (sg : Sg) (a : Nat) (y : Int32) (ha9 : a < 1000000) (hok : ROk (rowC sg 1)) (h : 1 ≤ a ∧ a ≤ 99) : Kt w yX4_perform cX4_perform 4 (some .int) 5 [.ref (ad w 0), .int (nI 117), .int (nI a), .int y] sg tu (some (.int (rgs true (nI 1) (gN (rowC sg 1)) (rowC sg 1) a))) (wrR sg 1 (itR true (nI 1) (gN (rowC sg 1)) a (rowC sg 1))) tu := by
  refine Kt.of2 RX4 rfl [(0, .ref (ad w 0)), (1, .int (nI 117)), (2, .int (nI a)), (3, .int y)] (by decide) rfl (Nat.le_of_ble_eq_true rfl) (fun z C E => ?_)
  refine g_iload_n C 1 rfl rfl dX4_perform_0 ?_
  refine g_tabIn C (off := 118) (tgt := 119) dX4_perform_1 (by decide) (by decide) (by decide) (by decide) ?_
  refine g_aload_n C 0 rfl rfl dX4_perform_119 ?_
  refine g_getR C (j := 0) cls4 e_0 rfl (by decide) fl_X4_10 dX4_perform_120 ?_
  refine g_iload_n C 2 rfl rfl dX4_perform_123 ?_
  refine g_iconst C (v := (nI 1)) (by decide) dX4_perform_124 ?_
  refine g_callV1 [] C (c_X3_turnOften_up w tu sg a h.1 h.2 hok) mt_X3_turnOften e_1 rfl ml_X4_71 im_X3_turnOften se_X3_turnOften (by decide) rfl (Nat.le_of_ble_eq_true rfl) dX4_perform_125 ?_
  refine g_eq (sg' := (wrR sg 1 (itR true (nI 1) (gN (rowC sg 1)) a (rowC sg 1)))) (L' := [(0, .ref (ad w 0)), (1, .int (nI 117)), (2, .int (nI a)), (3, .int y)]) (S' := [.int (rgs true (nI 1) (gN (rowC sg 1)) (rowC sg 1) a)]) rfl rfl rfl rfl ?_
  exact g_iret C E dX4_perform_128 rfl Sq.rf rfl
set_option maxRecDepth 100000 in
set_option maxHeartbeats 400000 in
theorem c_X4_perform_u_no (w : GW) (tu : Int64) (sg : Sg) (a : Nat) (y : Int32) (ha9 : a < 1000000) (h : ¬ (1 ≤ a ∧ a ≤ 99)) : Kt w yX4_perform cX4_perform 4 (some .int) 5 [.ref (ad w 0), .int (nI 117), .int (nI a), .int y] sg tu (some (.int (-2))) sg tu := by
  refine Kt.of2 RX4 rfl [(0, .ref (ad w 0)), (1, .int (nI 117)), (2, .int (nI a)), (3, .int y)] (by decide) rfl (Nat.le_of_ble_eq_true rfl) (fun z C E => ?_)
  refine g_iload_n C 1 rfl rfl dX4_perform_0 ?_
  refine g_tabIn C (off := 118) (tgt := 119) dX4_perform_1 (by decide) (by decide) (by decide) (by decide) ?_
  refine g_aload_n C 0 rfl rfl dX4_perform_119 ?_
  refine g_getR C (j := 0) cls4 e_0 rfl (by decide) fl_X4_10 dX4_perform_120 ?_
  refine g_iload_n C 2 rfl rfl dX4_perform_123 ?_
  refine g_iconst C (v := (nI 1)) (by decide) dX4_perform_124 ?_
  refine g_callV1 [] C (c_X3_turnOften_up_bad w tu sg (nI a) (fun q => h (in_le1 (n := 99) (by omega) (by omega) q))) mt_X3_turnOften e_1 rfl ml_X4_71 im_X3_turnOften se_X3_turnOften (by decide) rfl (Nat.le_of_ble_eq_true rfl) dX4_perform_125 ?_
  refine g_eq (L' := [(0, .ref (ad w 0)), (1, .int (nI 117)), (2, .int (nI a)), (3, .int y)]) (S' := [.int (-2)]) rfl rfl rfl rfl ?_
  exact g_iret C E dX4_perform_128 rfl Sq.rf rfl
set_option maxRecDepth 100000 in
set_option maxHeartbeats 400000 in
theorem c_X4_perform_d_ok (w : GW) (tu : Int64) (sg : Sg) (a : Nat) (y : Int32) (ha9 : a < 1000000) (hok : ROk (rowC sg 1)) (h : 1 ≤ a ∧ a ≤ 99) : Kt w yX4_perform cX4_perform 4 (some .int) 5 [.ref (ad w 0), .int (nI 100), .int (nI a), .int y] sg tu (some (.int (rgs false (-1) (gN (rowC sg 1)) (rowC sg 1) a))) (wrR sg 1 (itR false (-1) (gN (rowC sg 1)) a (rowC sg 1))) tu := by
  refine Kt.of2 RX4 rfl [(0, .ref (ad w 0)), (1, .int (nI 100)), (2, .int (nI a)), (3, .int y)] (by decide) rfl (Nat.le_of_ble_eq_true rfl) (fun z C E => ?_)
  refine g_iload_n C 1 rfl rfl dX4_perform_0 ?_
  refine g_tabIn C (off := 128) (tgt := 129) dX4_perform_1 (by decide) (by decide) (by decide) (by decide) ?_
  refine g_aload_n C 0 rfl rfl dX4_perform_129 ?_
  refine g_getR C (j := 0) cls4 e_0 rfl (by decide) fl_X4_10 dX4_perform_130 ?_
  refine g_iload_n C 2 rfl rfl dX4_perform_133 ?_
  refine g_iconst C (v := (-1)) (by decide) dX4_perform_134 ?_
  refine g_callV1 [] C (c_X3_turnOften_dn w tu sg a h.1 h.2 hok) mt_X3_turnOften e_1 rfl ml_X4_71 im_X3_turnOften se_X3_turnOften (by decide) rfl (Nat.le_of_ble_eq_true rfl) dX4_perform_135 ?_
  refine g_eq (sg' := (wrR sg 1 (itR false (-1) (gN (rowC sg 1)) a (rowC sg 1)))) (L' := [(0, .ref (ad w 0)), (1, .int (nI 100)), (2, .int (nI a)), (3, .int y)]) (S' := [.int (rgs false (-1) (gN (rowC sg 1)) (rowC sg 1) a)]) rfl rfl rfl rfl ?_
  exact g_iret C E dX4_perform_138 rfl Sq.rf rfl
set_option maxRecDepth 100000 in
set_option maxHeartbeats 400000 in
theorem c_X4_perform_d_no (w : GW) (tu : Int64) (sg : Sg) (a : Nat) (y : Int32) (ha9 : a < 1000000) (h : ¬ (1 ≤ a ∧ a ≤ 99)) : Kt w yX4_perform cX4_perform 4 (some .int) 5 [.ref (ad w 0), .int (nI 100), .int (nI a), .int y] sg tu (some (.int (-2))) sg tu := by
  refine Kt.of2 RX4 rfl [(0, .ref (ad w 0)), (1, .int (nI 100)), (2, .int (nI a)), (3, .int y)] (by decide) rfl (Nat.le_of_ble_eq_true rfl) (fun z C E => ?_)
  refine g_iload_n C 1 rfl rfl dX4_perform_0 ?_
  refine g_tabIn C (off := 128) (tgt := 129) dX4_perform_1 (by decide) (by decide) (by decide) (by decide) ?_
  refine g_aload_n C 0 rfl rfl dX4_perform_129 ?_
  refine g_getR C (j := 0) cls4 e_0 rfl (by decide) fl_X4_10 dX4_perform_130 ?_
  refine g_iload_n C 2 rfl rfl dX4_perform_133 ?_
  refine g_iconst C (v := (-1)) (by decide) dX4_perform_134 ?_
  refine g_callV1 [] C (c_X3_turnOften_dn_bad w tu sg (nI a) (fun q => h (in_le1 (n := 99) (by omega) (by omega) q))) mt_X3_turnOften e_1 rfl ml_X4_71 im_X3_turnOften se_X3_turnOften (by decide) rfl (Nat.le_of_ble_eq_true rfl) dX4_perform_135 ?_
  refine g_eq (L' := [(0, .ref (ad w 0)), (1, .int (nI 100)), (2, .int (nI a)), (3, .int y)]) (S' := [.int (-2)]) rfl rfl rfl rfl ?_
  exact g_iret C E dX4_perform_138 rfl Sq.rf rfl
set_option maxRecDepth 100000 in
set_option maxHeartbeats 400000 in
theorem c_X4_perform_c_ok (w : GW) (tu : Int64) (sg : Sg) (x : Int32) (y : Int32) : Kt w yX4_perform cX4_perform 4 (some .int) 5 [.ref (ad w 0), .int (nI 99), .int x, .int y] sg tu (some (.int (czX (sg 4) (fun k => nI (0 / 10 ^ k % 10)) 0 12))) (wrR sg 1 (clR (rowC sg 1))) tu := by
  refine Kt.of2 RX4 rfl [(0, .ref (ad w 0)), (1, .int (nI 99)), (2, .int x), (3, .int y)] (by decide) rfl (Nat.le_of_ble_eq_true rfl) (fun z C E => ?_)
  refine g_iload_n C 1 rfl rfl dX4_perform_0 ?_
  refine g_tabIn C (off := 138) (tgt := 139) dX4_perform_1 (by decide) (by decide) (by decide) (by decide) ?_
  refine g_aload_n C 0 rfl rfl dX4_perform_139 ?_
  refine g_getR C (j := 0) cls4 e_0 rfl (by decide) fl_X4_10 dX4_perform_140 ?_
  refine g_callV1 [] C (c_X3_clearAll w tu sg  ) mt_X3_clearAll e_1 rfl ml_X4_63 im_X3_clearAll se_X3_clearAll (by decide) rfl (Nat.le_of_ble_eq_true rfl) dX4_perform_143 ?_
  refine g_eq (sg' := (wrR sg 1 (clR (rowC sg 1)))) (L' := [(0, .ref (ad w 0)), (1, .int (nI 99)), (2, .int x), (3, .int y)]) (S' := [.int (czX (sg 4) (fun k => nI (0 / 10 ^ k % 10)) 0 12)]) rfl rfl rfl rfl ?_
  exact g_iret C E dX4_perform_146 rfl Sq.rf rfl
set_option maxRecDepth 100000 in
set_option maxHeartbeats 400000 in
theorem c_X4_perform_t_0 (w : GW) (tu : Int64) (sg : Sg) (a : Nat) (ha9 : a < 1000000) (hok : ROk (rowC sg 1)) (h : a ≤ 999999) : Kt w yX4_perform cX4_perform 4 (some .int) 5 [.ref (ad w 0), .int (nI 116), .int (nI a), .int (nI 0)] sg tu (some (.int (nI (smP 0 a 6)))) (wrR sg 1 (muR 0 a (gN (rowC sg 1)) 6 (clR (rowC sg 1)))) tu := by
  refine Kt.of2 RX4 rfl [(0, .ref (ad w 0)), (1, .int (nI 116)), (2, .int (nI a)), (3, .int (nI 0))] (by decide) rfl (Nat.le_of_ble_eq_true rfl) (fun z C E => ?_)
  refine g_iload_n C 1 rfl rfl dX4_perform_0 ?_
  refine g_tabIn C (off := 146) (tgt := 147) dX4_perform_1 (by decide) (by decide) (by decide) (by decide) ?_
  refine g_aload_n C 0 rfl rfl dX4_perform_147 ?_
  refine g_getR C (j := 0) cls4 e_0 rfl (by decide) fl_X4_10 dX4_perform_148 ?_
  refine g_iload_n C 2 rfl rfl dX4_perform_151 ?_
  refine g_iload_n C 3 rfl rfl dX4_perform_152 ?_
  refine g_callV1 [] C (c_X3_multiply_0 w tu sg a h hok) mt_X3_multiply e_1 rfl ml_X4_74 im_X3_multiply se_X3_multiply (by decide) rfl (Nat.le_of_ble_eq_true rfl) dX4_perform_153 ?_
  refine g_eq (sg' := (wrR sg 1 (muR 0 a (gN (rowC sg 1)) 6 (clR (rowC sg 1))))) (L' := [(0, .ref (ad w 0)), (1, .int (nI 116)), (2, .int (nI a)), (3, .int (nI 0))]) (S' := [.int (nI (smP 0 a 6))]) rfl rfl rfl rfl ?_
  exact g_iret C E dX4_perform_156 rfl Sq.rf rfl
set_option maxRecDepth 100000 in
set_option maxHeartbeats 400000 in
theorem c_X4_perform_t_1 (w : GW) (tu : Int64) (sg : Sg) (a : Nat) (ha9 : a < 1000000) (hok : ROk (rowC sg 1)) (h : a ≤ 999999) : Kt w yX4_perform cX4_perform 4 (some .int) 5 [.ref (ad w 0), .int (nI 116), .int (nI a), .int (nI 1)] sg tu (some (.int (nI (smP 1 a 7)))) (wrR sg 1 (muR 1 a (gN (rowC sg 1)) 7 (clR (rowC sg 1)))) tu := by
  refine Kt.of2 RX4 rfl [(0, .ref (ad w 0)), (1, .int (nI 116)), (2, .int (nI a)), (3, .int (nI 1))] (by decide) rfl (Nat.le_of_ble_eq_true rfl) (fun z C E => ?_)
  refine g_iload_n C 1 rfl rfl dX4_perform_0 ?_
  refine g_tabIn C (off := 146) (tgt := 147) dX4_perform_1 (by decide) (by decide) (by decide) (by decide) ?_
  refine g_aload_n C 0 rfl rfl dX4_perform_147 ?_
  refine g_getR C (j := 0) cls4 e_0 rfl (by decide) fl_X4_10 dX4_perform_148 ?_
  refine g_iload_n C 2 rfl rfl dX4_perform_151 ?_
  refine g_iload_n C 3 rfl rfl dX4_perform_152 ?_
  refine g_callV1 [] C (c_X3_multiply_1 w tu sg a h hok) mt_X3_multiply e_1 rfl ml_X4_74 im_X3_multiply se_X3_multiply (by decide) rfl (Nat.le_of_ble_eq_true rfl) dX4_perform_153 ?_
  refine g_eq (sg' := (wrR sg 1 (muR 1 a (gN (rowC sg 1)) 7 (clR (rowC sg 1))))) (L' := [(0, .ref (ad w 0)), (1, .int (nI 116)), (2, .int (nI a)), (3, .int (nI 1))]) (S' := [.int (nI (smP 1 a 7))]) rfl rfl rfl rfl ?_
  exact g_iret C E dX4_perform_156 rfl Sq.rf rfl
set_option maxRecDepth 100000 in
set_option maxHeartbeats 400000 in
theorem c_X4_perform_t_no (w : GW) (tu : Int64) (sg : Sg) (a : Nat) (b : Nat) (ha9 : a < 1000000) (hb9 : b < 1000000) (h : ¬ (a ≤ 999999 ∧ b ≤ 1)) : Kt w yX4_perform cX4_perform 4 (some .int) 5 [.ref (ad w 0), .int (nI 116), .int (nI a), .int (nI b)] sg tu (some (.int (-2))) sg tu := by
  refine Kt.of2 RX4 rfl [(0, .ref (ad w 0)), (1, .int (nI 116)), (2, .int (nI a)), (3, .int (nI b))] (by decide) rfl (Nat.le_of_ble_eq_true rfl) (fun z C E => ?_)
  refine g_iload_n C 1 rfl rfl dX4_perform_0 ?_
  refine g_tabIn C (off := 146) (tgt := 147) dX4_perform_1 (by decide) (by decide) (by decide) (by decide) ?_
  refine g_aload_n C 0 rfl rfl dX4_perform_147 ?_
  refine g_getR C (j := 0) cls4 e_0 rfl (by decide) fl_X4_10 dX4_perform_148 ?_
  refine g_iload_n C 2 rfl rfl dX4_perform_151 ?_
  refine g_iload_n C 3 rfl rfl dX4_perform_152 ?_
  refine g_callV1 [] C (c_X3_multiply_bad w tu sg (nI a) (nI b) (fun q => h ⟨in_le (n := 999999) (by omega) (by omega) q.1, in_le (n := 1) (by omega) (by omega) q.2⟩)) mt_X3_multiply e_1 rfl ml_X4_74 im_X3_multiply se_X3_multiply (by decide) rfl (Nat.le_of_ble_eq_true rfl) dX4_perform_153 ?_
  refine g_eq (L' := [(0, .ref (ad w 0)), (1, .int (nI 116)), (2, .int (nI a)), (3, .int (nI b))]) (S' := [.int (-2)]) rfl rfl rfl rfl ?_
  exact g_iret C E dX4_perform_156 rfl Sq.rf rfl
set_option maxRecDepth 100000 in
set_option maxHeartbeats 400000 in
theorem c_X4_perform_v_z (w : GW) (tu : Int64) (sg : Sg) (x : Int32) (y : Int32) (hok : ROk (rowC sg 1)) (hz : ngX (gN (rowC sg 1)) 6 0 = 0) : Kt w yX4_perform cX4_perform 4 (some .int) 5 [.ref (ad w 0), .int (nI 118), .int x, .int y] sg tu (some (.int (-3))) sg tu := by
  refine Kt.of2 RX4 rfl [(0, .ref (ad w 0)), (1, .int (nI 118)), (2, .int x), (3, .int y)] (by decide) rfl (Nat.le_of_ble_eq_true rfl) (fun z C E => ?_)
  refine g_iload_n C 1 rfl rfl dX4_perform_0 ?_
  refine g_tabIn C (off := 156) (tgt := 157) dX4_perform_1 (by decide) (by decide) (by decide) (by decide) ?_
  refine g_aload_n C 0 rfl rfl dX4_perform_157 ?_
  refine g_getR C (j := 0) cls4 e_0 rfl (by decide) fl_X4_10 dX4_perform_158 ?_
  refine g_callV1 [] C (c_X3_divide_z w tu sg  hok hz) mt_X3_divide e_1 rfl ml_X4_77 im_X3_divide se_X3_divide (by decide) rfl (Nat.le_of_ble_eq_true rfl) dX4_perform_161 ?_
  refine g_eq (L' := [(0, .ref (ad w 0)), (1, .int (nI 118)), (2, .int x), (3, .int y)]) (S' := [.int (-3)]) rfl rfl rfl rfl ?_
  exact g_iret C E dX4_perform_164 rfl Sq.rf rfl
set_option maxRecDepth 100000 in
set_option maxHeartbeats 400000 in
theorem c_X4_perform_v_ok (w : GW) (tu : Int64) (sg : Sg) (x : Int32) (y : Int32) (hok : ROk (rowC sg 1)) (hz : ¬ ngX (gN (rowC sg 1)) 6 0 = 0) (hb : dvB (gN (rowC sg 1)) 7 (ccR (rowC sg 1)) = true) : Kt w yX4_perform cX4_perform 4 (some .int) 5 [.ref (ad w 0), .int (nI 118), .int x, .int y] sg tu (some (.int (nI (dvC (gN (rowC sg 1)) 7 (ccR (rowC sg 1)))))) (wrR sg 1 (dvF (gN (rowC sg 1)) 7 (ccR (rowC sg 1)))) tu := by
  refine Kt.of2 RX4 rfl [(0, .ref (ad w 0)), (1, .int (nI 118)), (2, .int x), (3, .int y)] (by decide) rfl (Nat.le_of_ble_eq_true rfl) (fun z C E => ?_)
  refine g_iload_n C 1 rfl rfl dX4_perform_0 ?_
  refine g_tabIn C (off := 156) (tgt := 157) dX4_perform_1 (by decide) (by decide) (by decide) (by decide) ?_
  refine g_aload_n C 0 rfl rfl dX4_perform_157 ?_
  refine g_getR C (j := 0) cls4 e_0 rfl (by decide) fl_X4_10 dX4_perform_158 ?_
  refine g_callV1 [] C (c_X3_divide_ok w tu sg  hok hz hb) mt_X3_divide e_1 rfl ml_X4_77 im_X3_divide se_X3_divide (by decide) rfl (Nat.le_of_ble_eq_true rfl) dX4_perform_161 ?_
  refine g_eq (sg' := (wrR sg 1 (dvF (gN (rowC sg 1)) 7 (ccR (rowC sg 1))))) (L' := [(0, .ref (ad w 0)), (1, .int (nI 118)), (2, .int x), (3, .int y)]) (S' := [.int (nI (dvC (gN (rowC sg 1)) 7 (ccR (rowC sg 1))))]) rfl rfl rfl rfl ?_
  exact g_iret C E dX4_perform_164 rfl Sq.rf rfl
set_option maxRecDepth 100000 in
set_option maxHeartbeats 400000 in
theorem c_X4_perform_v_no (w : GW) (tu : Int64) (sg : Sg) (x : Int32) (y : Int32) (hok : ROk (rowC sg 1)) (hz : ¬ ngX (gN (rowC sg 1)) 6 0 = 0) (hb : dvB (gN (rowC sg 1)) 7 (ccR (rowC sg 1)) = false) : Kt w yX4_perform cX4_perform 4 (some .int) 5 [.ref (ad w 0), .int (nI 118), .int x, .int y] sg tu (some (.int (-3))) (wrR sg 1 (dvF (gN (rowC sg 1)) 7 (ccR (rowC sg 1)))) tu := by
  refine Kt.of2 RX4 rfl [(0, .ref (ad w 0)), (1, .int (nI 118)), (2, .int x), (3, .int y)] (by decide) rfl (Nat.le_of_ble_eq_true rfl) (fun z C E => ?_)
  refine g_iload_n C 1 rfl rfl dX4_perform_0 ?_
  refine g_tabIn C (off := 156) (tgt := 157) dX4_perform_1 (by decide) (by decide) (by decide) (by decide) ?_
  refine g_aload_n C 0 rfl rfl dX4_perform_157 ?_
  refine g_getR C (j := 0) cls4 e_0 rfl (by decide) fl_X4_10 dX4_perform_158 ?_
  refine g_callV1 [] C (c_X3_divide_no w tu sg  hok hz hb) mt_X3_divide e_1 rfl ml_X4_77 im_X3_divide se_X3_divide (by decide) rfl (Nat.le_of_ble_eq_true rfl) dX4_perform_161 ?_
  refine g_eq (sg' := (wrR sg 1 (dvF (gN (rowC sg 1)) 7 (ccR (rowC sg 1))))) (L' := [(0, .ref (ad w 0)), (1, .int (nI 118)), (2, .int x), (3, .int y)]) (S' := [.int (-3)]) rfl rfl rfl rfl ?_
  exact g_iret C E dX4_perform_164 rfl Sq.rf rfl
set_option maxRecDepth 100000 in
set_option maxHeartbeats 400000 in
theorem c_X4_perform_w_ok (w : GW) (tu : Int64) (sg : Sg) (a : Nat) (b : Nat) (ha9 : a < 1000000) (hb9 : b < 1000000) (h : a < 6 ∧ 1 ≤ b ∧ b ≤ 9) : Kt w yX4_perform cX4_perform 4 (some .int) 5 [.ref (ad w 0), .int (nI 119), .int (nI a), .int (nI b)] sg tu (some (.int (bcX ((sg 3 a) ^^^ (nI 1 <<< ((nI b) &&& 31)))))) (wrR sg 1 (upd (rowC sg 1) (6 + a) ((sg 3 a) ^^^ (nI 1 <<< ((nI b) &&& 31))))) tu := by
  refine Kt.of2 RX4 rfl [(0, .ref (ad w 0)), (1, .int (nI 119)), (2, .int (nI a)), (3, .int (nI b))] (by decide) rfl (Nat.le_of_ble_eq_true rfl) (fun z C E => ?_)
  refine g_iload_n C 1 rfl rfl dX4_perform_0 ?_
  refine g_tabIn C (off := 164) (tgt := 165) dX4_perform_1 (by decide) (by decide) (by decide) (by decide) ?_
  refine g_aload_n C 0 rfl rfl dX4_perform_165 ?_
  refine g_getR C (j := 0) cls4 e_0 rfl (by decide) fl_X4_10 dX4_perform_166 ?_
  refine g_iload_n C 2 rfl rfl dX4_perform_169 ?_
  refine g_iload_n C 3 rfl rfl dX4_perform_170 ?_
  refine g_callV1 [] C (c_X3_wearTooth_ok w tu sg a b h.1 h.2.1 h.2.2) mt_X3_wearTooth e_1 rfl ml_X4_60 im_X3_wearTooth se_X3_wearTooth (by decide) rfl (Nat.le_of_ble_eq_true rfl) dX4_perform_171 ?_
  refine g_eq (sg' := (wrR sg 1 (upd (rowC sg 1) (6 + a) ((sg 3 a) ^^^ (nI 1 <<< ((nI b) &&& 31)))))) (L' := [(0, .ref (ad w 0)), (1, .int (nI 119)), (2, .int (nI a)), (3, .int (nI b))]) (S' := [.int (bcX ((sg 3 a) ^^^ (nI 1 <<< ((nI b) &&& 31))))]) rfl rfl rfl rfl ?_
  exact g_iret C E dX4_perform_174 rfl Sq.rf rfl
set_option maxRecDepth 100000 in
set_option maxHeartbeats 400000 in
theorem c_X4_perform_w_no (w : GW) (tu : Int64) (sg : Sg) (a : Nat) (b : Nat) (ha9 : a < 1000000) (hb9 : b < 1000000) (h : ¬ (a < 6 ∧ 1 ≤ b ∧ b ≤ 9)) : Kt w yX4_perform cX4_perform 4 (some .int) 5 [.ref (ad w 0), .int (nI 119), .int (nI a), .int (nI b)] sg tu (some (.int (-2))) sg tu := by
  refine Kt.of2 RX4 rfl [(0, .ref (ad w 0)), (1, .int (nI 119)), (2, .int (nI a)), (3, .int (nI b))] (by decide) rfl (Nat.le_of_ble_eq_true rfl) (fun z C E => ?_)
  refine g_iload_n C 1 rfl rfl dX4_perform_0 ?_
  refine g_tabIn C (off := 164) (tgt := 165) dX4_perform_1 (by decide) (by decide) (by decide) (by decide) ?_
  refine g_aload_n C 0 rfl rfl dX4_perform_165 ?_
  refine g_getR C (j := 0) cls4 e_0 rfl (by decide) fl_X4_10 dX4_perform_166 ?_
  refine g_iload_n C 2 rfl rfl dX4_perform_169 ?_
  refine g_iload_n C 3 rfl rfl dX4_perform_170 ?_
  refine g_callV1 [] C (c_X3_wearTooth_bad w tu sg (nI a) (nI b) (fun q => h ⟨by have := in_le (n := 5) (by omega) (by omega) q.1; omega, in_le1 (n := 9) (by omega) (by omega) q.2⟩)) mt_X3_wearTooth e_1 rfl ml_X4_60 im_X3_wearTooth se_X3_wearTooth (by decide) rfl (Nat.le_of_ble_eq_true rfl) dX4_perform_171 ?_
  refine g_eq (L' := [(0, .ref (ad w 0)), (1, .int (nI 119)), (2, .int (nI a)), (3, .int (nI b))]) (S' := [.int (-2)]) rfl rfl rfl rfl ?_
  exact g_iret C E dX4_perform_174 rfl Sq.rf rfl
set_option maxRecDepth 100000 in
set_option maxHeartbeats 1000000 in
theorem c_X4_perform (w : GW) (tu : Int64) (sg : Sg) (l a b : Nat) (x y : Int32) (hl0 : ¬ mnI l = (-1)) (hx : ¬ mnI l = nI 0 → x = nI a) (hy : mnI l = nI 2 → y = nI b) (ha9 : a < 1000000) (hb9 : b < 1000000) (hok : ROk (rowC sg 1)) : KtP w yX4_perform cX4_perform 4 (some .int) 5 [.ref (ad w 0), .int (nI l), .int x, .int y] sg tu (dcP sg tu l a b) := by
  have hls : l = 105 ∨ l = 115 ∨ l = 117 ∨ l = 100 ∨ l = 99 ∨ l = 116 ∨ l = 118 ∨ l = 119 ∨ l = 114 := by
    apply Classical.byContradiction
    intro q
    apply hl0
    unfold mnI
    rw [if_neg (by omega), if_neg (by omega), if_neg (by omega)]
  rcases hls with rfl | rfl | rfl | rfl | rfl | rfl | rfl | rfl | rfl
  · skip
    have ex := hx (by decide); subst ex
    have ey := hy (by decide); subst ey
    by_cases h : a < 6 ∧ b ≤ 9
    · skip
      exact (c_X4_perform_i_ok w tu sg a b ha9 hb9 h).toP ⟨rfl, (fun k hk => wrR_n (by omega)), Or.inl ⟨_, _, by unfold opR; rw [if_pos rfl, if_pos h], rowC_wr, rfl, nm_dd hok h.1⟩⟩
    · skip
      exact (c_X4_perform_i_no w tu sg a b ha9 hb9 h).toP ⟨rfl, (fun k hk => rfl), Or.inr ⟨by unfold opR; rw [if_pos rfl, if_neg h], _, rfl, by decide⟩⟩
  · skip
    have ex := hx (by decide); subst ex
    by_cases h : a ≤ 6
    · skip
      exact (c_X4_perform_s_ok w tu sg a y ha9 h).toP ⟨rfl, (fun k hk => wrR_n (by omega)), Or.inl ⟨_, _, by unfold opR; rw [if_neg (by decide), if_pos rfl, if_pos h], rowC_wr, rfl, nm_sh hok⟩⟩
    · skip
      exact (c_X4_perform_s_no w tu sg a y ha9 h).toP ⟨rfl, (fun k hk => rfl), Or.inr ⟨by unfold opR; rw [if_neg (by decide), if_pos rfl, if_neg h], _, rfl, by decide⟩⟩
  · skip
    have ex := hx (by decide); subst ex
    by_cases h : 1 ≤ a ∧ a ≤ 99
    · skip
      exact (c_X4_perform_u_ok w tu sg a y ha9 hok h).toP ⟨rfl, (fun k hk => wrR_n (by omega)), Or.inl ⟨_, _, by unfold opR; rw [if_neg (by decide), if_neg (by decide), if_pos rfl, if_pos h], rowC_wr, rfl, nn_rg h.2⟩⟩
    · skip
      exact (c_X4_perform_u_no w tu sg a y ha9 h).toP ⟨rfl, (fun k hk => rfl), Or.inr ⟨by unfold opR; rw [if_neg (by decide), if_neg (by decide), if_pos rfl, if_neg h], _, rfl, by decide⟩⟩
  · skip
    have ex := hx (by decide); subst ex
    by_cases h : 1 ≤ a ∧ a ≤ 99
    · skip
      exact (c_X4_perform_d_ok w tu sg a y ha9 hok h).toP ⟨rfl, (fun k hk => wrR_n (by omega)), Or.inl ⟨_, _, by unfold opR; rw [if_neg (by decide), if_neg (by decide), if_neg (by decide), if_pos rfl, if_pos h], rowC_wr, rfl, nn_rg h.2⟩⟩
    · skip
      exact (c_X4_perform_d_no w tu sg a y ha9 h).toP ⟨rfl, (fun k hk => rfl), Or.inr ⟨by unfold opR; rw [if_neg (by decide), if_neg (by decide), if_neg (by decide), if_pos rfl, if_neg h], _, rfl, by decide⟩⟩
  · skip
    exact (c_X4_perform_c_ok w tu sg x y ).toP ⟨rfl, (fun k hk => wrR_n (by omega)), Or.inl ⟨_, _, by unfold opR; rw [if_neg (by decide), if_neg (by decide), if_neg (by decide), if_neg (by decide), if_pos rfl], rowC_wr, rfl, nn_cz⟩⟩
  · skip
    have ex := hx (by decide); subst ex
    have ey := hy (by decide); subst ey
    by_cases h : a ≤ 999999 ∧ b ≤ 1
    · rcases (show b = 0 ∨ b = 1 by omega) with rfl | rfl
      · skip
        exact (c_X4_perform_t_0 w tu sg a ha9 hok h.1).toP ⟨rfl, (fun k hk => wrR_n (by omega)), Or.inl ⟨_, _, by unfold opR; rw [if_neg (by decide), if_neg (by decide), if_neg (by decide), if_neg (by decide), if_neg (by decide), if_pos rfl, if_pos ⟨h.1, rfl⟩], rowC_wr, rfl, nI_pos' (by have := smP_le (how := 0) (n := a) 6; omega)⟩⟩
      · skip
        exact (c_X4_perform_t_1 w tu sg a ha9 hok h.1).toP ⟨rfl, (fun k hk => wrR_n (by omega)), Or.inl ⟨_, _, by unfold opR; rw [if_neg (by decide), if_neg (by decide), if_neg (by decide), if_neg (by decide), if_neg (by decide), if_pos rfl, if_neg (by omega), if_pos ⟨h.1, rfl⟩], rowC_wr, rfl, nI_pos' (by have := smP_le (how := 1) (n := a) 7; omega)⟩⟩
    · skip
      exact (c_X4_perform_t_no w tu sg a b ha9 hb9 h).toP ⟨rfl, (fun k hk => rfl), Or.inr ⟨by unfold opR; rw [if_neg (by decide), if_neg (by decide), if_neg (by decide), if_neg (by decide), if_neg (by decide), if_pos rfl, if_neg (by omega), if_neg (by omega)], _, rfl, by decide⟩⟩
  · by_cases hz : gsm (gN (rowC sg 1)) 6 = 0
    · skip
      exact (c_X4_perform_v_z w tu sg x y hok (ng_gs.mpr hz)).toP ⟨rfl, (fun k hk => rfl), Or.inr ⟨by unfold opR; rw [if_neg (by decide), if_neg (by decide), if_neg (by decide), if_neg (by decide), if_neg (by decide), if_neg (by decide), if_pos rfl, if_pos hz], _, rfl, by decide⟩⟩
    · cases hb : dvB (gN (rowC sg 1)) 7 (ccR (rowC sg 1)) with
      | true =>
        exact (c_X4_perform_v_ok w tu sg x y hok (fun q => hz (ng_gs.mp q)) hb).toP ⟨rfl, (fun k hk => wrR_n (by omega)), Or.inl ⟨_, _, by unfold opR; rw [if_neg (by decide), if_neg (by decide), if_neg (by decide), if_neg (by decide), if_neg (by decide), if_neg (by decide), if_pos rfl, if_neg hz, if_pos hb], rowC_wr, rfl, nI_pos' (by have := dvC_le (g := gN (rowC sg 1)) 7 (ccR (rowC sg 1)); omega)⟩⟩
      | false =>
        exact (c_X4_perform_v_no w tu sg x y hok (fun q => hz (ng_gs.mp q)) hb).toP ⟨rfl, (fun k hk => wrR_n (by omega)), Or.inr ⟨by unfold opR; rw [if_neg (by decide), if_neg (by decide), if_neg (by decide), if_neg (by decide), if_neg (by decide), if_neg (by decide), if_pos rfl, if_neg hz, if_neg (by rw [hb]; decide)], _, rfl, by decide⟩⟩
  · skip
    have ex := hx (by decide); subst ex
    have ey := hy (by decide); subst ey
    by_cases h : a < 6 ∧ 1 ≤ b ∧ b ≤ 9
    · skip
      exact (c_X4_perform_w_ok w tu sg a b ha9 hb9 h).toP ⟨rfl, (fun k hk => wrR_n (by omega)), Or.inl ⟨_, _, by unfold opR; rw [if_neg (by decide), if_neg (by decide), if_neg (by decide), if_neg (by decide), if_neg (by decide), if_neg (by decide), if_neg (by decide), if_pos rfl, if_pos h]; rw [show rowC sg 1 (6 + a) = sg 3 a from rowC_o (sg := sg) (w := 1) h.1], rowC_wr, rfl, nm_we hok h.1 h.2.1 h.2.2⟩⟩
    · skip
      exact (c_X4_perform_w_no w tu sg a b ha9 hb9 h).toP ⟨rfl, (fun k hk => rfl), Or.inr ⟨by unfold opR; rw [if_neg (by decide), if_neg (by decide), if_neg (by decide), if_neg (by decide), if_neg (by decide), if_neg (by decide), if_neg (by decide), if_pos rfl, if_neg h], _, rfl, by decide⟩⟩
  · skip
    have ex := hx (by decide); subst ex
    by_cases h : a ≤ 12
    · skip
      exact (c_X4_perform_r_ok w tu sg a y ha9 h).toP ⟨rfl, (fun k hk => wrR_n (by omega)), Or.inl ⟨_, _, by unfold opR; rw [if_neg (by decide), if_neg (by decide), if_neg (by decide), if_neg (by decide), if_neg (by decide), if_neg (by decide), if_neg (by decide), if_neg (by decide), if_pos h], rowC_wr, rfl, nm_re hok⟩⟩
    · skip
      exact (c_X4_perform_r_no w tu sg a y ha9 h).toP ⟨rfl, (fun k hk => rfl), Or.inr ⟨by unfold opR; rw [if_neg (by decide), if_neg (by decide), if_neg (by decide), if_neg (by decide), if_neg (by decide), if_neg (by decide), if_neg (by decide), if_neg (by decide), if_neg h], _, rfl, by decide⟩⟩
