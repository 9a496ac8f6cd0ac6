/-- an order done on the row, or refused -/
def opR (l a b : Nat) (f : Nat → Int32) : Option (Nat → Int32) :=
  if l = 105 then (if a < 6 ∧ b ≤ 9 then some (upd f a (nI b)) else none)
  else if l = 115 then (if a ≤ 6 then some (upd f 31 (nI a)) else none)
  else if l = 117 then (if 1 ≤ a ∧ a ≤ 99 then some (itR true (nI 1) (gN f) a f) else none)
  else if l = 100 then (if 1 ≤ a ∧ a ≤ 99 then some (itR false (-1) (gN f) a f) else none)
  else if l = 99 then some (clR f)
  else if l = 116 then (if a ≤ 999999 ∧ b = 0 then some (muR 0 a (gN f) 6 (clR f)) else if a ≤ 999999 ∧ b = 1 then some (muR 1 a (gN f) 7 (clR f)) else none)
  else if l = 118 then (if gsm (gN f) 6 = 0 then none else if dvB (gN f) 7 (ccR f) = true then some (dvF (gN f) 7 (ccR f)) else none)
  else if l = 119 then (if a < 6 ∧ 1 ≤ b ∧ b ≤ 9 then some (upd f (6 + a) (f (6 + a) ^^^ (nI 1 <<< (nI b &&& 31)))) else none)
  else (if a ≤ 12 then some (upd f 32 (nI a)) else none)
/-- the scratch cells of the reference may be others -/
def scF (sg s : Sg) : Prop := ∀ k, k ≠ 45 → k ≠ 50 → k ≠ 51 → k ≠ 52 → s k = sg k
theorem scF.rf {sg : Sg} : scF sg sg := fun _ _ _ _ _ => rfl
def doP (sg : Sg) (tu : Int64) (l a b : Nat) (r : Option Value) (s2 : Sg) (t2 : Int64) : Prop := tu = t2 ∧ scF sg s2 ∧ ((∃ f v, opR l a b (sg 45) = some f ∧ s2 45 = f ∧ r = some (.int v) ∧ (-2 : Int32) < v) ∨ (opR l a b (sg 45) = none ∧ ∃ v, r = some (.int v) ∧ ¬ (-2 : Int32) < v))
theorem in_no {x n : Nat} (hx : x < 2 ^ 31) (hn : n < 2 ^ 31) (h : ¬ x ≤ n) : ¬ ((0 : Int64) ≤ Int32.toInt64 (nI x) ∧ Int32.toInt64 (nI x) ≤ lN n) := fun q => by
  rw [nI_l hx] at q
  exact h ((pk_lLE (by omega) (by omega)).mp q.2)
theorem in_no1 {x n : Nat} (hx : x < 2 ^ 31) (hn : n < 2 ^ 31) (h : ¬ (1 ≤ x ∧ x ≤ n)) : ¬ ((1 : Int64) ≤ Int32.toInt64 (nI x) ∧ Int32.toInt64 (nI x) ≤ lN n) := fun q => by
  rw [nI_l hx] at q
  exact h ⟨(pk_lLE (a := 1) (by omega) (by omega)).mp q.1, (pk_lLE (by omega) (by omega)).mp q.2⟩
set_option maxRecDepth 100000 in
set_option maxHeartbeats 400000 in
theorem c_X5_doneOne_i_ok (w : GW) (tu : Int64) (sg : Sg) (k : Nat) (a b : Nat) (hk : k < 60) (hl : sg 53 k = nI 105) (ha : sg 54 (2 * k) = nI a) (ha9 : a < 1000000) (hbb : sg 54 (2 * k + 1) = nI b) (hb9 : b < 1000000) (hok : ROk (sg 45)) (h : a < 6 ∧ b ≤ 9) : Kt w yX5_doneOne cX5_doneOne 4 (some .int) 5 [.ref (ad w 44), .int (nI k)] sg tu (some (.int (sg 45 a))) (us sg 45 (upd (sg 45) a (nI b))) tu := by
  refine Kt.of2 RX5 rfl [(0, .ref (ad w 44)), (1, .int (nI k))] (by decide) rfl (Nat.le_of_ble_eq_true rfl) (fun z C E => ?_)
  refine g_aload_n C 0 rfl rfl dX5_doneOne_0 ?_
  refine g_getR C (j := 11) cls5 e_44 rfl (by decide) fl_X5_37 dX5_doneOne_1 ?_
  refine g_iconst C (v := (nI 2)) (by decide) dX5_doneOne_4 ?_
  refine g_iload_n C 1 rfl rfl dX5_doneOne_5 ?_
  refine g_imul C dX5_doneOne_6 ?_
  refine g_top (y := (nI (2 * k))) (pk_mul 2 k) ?_
  refine g_ialdN C (2 * k) e_54 (by omega) (by decide) dX5_doneOne_7 ?_
  refine g_top (y := (nI a)) ha ?_
  refine g_istore_n C (L' := [(2, .int (nI a)), (0, .ref (ad w 44)), (1, .int (nI k))]) rfl (by decide) rfl dX5_doneOne_8 ?_
  refine g_aload_n C 1 rfl rfl dX5_doneOne_9 ?_
  refine g_getR C (j := 11) cls5 e_44 rfl (by decide) fl_X5_37 dX5_doneOne_10 ?_
  refine g_iconst C (v := (nI 2)) (by decide) dX5_doneOne_13 ?_
  refine g_iload_n C 2 rfl rfl dX5_doneOne_14 ?_
  refine g_imul C dX5_doneOne_15 ?_
  refine g_top (y := (nI (2 * k))) (pk_mul 2 k) ?_
  refine g_iconst C (v := (nI 1)) (by decide) dX5_doneOne_16 ?_
  refine g_iadd C dX5_doneOne_17 ?_
  refine g_top (y := (nI ((2 * k) + 1))) (nI_add (2 * k) 1) ?_
  refine g_ialdN C ((2 * k) + 1) e_54 (by omega) (by decide) dX5_doneOne_18 ?_
  refine g_top (y := (nI b)) hbb ?_
  refine g_istore_n C (L' := [(3, .int (nI b)), (2, .int (nI a)), (0, .ref (ad w 44)), (1, .int (nI k))]) rfl (by decide) rfl dX5_doneOne_19 ?_
  refine g_aload_n C 2 rfl rfl dX5_doneOne_20 ?_
  refine g_getR C (j := 10) cls5 e_44 rfl (by decide) fl_X5_34 dX5_doneOne_21 ?_
  refine g_iload_n C 3 rfl rfl dX5_doneOne_24 ?_
  refine g_ialdN C k e_53 (by omega) (by decide) dX5_doneOne_25 ?_
  refine g_top (y := (nI 105)) hl ?_
  refine g_tabIn C (off := 98) (tgt := 124) dX5_doneOne_26 (by decide) (by decide) (by decide) (by decide) ?_
  refine g_aload_n C 2 rfl rfl dX5_doneOne_124 ?_
  refine g_iload_n C 1 rfl rfl dX5_doneOne_125 ?_
  refine g_iload_n C 0 rfl rfl dX5_doneOne_126 ?_
  refine g_callV1 [] C (c_X5_putDigit_ok w tu sg a b h.1 h.2) mt_X5_putDigit e_44 rfl ml_X5_117 im_X5_putDigit se_X5_putDigit (by decide) rfl (Nat.le_of_ble_eq_true rfl) dX5_doneOne_127 ?_
  refine g_eq (sg' := (us sg 45 (upd (sg 45) a (nI b)))) (L' := [(3, .int (nI b)), (2, .int (nI a)), (0, .ref (ad w 44)), (1, .int (nI k))]) (S' := [.int (sg 45 a)]) rfl rfl rfl rfl ?_
  exact g_iret C E dX5_doneOne_130 rfl Sq.rf rfl
set_option maxRecDepth 100000 in
set_option maxHeartbeats 400000 in
theorem c_X5_doneOne_i_no (w : GW) (tu : Int64) (sg : Sg) (k : Nat) (a b : Nat) (hk : k < 60) (hl : sg 53 k = nI 105) (ha : sg 54 (2 * k) = nI a) (ha9 : a < 1000000) (hbb : sg 54 (2 * k + 1) = nI b) (hb9 : b < 1000000) (hok : ROk (sg 45)) (h : ¬ (a < 6 ∧ b ≤ 9)) : Kt w yX5_doneOne cX5_doneOne 4 (some .int) 5 [.ref (ad w 44), .int (nI k)] sg tu (some (.int (-2))) sg tu := by
  refine Kt.of2 RX5 rfl [(0, .ref (ad w 44)), (1, .int (nI k))] (by decide) rfl (Nat.le_of_ble_eq_true rfl) (fun z C E => ?_)
  refine g_aload_n C 0 rfl rfl dX5_doneOne_0 ?_
  refine g_getR C (j := 11) cls5 e_44 rfl (by decide) fl_X5_37 dX5_doneOne_1 ?_
  refine g_iconst C (v := (nI 2)) (by decide) dX5_doneOne_4 ?_
  refine g_iload_n C 1 rfl rfl dX5_doneOne_5 ?_
  refine g_imul C dX5_doneOne_6 ?_
  refine g_top (y := (nI (2 * k))) (pk_mul 2 k) ?_
  refine g_ialdN C (2 * k) e_54 (by omega) (by decide) dX5_doneOne_7 ?_
  refine g_top (y := (nI a)) ha ?_
  refine g_istore_n C (L' := [(2, .int (nI a)), (0, .ref (ad w 44)), (1, .int (nI k))]) rfl (by decide) rfl dX5_doneOne_8 ?_
  refine g_aload_n C 1 rfl rfl dX5_doneOne_9 ?_
  refine g_getR C (j := 11) cls5 e_44 rfl (by decide) fl_X5_37 dX5_doneOne_10 ?_
  refine g_iconst C (v := (nI 2)) (by decide) dX5_doneOne_13 ?_
  refine g_iload_n C 2 rfl rfl dX5_doneOne_14 ?_
  refine g_imul C dX5_doneOne_15 ?_
  refine g_top (y := (nI (2 * k))) (pk_mul 2 k) ?_
  refine g_iconst C (v := (nI 1)) (by decide) dX5_doneOne_16 ?_
  refine g_iadd C dX5_doneOne_17 ?_
  refine g_top (y := (nI ((2 * k) + 1))) (nI_add (2 * k) 1) ?_
  refine g_ialdN C ((2 * k) + 1) e_54 (by omega) (by decide) dX5_doneOne_18 ?_
  refine g_top (y := (nI b)) hbb ?_
  refine g_istore_n C (L' := [(3, .int (nI b)), (2, .int (nI a)), (0, .ref (ad w 44)), (1, .int (nI k))]) rfl (by decide) rfl dX5_doneOne_19 ?_
  refine g_aload_n C 2 rfl rfl dX5_doneOne_20 ?_
  refine g_getR C (j := 10) cls5 e_44 rfl (by decide) fl_X5_34 dX5_doneOne_21 ?_
  refine g_iload_n C 3 rfl rfl dX5_doneOne_24 ?_
  refine g_ialdN C k e_53 (by omega) (by decide) dX5_doneOne_25 ?_
  refine g_top (y := (nI 105)) hl ?_
  refine g_tabIn C (off := 98) (tgt := 124) dX5_doneOne_26 (by decide) (by decide) (by decide) (by decide) ?_
  refine g_aload_n C 2 rfl rfl dX5_doneOne_124 ?_
  refine g_iload_n C 1 rfl rfl dX5_doneOne_125 ?_
  refine g_iload_n C 0 rfl rfl dX5_doneOne_126 ?_
  refine g_callV1 [] C (c_X5_putDigit_bad w tu sg (nI a) (nI b) (fun q => h ⟨by have := Classical.byContradiction (fun z => in_no (x := a) (n := 5) (by omega) (by decide) z q.1); omega, Classical.byContradiction (fun z => in_no (x := b) (n := 9) (by omega) (by decide) z q.2)⟩)) mt_X5_putDigit e_44 rfl ml_X5_117 im_X5_putDigit se_X5_putDigit (by decide) rfl (Nat.le_of_ble_eq_true rfl) dX5_doneOne_127 ?_
  refine g_eq (L' := [(3, .int (nI b)), (2, .int (nI a)), (0, .ref (ad w 44)), (1, .int (nI k))]) (S' := [.int (-2)]) rfl rfl rfl rfl ?_
  exact g_iret C E dX5_doneOne_130 rfl Sq.rf rfl
set_option maxRecDepth 100000 in
set_option maxHeartbeats 400000 in
theorem c_X5_doneOne_s_ok (w : GW) (tu : Int64) (sg : Sg) (k : Nat) (a b : Nat) (hk : k < 60) (hl : sg 53 k = nI 115) (ha : sg 54 (2 * k) = nI a) (ha9 : a < 1000000) (hok : ROk (sg 45)) (h : a ≤ 6) : Kt w yX5_doneOne cX5_doneOne 4 (some .int) 5 [.ref (ad w 44), .int (nI k)] sg tu (some (.int (sg 45 31))) (us sg 45 (upd (sg 45) 31 (nI a))) tu := by
  refine Kt.of2 RX5 rfl [(0, .ref (ad w 44)), (1, .int (nI k))] (by decide) rfl (Nat.le_of_ble_eq_true rfl) (fun z C E => ?_)
  refine g_aload_n C 0 rfl rfl dX5_doneOne_0 ?_
  refine g_getR C (j := 11) cls5 e_44 rfl (by decide) fl_X5_37 dX5_doneOne_1 ?_
  refine g_iconst C (v := (nI 2)) (by decide) dX5_doneOne_4 ?_
  refine g_iload_n C 1 rfl rfl dX5_doneOne_5 ?_
  refine g_imul C dX5_doneOne_6 ?_
  refine g_top (y := (nI (2 * k))) (pk_mul 2 k) ?_
  refine g_ialdN C (2 * k) e_54 (by omega) (by decide) dX5_doneOne_7 ?_
  refine g_top (y := (nI a)) ha ?_
  refine g_istore_n C (L' := [(2, .int (nI a)), (0, .ref (ad w 44)), (1, .int (nI k))]) rfl (by decide) rfl dX5_doneOne_8 ?_
  refine g_aload_n C 1 rfl rfl dX5_doneOne_9 ?_
  refine g_getR C (j := 11) cls5 e_44 rfl (by decide) fl_X5_37 dX5_doneOne_10 ?_
  refine g_iconst C (v := (nI 2)) (by decide) dX5_doneOne_13 ?_
  refine g_iload_n C 2 rfl rfl dX5_doneOne_14 ?_
  refine g_imul C dX5_doneOne_15 ?_
  refine g_top (y := (nI (2 * k))) (pk_mul 2 k) ?_
  refine g_iconst C (v := (nI 1)) (by decide) dX5_doneOne_16 ?_
  refine g_iadd C dX5_doneOne_17 ?_
  refine g_top (y := (nI ((2 * k) + 1))) (nI_add (2 * k) 1) ?_
  refine g_ialdN C ((2 * k) + 1) e_54 (by omega) (by decide) dX5_doneOne_18 ?_
  refine g_istore_n C (L' := [(3, .int (sg 54 ((2 * k) + 1))), (2, .int (nI a)), (0, .ref (ad w 44)), (1, .int (nI k))]) rfl (by decide) rfl dX5_doneOne_19 ?_
  refine g_aload_n C 2 rfl rfl dX5_doneOne_20 ?_
  refine g_getR C (j := 10) cls5 e_44 rfl (by decide) fl_X5_34 dX5_doneOne_21 ?_
  refine g_iload_n C 3 rfl rfl dX5_doneOne_24 ?_
  refine g_ialdN C k e_53 (by omega) (by decide) dX5_doneOne_25 ?_
  refine g_top (y := (nI 115)) hl ?_
  refine g_tabIn C (off := 105) (tgt := 131) dX5_doneOne_26 (by decide) (by decide) (by decide) (by decide) ?_
  refine g_aload_n C 2 rfl rfl dX5_doneOne_131 ?_
  refine g_iload_n C 1 rfl rfl dX5_doneOne_132 ?_
  refine g_callV1 [] C (c_X5_putShift_ok w tu sg a h) mt_X5_putShift e_44 rfl ml_X5_126 im_X5_putShift se_X5_putShift (by decide) rfl (Nat.le_of_ble_eq_true rfl) dX5_doneOne_133 ?_
  refine g_eq (sg' := (us sg 45 (upd (sg 45) 31 (nI a)))) (L' := [(3, .int (sg 54 ((2 * k) + 1))), (2, .int (nI a)), (0, .ref (ad w 44)), (1, .int (nI k))]) (S' := [.int (sg 45 31)]) rfl rfl rfl rfl ?_
  exact g_iret C E dX5_doneOne_136 rfl Sq.rf rfl
set_option maxRecDepth 100000 in
set_option maxHeartbeats 400000 in
theorem c_X5_doneOne_s_no (w : GW) (tu : Int64) (sg : Sg) (k : Nat) (a b : Nat) (hk : k < 60) (hl : sg 53 k = nI 115) (ha : sg 54 (2 * k) = nI a) (ha9 : a < 1000000) (hok : ROk (sg 45)) (h : ¬ a ≤ 6) : Kt w yX5_doneOne cX5_doneOne 4 (some .int) 5 [.ref (ad w 44), .int (nI k)] sg tu (some (.int (-2))) sg tu := by
  refine Kt.of2 RX5 rfl [(0, .ref (ad w 44)), (1, .int (nI k))] (by decide) rfl (Nat.le_of_ble_eq_true rfl) (fun z C E => ?_)
  refine g_aload_n C 0 rfl rfl dX5_doneOne_0 ?_
  refine g_getR C (j := 11) cls5 e_44 rfl (by decide) fl_X5_37 dX5_doneOne_1 ?_
  refine g_iconst C (v := (nI 2)) (by decide) dX5_doneOne_4 ?_
  refine g_iload_n C 1 rfl rfl dX5_doneOne_5 ?_
  refine g_imul C dX5_doneOne_6 ?_
  refine g_top (y := (nI (2 * k))) (pk_mul 2 k) ?_
  refine g_ialdN C (2 * k) e_54 (by omega) (by decide) dX5_doneOne_7 ?_
  refine g_top (y := (nI a)) ha ?_
  refine g_istore_n C (L' := [(2, .int (nI a)), (0, .ref (ad w 44)), (1, .int (nI k))]) rfl (by decide) rfl dX5_doneOne_8 ?_
  refine g_aload_n C 1 rfl rfl dX5_doneOne_9 ?_
  refine g_getR C (j := 11) cls5 e_44 rfl (by decide) fl_X5_37 dX5_doneOne_10 ?_
  refine g_iconst C (v := (nI 2)) (by decide) dX5_doneOne_13 ?_
  refine g_iload_n C 2 rfl rfl dX5_doneOne_14 ?_
  refine g_imul C dX5_doneOne_15 ?_
  refine g_top (y := (nI (2 * k))) (pk_mul 2 k) ?_
  refine g_iconst C (v := (nI 1)) (by decide) dX5_doneOne_16 ?_
  refine g_iadd C dX5_doneOne_17 ?_
  refine g_top (y := (nI ((2 * k) + 1))) (nI_add (2 * k) 1) ?_
  refine g_ialdN C ((2 * k) + 1) e_54 (by omega) (by decide) dX5_doneOne_18 ?_
  refine g_istore_n C (L' := [(3, .int (sg 54 ((2 * k) + 1))), (2, .int (nI a)), (0, .ref (ad w 44)), (1, .int (nI k))]) rfl (by decide) rfl dX5_doneOne_19 ?_
  refine g_aload_n C 2 rfl rfl dX5_doneOne_20 ?_
  refine g_getR C (j := 10) cls5 e_44 rfl (by decide) fl_X5_34 dX5_doneOne_21 ?_
  refine g_iload_n C 3 rfl rfl dX5_doneOne_24 ?_
  refine g_ialdN C k e_53 (by omega) (by decide) dX5_doneOne_25 ?_
  refine g_top (y := (nI 115)) hl ?_
  refine g_tabIn C (off := 105) (tgt := 131) dX5_doneOne_26 (by decide) (by decide) (by decide) (by decide) ?_
  refine g_aload_n C 2 rfl rfl dX5_doneOne_131 ?_
  refine g_iload_n C 1 rfl rfl dX5_doneOne_132 ?_
  refine g_callV1 [] C (c_X5_putShift_bad w tu sg (nI a) (in_no (by omega) (by decide) h)) mt_X5_putShift e_44 rfl ml_X5_126 im_X5_putShift se_X5_putShift (by decide) rfl (Nat.le_of_ble_eq_true rfl) dX5_doneOne_133 ?_
  refine g_eq (L' := [(3, .int (sg 54 ((2 * k) + 1))), (2, .int (nI a)), (0, .ref (ad w 44)), (1, .int (nI k))]) (S' := [.int (-2)]) rfl rfl rfl rfl ?_
  exact g_iret C E dX5_doneOne_136 rfl Sq.rf rfl
set_option maxRecDepth 100000 in
set_option maxHeartbeats 400000 in
theorem c_X5_doneOne_r_ok (w : GW) (tu : Int64) (sg : Sg) (k : Nat) (a b : Nat) (hk : k < 60) (hl : sg 53 k = nI 114) (ha : sg 54 (2 * k) = nI a) (ha9 : a < 1000000) (hok : ROk (sg 45)) (h : a ≤ 12) : Kt w yX5_doneOne cX5_doneOne 4 (some .int) 5 [.ref (ad w 44), .int (nI k)] sg tu (some (.int (sg 45 32))) (us sg 45 (upd (sg 45) 32 (nI a))) tu := by
  refine Kt.of2 RX5 rfl [(0, .ref (ad w 44)), (1, .int (nI k))] (by decide) rfl (Nat.le_of_ble_eq_true rfl) (fun z C E => ?_)
  refine g_aload_n C 0 rfl rfl dX5_doneOne_0 ?_
  refine g_getR C (j := 11) cls5 e_44 rfl (by decide) fl_X5_37 dX5_doneOne_1 ?_
  refine g_iconst C (v := (nI 2)) (by decide) dX5_doneOne_4 ?_
  refine g_iload_n C 1 rfl rfl dX5_doneOne_5 ?_
  refine g_imul C dX5_doneOne_6 ?_
  refine g_top (y := (nI (2 * k))) (pk_mul 2 k) ?_
  refine g_ialdN C (2 * k) e_54 (by omega) (by decide) dX5_doneOne_7 ?_
  refine g_top (y := (nI a)) ha ?_
  refine g_istore_n C (L' := [(2, .int (nI a)), (0, .ref (ad w 44)), (1, .int (nI k))]) rfl (by decide) rfl dX5_doneOne_8 ?_
  refine g_aload_n C 1 rfl rfl dX5_doneOne_9 ?_
  refine g_getR C (j := 11) cls5 e_44 rfl (by decide) fl_X5_37 dX5_doneOne_10 ?_
  refine g_iconst C (v := (nI 2)) (by decide) dX5_doneOne_13 ?_
  refine g_iload_n C 2 rfl rfl dX5_doneOne_14 ?_
  refine g_imul C dX5_doneOne_15 ?_
  refine g_top (y := (nI (2 * k))) (pk_mul 2 k) ?_
  refine g_iconst C (v := (nI 1)) (by decide) dX5_doneOne_16 ?_
  refine g_iadd C dX5_doneOne_17 ?_
  refine g_top (y := (nI ((2 * k) + 1))) (nI_add (2 * k) 1) ?_
  refine g_ialdN C ((2 * k) + 1) e_54 (by omega) (by decide) dX5_doneOne_18 ?_
  refine g_istore_n C (L' := [(3, .int (sg 54 ((2 * k) + 1))), (2, .int (nI a)), (0, .ref (ad w 44)), (1, .int (nI k))]) rfl (by decide) rfl dX5_doneOne_19 ?_
  refine g_aload_n C 2 rfl rfl dX5_doneOne_20 ?_
  refine g_getR C (j := 10) cls5 e_44 rfl (by decide) fl_X5_34 dX5_doneOne_21 ?_
  refine g_iload_n C 3 rfl rfl dX5_doneOne_24 ?_
  refine g_ialdN C k e_53 (by omega) (by decide) dX5_doneOne_25 ?_
  refine g_top (y := (nI 114)) hl ?_
  refine g_tabIn C (off := 149) (tgt := 175) dX5_doneOne_26 (by decide) (by decide) (by decide) (by decide) ?_
  refine g_aload_n C 2 rfl rfl dX5_doneOne_175 ?_
  refine g_iload_n C 1 rfl rfl dX5_doneOne_176 ?_
  refine g_callV1 [] C (c_X5_putReach_ok w tu sg a h) mt_X5_putReach e_44 rfl ml_X5_129 im_X5_putReach se_X5_putReach (by decide) rfl (Nat.le_of_ble_eq_true rfl) dX5_doneOne_177 ?_
  refine g_eq (sg' := (us sg 45 (upd (sg 45) 32 (nI a)))) (L' := [(3, .int (sg 54 ((2 * k) + 1))), (2, .int (nI a)), (0, .ref (ad w 44)), (1, .int (nI k))]) (S' := [.int (sg 45 32)]) rfl rfl rfl rfl ?_
  exact g_iret C E dX5_doneOne_180 rfl Sq.rf rfl
set_option maxRecDepth 100000 in
set_option maxHeartbeats 400000 in
theorem c_X5_doneOne_r_no (w : GW) (tu : Int64) (sg : Sg) (k : Nat) (a b : Nat) (hk : k < 60) (hl : sg 53 k = nI 114) (ha : sg 54 (2 * k) = nI a) (ha9 : a < 1000000) (hok : ROk (sg 45)) (h : ¬ a ≤ 12) : Kt w yX5_doneOne cX5_doneOne 4 (some .int) 5 [.ref (ad w 44), .int (nI k)] sg tu (some (.int (-2))) sg tu := by
  refine Kt.of2 RX5 rfl [(0, .ref (ad w 44)), (1, .int (nI k))] (by decide) rfl (Nat.le_of_ble_eq_true rfl) (fun z C E => ?_)
  refine g_aload_n C 0 rfl rfl dX5_doneOne_0 ?_
  refine g_getR C (j := 11) cls5 e_44 rfl (by decide) fl_X5_37 dX5_doneOne_1 ?_
  refine g_iconst C (v := (nI 2)) (by decide) dX5_doneOne_4 ?_
  refine g_iload_n C 1 rfl rfl dX5_doneOne_5 ?_
  refine g_imul C dX5_doneOne_6 ?_
  refine g_top (y := (nI (2 * k))) (pk_mul 2 k) ?_
  refine g_ialdN C (2 * k) e_54 (by omega) (by decide) dX5_doneOne_7 ?_
  refine g_top (y := (nI a)) ha ?_
  refine g_istore_n C (L' := [(2, .int (nI a)), (0, .ref (ad w 44)), (1, .int (nI k))]) rfl (by decide) rfl dX5_doneOne_8 ?_
  refine g_aload_n C 1 rfl rfl dX5_doneOne_9 ?_
  refine g_getR C (j := 11) cls5 e_44 rfl (by decide) fl_X5_37 dX5_doneOne_10 ?_
  refine g_iconst C (v := (nI 2)) (by decide) dX5_doneOne_13 ?_
  refine g_iload_n C 2 rfl rfl dX5_doneOne_14 ?_
  refine g_imul C dX5_doneOne_15 ?_
  refine g_top (y := (nI (2 * k))) (pk_mul 2 k) ?_
  refine g_iconst C (v := (nI 1)) (by decide) dX5_doneOne_16 ?_
  refine g_iadd C dX5_doneOne_17 ?_
  refine g_top (y := (nI ((2 * k) + 1))) (nI_add (2 * k) 1) ?_
  refine g_ialdN C ((2 * k) + 1) e_54 (by omega) (by decide) dX5_doneOne_18 ?_
  refine g_istore_n C (L' := [(3, .int (sg 54 ((2 * k) + 1))), (2, .int (nI a)), (0, .ref (ad w 44)), (1, .int (nI k))]) rfl (by decide) rfl dX5_doneOne_19 ?_
  refine g_aload_n C 2 rfl rfl dX5_doneOne_20 ?_
  refine g_getR C (j := 10) cls5 e_44 rfl (by decide) fl_X5_34 dX5_doneOne_21 ?_
  refine g_iload_n C 3 rfl rfl dX5_doneOne_24 ?_
  refine g_ialdN C k e_53 (by omega) (by decide) dX5_doneOne_25 ?_
  refine g_top (y := (nI 114)) hl ?_
  refine g_tabIn C (off := 149) (tgt := 175) dX5_doneOne_26 (by decide) (by decide) (by decide) (by decide) ?_
  refine g_aload_n C 2 rfl rfl dX5_doneOne_175 ?_
  refine g_iload_n C 1 rfl rfl dX5_doneOne_176 ?_
  refine g_callV1 [] C (c_X5_putReach_bad w tu sg (nI a) (in_no (by omega) (by decide) h)) mt_X5_putReach e_44 rfl ml_X5_129 im_X5_putReach se_X5_putReach (by decide) rfl (Nat.le_of_ble_eq_true rfl) dX5_doneOne_177 ?_
  refine g_eq (L' := [(3, .int (sg 54 ((2 * k) + 1))), (2, .int (nI a)), (0, .ref (ad w 44)), (1, .int (nI k))]) (S' := [.int (-2)]) rfl rfl rfl rfl ?_
  exact g_iret C E dX5_doneOne_180 rfl Sq.rf rfl
set_option maxRecDepth 100000 in
set_option maxHeartbeats 400000 in
theorem c_X5_doneOne_u_ok (w : GW) (tu : Int64) (sg : Sg) (k : Nat) (a b : Nat) (hk : k < 60) (hl : sg 53 k = nI 117) (ha : sg 54 (2 * k) = nI a) (ha9 : a < 1000000) (hok : ROk (sg 45)) (h : 1 ≤ a ∧ a ≤ 99) : Kt w yX5_doneOne cX5_doneOne 4 (some .int) 5 [.ref (ad w 44), .int (nI k)] sg tu (some (.int (rgs true (nI 1) (gN (sg 45)) (sg 45) a))) (us (us sg 50 (fun d => whX ((sg 45) (6 + d)) (dN (sg 45) d + 1))) 45 (itR true (nI 1) (gN (sg 45)) a (sg 45))) tu := by
  refine Kt.of2 RX5 rfl [(0, .ref (ad w 44)), (1, .int (nI k))] (by decide) rfl (Nat.le_of_ble_eq_true rfl) (fun z C E => ?_)
  refine g_aload_n C 0 rfl rfl dX5_doneOne_0 ?_
  refine g_getR C (j := 11) cls5 e_44 rfl (by decide) fl_X5_37 dX5_doneOne_1 ?_
  refine g_iconst C (v := (nI 2)) (by decide) dX5_doneOne_4 ?_
  refine g_iload_n C 1 rfl rfl dX5_doneOne_5 ?_
  refine g_imul C dX5_doneOne_6 ?_
  refine g_top (y := (nI (2 * k))) (pk_mul 2 k) ?_
  refine g_ialdN C (2 * k) e_54 (by omega) (by decide) dX5_doneOne_7 ?_
  refine g_top (y := (nI a)) ha ?_
  refine g_istore_n C (L' := [(2, .int (nI a)), (0, .ref (ad w 44)), (1, .int (nI k))]) rfl (by decide) rfl dX5_doneOne_8 ?_
  refine g_aload_n C 1 rfl rfl dX5_doneOne_9 ?_
  refine g_getR C (j := 11) cls5 e_44 rfl (by decide) fl_X5_37 dX5_doneOne_10 ?_
  refine g_iconst C (v := (nI 2)) (by decide) dX5_doneOne_13 ?_
  refine g_iload_n C 2 rfl rfl dX5_doneOne_14 ?_
  refine g_imul C dX5_doneOne_15 ?_
  refine g_top (y := (nI (2 * k))) (pk_mul 2 k) ?_
  refine g_iconst C (v := (nI 1)) (by decide) dX5_doneOne_16 ?_
  refine g_iadd C dX5_doneOne_17 ?_
  refine g_top (y := (nI ((2 * k) + 1))) (nI_add (2 * k) 1) ?_
  refine g_ialdN C ((2 * k) + 1) e_54 (by omega) (by decide) dX5_doneOne_18 ?_
  refine g_istore_n C (L' := [(3, .int (sg 54 ((2 * k) + 1))), (2, .int (nI a)), (0, .ref (ad w 44)), (1, .int (nI k))]) rfl (by decide) rfl dX5_doneOne_19 ?_
  refine g_aload_n C 2 rfl rfl dX5_doneOne_20 ?_
  refine g_getR C (j := 10) cls5 e_44 rfl (by decide) fl_X5_34 dX5_doneOne_21 ?_
  refine g_iload_n C 3 rfl rfl dX5_doneOne_24 ?_
  refine g_ialdN C k e_53 (by omega) (by decide) dX5_doneOne_25 ?_
  refine g_top (y := (nI 117)) hl ?_
  refine g_tabIn C (off := 111) (tgt := 137) dX5_doneOne_26 (by decide) (by decide) (by decide) (by decide) ?_
  refine g_aload_n C 2 rfl rfl dX5_doneOne_137 ?_
  refine g_iload_n C 1 rfl rfl dX5_doneOne_138 ?_
  refine g_iconst C (v := (nI 1)) (by decide) dX5_doneOne_139 ?_
  refine g_callV1 [] C (c_X5_doesTurns_up w tu sg a h.1 h.2 hok) mt_X5_doesTurns e_44 rfl ml_X5_139 im_X5_doesTurns se_X5_doesTurns (by decide) rfl (Nat.le_of_ble_eq_true rfl) dX5_doneOne_140 ?_
  refine g_eq (sg' := (us (us sg 50 (fun d => whX ((sg 45) (6 + d)) (dN (sg 45) d + 1))) 45 (itR true (nI 1) (gN (sg 45)) a (sg 45)))) (L' := [(3, .int (sg 54 ((2 * k) + 1))), (2, .int (nI a)), (0, .ref (ad w 44)), (1, .int (nI k))]) (S' := [.int (rgs true (nI 1) (gN (sg 45)) (sg 45) a)]) rfl rfl rfl rfl ?_
  exact g_iret C E dX5_doneOne_143 rfl Sq.rf rfl
set_option maxRecDepth 100000 in
set_option maxHeartbeats 400000 in
theorem c_X5_doneOne_u_no (w : GW) (tu : Int64) (sg : Sg) (k : Nat) (a b : Nat) (hk : k < 60) (hl : sg 53 k = nI 117) (ha : sg 54 (2 * k) = nI a) (ha9 : a < 1000000) (hok : ROk (sg 45)) (h : ¬ (1 ≤ a ∧ a ≤ 99)) : Kt w yX5_doneOne cX5_doneOne 4 (some .int) 5 [.ref (ad w 44), .int (nI k)] sg tu (some (.int (-2))) sg tu := by
  refine Kt.of2 RX5 rfl [(0, .ref (ad w 44)), (1, .int (nI k))] (by decide) rfl (Nat.le_of_ble_eq_true rfl) (fun z C E => ?_)
  refine g_aload_n C 0 rfl rfl dX5_doneOne_0 ?_
  refine g_getR C (j := 11) cls5 e_44 rfl (by decide) fl_X5_37 dX5_doneOne_1 ?_
  refine g_iconst C (v := (nI 2)) (by decide) dX5_doneOne_4 ?_
  refine g_iload_n C 1 rfl rfl dX5_doneOne_5 ?_
  refine g_imul C dX5_doneOne_6 ?_
  refine g_top (y := (nI (2 * k))) (pk_mul 2 k) ?_
  refine g_ialdN C (2 * k) e_54 (by omega) (by decide) dX5_doneOne_7 ?_
  refine g_top (y := (nI a)) ha ?_
  refine g_istore_n C (L' := [(2, .int (nI a)), (0, .ref (ad w 44)), (1, .int (nI k))]) rfl (by decide) rfl dX5_doneOne_8 ?_
  refine g_aload_n C 1 rfl rfl dX5_doneOne_9 ?_
  refine g_getR C (j := 11) cls5 e_44 rfl (by decide) fl_X5_37 dX5_doneOne_10 ?_
  refine g_iconst C (v := (nI 2)) (by decide) dX5_doneOne_13 ?_
  refine g_iload_n C 2 rfl rfl dX5_doneOne_14 ?_
  refine g_imul C dX5_doneOne_15 ?_
  refine g_top (y := (nI (2 * k))) (pk_mul 2 k) ?_
  refine g_iconst C (v := (nI 1)) (by decide) dX5_doneOne_16 ?_
  refine g_iadd C dX5_doneOne_17 ?_
  refine g_top (y := (nI ((2 * k) + 1))) (nI_add (2 * k) 1) ?_
  refine g_ialdN C ((2 * k) + 1) e_54 (by omega) (by decide) dX5_doneOne_18 ?_
  refine g_istore_n C (L' := [(3, .int (sg 54 ((2 * k) + 1))), (2, .int (nI a)), (0, .ref (ad w 44)), (1, .int (nI k))]) rfl (by decide) rfl dX5_doneOne_19 ?_
  refine g_aload_n C 2 rfl rfl dX5_doneOne_20 ?_
  refine g_getR C (j := 10) cls5 e_44 rfl (by decide) fl_X5_34 dX5_doneOne_21 ?_
  refine g_iload_n C 3 rfl rfl dX5_doneOne_24 ?_
  refine g_ialdN C k e_53 (by omega) (by decide) dX5_doneOne_25 ?_
  refine g_top (y := (nI 117)) hl ?_
  refine g_tabIn C (off := 111) (tgt := 137) dX5_doneOne_26 (by decide) (by decide) (by decide) (by decide) ?_
  refine g_aload_n C 2 rfl rfl dX5_doneOne_137 ?_
  refine g_iload_n C 1 rfl rfl dX5_doneOne_138 ?_
  refine g_iconst C (v := (nI 1)) (by decide) dX5_doneOne_139 ?_
  refine g_callV1 [] C (c_X5_doesTurns_up_bad w tu sg (nI a) (in_no1 (by omega) (by decide) h)) mt_X5_doesTurns e_44 rfl ml_X5_139 im_X5_doesTurns se_X5_doesTurns (by decide) rfl (Nat.le_of_ble_eq_true rfl) dX5_doneOne_140 ?_
  refine g_eq (L' := [(3, .int (sg 54 ((2 * k) + 1))), (2, .int (nI a)), (0, .ref (ad w 44)), (1, .int (nI k))]) (S' := [.int (-2)]) rfl rfl rfl rfl ?_
  exact g_iret C E dX5_doneOne_143 rfl Sq.rf rfl
set_option maxRecDepth 100000 in
set_option maxHeartbeats 400000 in
theorem c_X5_doneOne_d_ok (w : GW) (tu : Int64) (sg : Sg) (k : Nat) (a b : Nat) (hk : k < 60) (hl : sg 53 k = nI 100) (ha : sg 54 (2 * k) = nI a) (ha9 : a < 1000000) (hok : ROk (sg 45)) (h : 1 ≤ a ∧ a ≤ 99) : Kt w yX5_doneOne cX5_doneOne 4 (some .int) 5 [.ref (ad w 44), .int (nI k)] sg tu (some (.int (rgs false (-1) (gN (sg 45)) (sg 45) a))) (us (us sg 50 (fun d => whX ((sg 45) (6 + d)) (dN (sg 45) d + 1))) 45 (itR false (-1) (gN (sg 45)) a (sg 45))) tu := by
  refine Kt.of2 RX5 rfl [(0, .ref (ad w 44)), (1, .int (nI k))] (by decide) rfl (Nat.le_of_ble_eq_true rfl) (fun z C E => ?_)
  refine g_aload_n C 0 rfl rfl dX5_doneOne_0 ?_
  refine g_getR C (j := 11) cls5 e_44 rfl (by decide) fl_X5_37 dX5_doneOne_1 ?_
  refine g_iconst C (v := (nI 2)) (by decide) dX5_doneOne_4 ?_
  refine g_iload_n C 1 rfl rfl dX5_doneOne_5 ?_
  refine g_imul C dX5_doneOne_6 ?_
  refine g_top (y := (nI (2 * k))) (pk_mul 2 k) ?_
  refine g_ialdN C (2 * k) e_54 (by omega) (by decide) dX5_doneOne_7 ?_
  refine g_top (y := (nI a)) ha ?_
  refine g_istore_n C (L' := [(2, .int (nI a)), (0, .ref (ad w 44)), (1, .int (nI k))]) rfl (by decide) rfl dX5_doneOne_8 ?_
  refine g_aload_n C 1 rfl rfl dX5_doneOne_9 ?_
  refine g_getR C (j := 11) cls5 e_44 rfl (by decide) fl_X5_37 dX5_doneOne_10 ?_
  refine g_iconst C (v := (nI 2)) (by decide) dX5_doneOne_13 ?_
  refine g_iload_n C 2 rfl rfl dX5_doneOne_14 ?_
  refine g_imul C dX5_doneOne_15 ?_
  refine g_top (y := (nI (2 * k))) (pk_mul 2 k) ?_
  refine g_iconst C (v := (nI 1)) (by decide) dX5_doneOne_16 ?_
  refine g_iadd C dX5_doneOne_17 ?_
  refine g_top (y := (nI ((2 * k) + 1))) (nI_add (2 * k) 1) ?_
  refine g_ialdN C ((2 * k) + 1) e_54 (by omega) (by decide) dX5_doneOne_18 ?_
  refine g_istore_n C (L' := [(3, .int (sg 54 ((2 * k) + 1))), (2, .int (nI a)), (0, .ref (ad w 44)), (1, .int (nI k))]) rfl (by decide) rfl dX5_doneOne_19 ?_
  refine g_aload_n C 2 rfl rfl dX5_doneOne_20 ?_
  refine g_getR C (j := 10) cls5 e_44 rfl (by decide) fl_X5_34 dX5_doneOne_21 ?_
  refine g_iload_n C 3 rfl rfl dX5_doneOne_24 ?_
  refine g_ialdN C k e_53 (by omega) (by decide) dX5_doneOne_25 ?_
  refine g_top (y := (nI 100)) hl ?_
  refine g_tabIn C (off := 118) (tgt := 144) dX5_doneOne_26 (by decide) (by decide) (by decide) (by decide) ?_
  refine g_aload_n C 2 rfl rfl dX5_doneOne_144 ?_
  refine g_iload_n C 1 rfl rfl dX5_doneOne_145 ?_
  refine g_iconst C (v := (-1)) (by decide) dX5_doneOne_146 ?_
  refine g_callV1 [] C (c_X5_doesTurns_dn w tu sg a h.1 h.2 hok) mt_X5_doesTurns e_44 rfl ml_X5_139 im_X5_doesTurns se_X5_doesTurns (by decide) rfl (Nat.le_of_ble_eq_true rfl) dX5_doneOne_147 ?_
  refine g_eq (sg' := (us (us sg 50 (fun d => whX ((sg 45) (6 + d)) (dN (sg 45) d + 1))) 45 (itR false (-1) (gN (sg 45)) a (sg 45)))) (L' := [(3, .int (sg 54 ((2 * k) + 1))), (2, .int (nI a)), (0, .ref (ad w 44)), (1, .int (nI k))]) (S' := [.int (rgs false (-1) (gN (sg 45)) (sg 45) a)]) rfl rfl rfl rfl ?_
  exact g_iret C E dX5_doneOne_150 rfl Sq.rf rfl
set_option maxRecDepth 100000 in
set_option maxHeartbeats 400000 in
theorem c_X5_doneOne_d_no (w : GW) (tu : Int64) (sg : Sg) (k : Nat) (a b : Nat) (hk : k < 60) (hl : sg 53 k = nI 100) (ha : sg 54 (2 * k) = nI a) (ha9 : a < 1000000) (hok : ROk (sg 45)) (h : ¬ (1 ≤ a ∧ a ≤ 99)) : Kt w yX5_doneOne cX5_doneOne 4 (some .int) 5 [.ref (ad w 44), .int (nI k)] sg tu (some (.int (-2))) sg tu := by
  refine Kt.of2 RX5 rfl [(0, .ref (ad w 44)), (1, .int (nI k))] (by decide) rfl (Nat.le_of_ble_eq_true rfl) (fun z C E => ?_)
  refine g_aload_n C 0 rfl rfl dX5_doneOne_0 ?_
  refine g_getR C (j := 11) cls5 e_44 rfl (by decide) fl_X5_37 dX5_doneOne_1 ?_
  refine g_iconst C (v := (nI 2)) (by decide) dX5_doneOne_4 ?_
  refine g_iload_n C 1 rfl rfl dX5_doneOne_5 ?_
  refine g_imul C dX5_doneOne_6 ?_
  refine g_top (y := (nI (2 * k))) (pk_mul 2 k) ?_
  refine g_ialdN C (2 * k) e_54 (by omega) (by decide) dX5_doneOne_7 ?_
  refine g_top (y := (nI a)) ha ?_
  refine g_istore_n C (L' := [(2, .int (nI a)), (0, .ref (ad w 44)), (1, .int (nI k))]) rfl (by decide) rfl dX5_doneOne_8 ?_
  refine g_aload_n C 1 rfl rfl dX5_doneOne_9 ?_
  refine g_getR C (j := 11) cls5 e_44 rfl (by decide) fl_X5_37 dX5_doneOne_10 ?_
  refine g_iconst C (v := (nI 2)) (by decide) dX5_doneOne_13 ?_
  refine g_iload_n C 2 rfl rfl dX5_doneOne_14 ?_
  refine g_imul C dX5_doneOne_15 ?_
  refine g_top (y := (nI (2 * k))) (pk_mul 2 k) ?_
  refine g_iconst C (v := (nI 1)) (by decide) dX5_doneOne_16 ?_
  refine g_iadd C dX5_doneOne_17 ?_
  refine g_top (y := (nI ((2 * k) + 1))) (nI_add (2 * k) 1) ?_
  refine g_ialdN C ((2 * k) + 1) e_54 (by omega) (by decide) dX5_doneOne_18 ?_
  refine g_istore_n C (L' := [(3, .int (sg 54 ((2 * k) + 1))), (2, .int (nI a)), (0, .ref (ad w 44)), (1, .int (nI k))]) rfl (by decide) rfl dX5_doneOne_19 ?_
  refine g_aload_n C 2 rfl rfl dX5_doneOne_20 ?_
  refine g_getR C (j := 10) cls5 e_44 rfl (by decide) fl_X5_34 dX5_doneOne_21 ?_
  refine g_iload_n C 3 rfl rfl dX5_doneOne_24 ?_
  refine g_ialdN C k e_53 (by omega) (by decide) dX5_doneOne_25 ?_
  refine g_top (y := (nI 100)) hl ?_
  refine g_tabIn C (off := 118) (tgt := 144) dX5_doneOne_26 (by decide) (by decide) (by decide) (by decide) ?_
  refine g_aload_n C 2 rfl rfl dX5_doneOne_144 ?_
  refine g_iload_n C 1 rfl rfl dX5_doneOne_145 ?_
  refine g_iconst C (v := (-1)) (by decide) dX5_doneOne_146 ?_
  refine g_callV1 [] C (c_X5_doesTurns_dn_bad w tu sg (nI a) (in_no1 (by omega) (by decide) h)) mt_X5_doesTurns e_44 rfl ml_X5_139 im_X5_doesTurns se_X5_doesTurns (by decide) rfl (Nat.le_of_ble_eq_true rfl) dX5_doneOne_147 ?_
  refine g_eq (L' := [(3, .int (sg 54 ((2 * k) + 1))), (2, .int (nI a)), (0, .ref (ad w 44)), (1, .int (nI k))]) (S' := [.int (-2)]) rfl rfl rfl rfl ?_
  exact g_iret C E dX5_doneOne_150 rfl Sq.rf rfl
set_option maxRecDepth 100000 in
set_option maxHeartbeats 400000 in
theorem c_X5_doneOne_c_ok (w : GW) (tu : Int64) (sg : Sg) (k : Nat) (a b : Nat) (hk : k < 60) (hl : sg 53 k = nI 99) (hok : ROk (sg 45))  : Kt w yX5_doneOne cX5_doneOne 4 (some .int) 5 [.ref (ad w 44), .int (nI k)] sg tu (some (.int (czX (sg 45) (fun _ => nI 0) 12 12))) (us sg 45 (fw 24 (fun _ => nI 0) (fw 12 (fun _ => nI 0) (sg 45) 12) 7)) tu := by
  refine Kt.of2 RX5 rfl [(0, .ref (ad w 44)), (1, .int (nI k))] (by decide) rfl (Nat.le_of_ble_eq_true rfl) (fun z C E => ?_)
  refine g_aload_n C 0 rfl rfl dX5_doneOne_0 ?_
  refine g_getR C (j := 11) cls5 e_44 rfl (by decide) fl_X5_37 dX5_doneOne_1 ?_
  refine g_iconst C (v := (nI 2)) (by decide) dX5_doneOne_4 ?_
  refine g_iload_n C 1 rfl rfl dX5_doneOne_5 ?_
  refine g_imul C dX5_doneOne_6 ?_
  refine g_top (y := (nI (2 * k))) (pk_mul 2 k) ?_
  refine g_ialdN C (2 * k) e_54 (by omega) (by decide) dX5_doneOne_7 ?_
  refine g_istore_n C (L' := [(2, .int (sg 54 (2 * k))), (0, .ref (ad w 44)), (1, .int (nI k))]) rfl (by decide) rfl dX5_doneOne_8 ?_
  refine g_aload_n C 1 rfl rfl dX5_doneOne_9 ?_
  refine g_getR C (j := 11) cls5 e_44 rfl (by decide) fl_X5_37 dX5_doneOne_10 ?_
  refine g_iconst C (v := (nI 2)) (by decide) dX5_doneOne_13 ?_
  refine g_iload_n C 2 rfl rfl dX5_doneOne_14 ?_
  refine g_imul C dX5_doneOne_15 ?_
  refine g_top (y := (nI (2 * k))) (pk_mul 2 k) ?_
  refine g_iconst C (v := (nI 1)) (by decide) dX5_doneOne_16 ?_
  refine g_iadd C dX5_doneOne_17 ?_
  refine g_top (y := (nI ((2 * k) + 1))) (nI_add (2 * k) 1) ?_
  refine g_ialdN C ((2 * k) + 1) e_54 (by omega) (by decide) dX5_doneOne_18 ?_
  refine g_istore_n C (L' := [(3, .int (sg 54 ((2 * k) + 1))), (2, .int (sg 54 (2 * k))), (0, .ref (ad w 44)), (1, .int (nI k))]) rfl (by decide) rfl dX5_doneOne_19 ?_
  refine g_aload_n C 2 rfl rfl dX5_doneOne_20 ?_
  refine g_getR C (j := 10) cls5 e_44 rfl (by decide) fl_X5_34 dX5_doneOne_21 ?_
  refine g_iload_n C 3 rfl rfl dX5_doneOne_24 ?_
  refine g_ialdN C k e_53 (by omega) (by decide) dX5_doneOne_25 ?_
  refine g_top (y := (nI 99)) hl ?_
  refine g_tabIn C (off := 125) (tgt := 151) dX5_doneOne_26 (by decide) (by decide) (by decide) (by decide) ?_
  refine g_aload_n C 2 rfl rfl dX5_doneOne_151 ?_
  refine g_callV1 [] C (c_X5_clearsAll w tu sg  ) mt_X5_clearsAll e_44 rfl ml_X5_79 im_X5_clearsAll se_X5_clearsAll (by decide) rfl (Nat.le_of_ble_eq_true rfl) dX5_doneOne_152 ?_
  refine g_eq (sg' := (us sg 45 (fw 24 (fun _ => nI 0) (fw 12 (fun _ => nI 0) (sg 45) 12) 7))) (L' := [(3, .int (sg 54 ((2 * k) + 1))), (2, .int (sg 54 (2 * k))), (0, .ref (ad w 44)), (1, .int (nI k))]) (S' := [.int (czX (sg 45) (fun _ => nI 0) 12 12)]) rfl rfl rfl rfl ?_
  exact g_iret C E dX5_doneOne_155 rfl Sq.rf rfl
set_option maxRecDepth 100000 in
set_option maxHeartbeats 400000 in
theorem c_X5_doneOne_t_0 (w : GW) (tu : Int64) (sg : Sg) (k : Nat) (a b : Nat) (hk : k < 60) (hl : sg 53 k = nI 116) (ha : sg 54 (2 * k) = nI a) (ha9 : a < 1000000) (hbb : sg 54 (2 * k + 1) = nI b) (hb9 : b < 1000000) (hok : ROk (sg 45)) (hbv : b = 0) (h : a ≤ 999999) : Kt w yX5_doneOne cX5_doneOne 4 (some .int) 5 [.ref (ad w 44), .int (nI k)] sg tu (some (.int (nI (smP 0 a 7)))) (us (us (us sg 52 (fun k => pI 0 (mkP 0 a k))) 50 (fun d => whX (clR (sg 45) (6 + d)) (dN (clR (sg 45)) d + 1))) 45 (muR 0 a (gN (sg 45)) 6 (clR (sg 45)))) tu := by
  refine Kt.of2 RX5 rfl [(0, .ref (ad w 44)), (1, .int (nI k))] (by decide) rfl (Nat.le_of_ble_eq_true rfl) (fun z C E => ?_)
  refine g_aload_n C 0 rfl rfl dX5_doneOne_0 ?_
  refine g_getR C (j := 11) cls5 e_44 rfl (by decide) fl_X5_37 dX5_doneOne_1 ?_
  refine g_iconst C (v := (nI 2)) (by decide) dX5_doneOne_4 ?_
  refine g_iload_n C 1 rfl rfl dX5_doneOne_5 ?_
  refine g_imul C dX5_doneOne_6 ?_
  refine g_top (y := (nI (2 * k))) (pk_mul 2 k) ?_
  refine g_ialdN C (2 * k) e_54 (by omega) (by decide) dX5_doneOne_7 ?_
  refine g_top (y := (nI a)) ha ?_
  refine g_istore_n C (L' := [(2, .int (nI a)), (0, .ref (ad w 44)), (1, .int (nI k))]) rfl (by decide) rfl dX5_doneOne_8 ?_
  refine g_aload_n C 1 rfl rfl dX5_doneOne_9 ?_
  refine g_getR C (j := 11) cls5 e_44 rfl (by decide) fl_X5_37 dX5_doneOne_10 ?_
  refine g_iconst C (v := (nI 2)) (by decide) dX5_doneOne_13 ?_
  refine g_iload_n C 2 rfl rfl dX5_doneOne_14 ?_
  refine g_imul C dX5_doneOne_15 ?_
  refine g_top (y := (nI (2 * k))) (pk_mul 2 k) ?_
  refine g_iconst C (v := (nI 1)) (by decide) dX5_doneOne_16 ?_
  refine g_iadd C dX5_doneOne_17 ?_
  refine g_top (y := (nI ((2 * k) + 1))) (nI_add (2 * k) 1) ?_
  refine g_ialdN C ((2 * k) + 1) e_54 (by omega) (by decide) dX5_doneOne_18 ?_
  refine g_top (y := (nI b)) hbb ?_
  refine g_istore_n C (L' := [(3, .int (nI b)), (2, .int (nI a)), (0, .ref (ad w 44)), (1, .int (nI k))]) rfl (by decide) rfl dX5_doneOne_19 ?_
  refine g_aload_n C 2 rfl rfl dX5_doneOne_20 ?_
  refine g_getR C (j := 10) cls5 e_44 rfl (by decide) fl_X5_34 dX5_doneOne_21 ?_
  refine g_iload_n C 3 rfl rfl dX5_doneOne_24 ?_
  refine g_ialdN C k e_53 (by omega) (by decide) dX5_doneOne_25 ?_
  refine g_top (y := (nI 116)) hl ?_
  refine g_tabIn C (off := 130) (tgt := 156) dX5_doneOne_26 (by decide) (by decide) (by decide) (by decide) ?_
  refine g_aload_n C 2 rfl rfl dX5_doneOne_156 ?_
  refine g_iload_n C 1 rfl rfl dX5_doneOne_157 ?_
  refine g_iload_n C 0 rfl rfl dX5_doneOne_158 ?_
  refine g_top (y := nI 0) (by rw [hbv]) ?_
  refine g_callV1 [] C (c_X5_doesTimes_0 w tu sg a h hok) mt_X5_doesTimes e_44 rfl ml_X5_142 im_X5_doesTimes se_X5_doesTimes (by decide) rfl (Nat.le_of_ble_eq_true rfl) dX5_doneOne_159 ?_
  refine g_eq (sg' := (us (us (us sg 52 (fun k => pI 0 (mkP 0 a k))) 50 (fun d => whX (clR (sg 45) (6 + d)) (dN (clR (sg 45)) d + 1))) 45 (muR 0 a (gN (sg 45)) 6 (clR (sg 45))))) (L' := [(3, .int (nI b)), (2, .int (nI a)), (0, .ref (ad w 44)), (1, .int (nI k))]) (S' := [.int (nI (smP 0 a 7))]) rfl rfl rfl rfl ?_
  exact g_iret C E dX5_doneOne_162 rfl Sq.rf rfl
set_option maxRecDepth 100000 in
set_option maxHeartbeats 400000 in
theorem c_X5_doneOne_t_1 (w : GW) (tu : Int64) (sg : Sg) (k : Nat) (a b : Nat) (hk : k < 60) (hl : sg 53 k = nI 116) (ha : sg 54 (2 * k) = nI a) (ha9 : a < 1000000) (hbb : sg 54 (2 * k + 1) = nI b) (hb9 : b < 1000000) (hok : ROk (sg 45)) (hbv : b = 1) (h : a ≤ 999999) : Kt w yX5_doneOne cX5_doneOne 4 (some .int) 5 [.ref (ad w 44), .int (nI k)] sg tu (some (.int (nI (smP 1 a 7)))) (us (us (us sg 52 (fun k => pI 1 (mkP 1 a k))) 50 (fun d => whX (clR (sg 45) (6 + d)) (dN (clR (sg 45)) d + 1))) 45 (muR 1 a (gN (sg 45)) 7 (clR (sg 45)))) tu := by
  refine Kt.of2 RX5 rfl [(0, .ref (ad w 44)), (1, .int (nI k))] (by decide) rfl (Nat.le_of_ble_eq_true rfl) (fun z C E => ?_)
  refine g_aload_n C 0 rfl rfl dX5_doneOne_0 ?_
  refine g_getR C (j := 11) cls5 e_44 rfl (by decide) fl_X5_37 dX5_doneOne_1 ?_
  refine g_iconst C (v := (nI 2)) (by decide) dX5_doneOne_4 ?_
  refine g_iload_n C 1 rfl rfl dX5_doneOne_5 ?_
  refine g_imul C dX5_doneOne_6 ?_
  refine g_top (y := (nI (2 * k))) (pk_mul 2 k) ?_
  refine g_ialdN C (2 * k) e_54 (by omega) (by decide) dX5_doneOne_7 ?_
  refine g_top (y := (nI a)) ha ?_
  refine g_istore_n C (L' := [(2, .int (nI a)), (0, .ref (ad w 44)), (1, .int (nI k))]) rfl (by decide) rfl dX5_doneOne_8 ?_
  refine g_aload_n C 1 rfl rfl dX5_doneOne_9 ?_
  refine g_getR C (j := 11) cls5 e_44 rfl (by decide) fl_X5_37 dX5_doneOne_10 ?_
  refine g_iconst C (v := (nI 2)) (by decide) dX5_doneOne_13 ?_
  refine g_iload_n C 2 rfl rfl dX5_doneOne_14 ?_
  refine g_imul C dX5_doneOne_15 ?_
  refine g_top (y := (nI (2 * k))) (pk_mul 2 k) ?_
  refine g_iconst C (v := (nI 1)) (by decide) dX5_doneOne_16 ?_
  refine g_iadd C dX5_doneOne_17 ?_
  refine g_top (y := (nI ((2 * k) + 1))) (nI_add (2 * k) 1) ?_
  refine g_ialdN C ((2 * k) + 1) e_54 (by omega) (by decide) dX5_doneOne_18 ?_
  refine g_top (y := (nI b)) hbb ?_
  refine g_istore_n C (L' := [(3, .int (nI b)), (2, .int (nI a)), (0, .ref (ad w 44)), (1, .int (nI k))]) rfl (by decide) rfl dX5_doneOne_19 ?_
  refine g_aload_n C 2 rfl rfl dX5_doneOne_20 ?_
  refine g_getR C (j := 10) cls5 e_44 rfl (by decide) fl_X5_34 dX5_doneOne_21 ?_
  refine g_iload_n C 3 rfl rfl dX5_doneOne_24 ?_
  refine g_ialdN C k e_53 (by omega) (by decide) dX5_doneOne_25 ?_
  refine g_top (y := (nI 116)) hl ?_
  refine g_tabIn C (off := 130) (tgt := 156) dX5_doneOne_26 (by decide) (by decide) (by decide) (by decide) ?_
  refine g_aload_n C 2 rfl rfl dX5_doneOne_156 ?_
  refine g_iload_n C 1 rfl rfl dX5_doneOne_157 ?_
  refine g_iload_n C 0 rfl rfl dX5_doneOne_158 ?_
  refine g_top (y := nI 1) (by rw [hbv]) ?_
  refine g_callV1 [] C (c_X5_doesTimes_1 w tu sg a h hok) mt_X5_doesTimes e_44 rfl ml_X5_142 im_X5_doesTimes se_X5_doesTimes (by decide) rfl (Nat.le_of_ble_eq_true rfl) dX5_doneOne_159 ?_
  refine g_eq (sg' := (us (us (us sg 52 (fun k => pI 1 (mkP 1 a k))) 50 (fun d => whX (clR (sg 45) (6 + d)) (dN (clR (sg 45)) d + 1))) 45 (muR 1 a (gN (sg 45)) 7 (clR (sg 45))))) (L' := [(3, .int (nI b)), (2, .int (nI a)), (0, .ref (ad w 44)), (1, .int (nI k))]) (S' := [.int (nI (smP 1 a 7))]) rfl rfl rfl rfl ?_
  exact g_iret C E dX5_doneOne_162 rfl Sq.rf rfl
set_option maxRecDepth 100000 in
set_option maxHeartbeats 400000 in
theorem c_X5_doneOne_t_no (w : GW) (tu : Int64) (sg : Sg) (k : Nat) (a b : Nat) (hk : k < 60) (hl : sg 53 k = nI 116) (ha : sg 54 (2 * k) = nI a) (ha9 : a < 1000000) (hbb : sg 54 (2 * k + 1) = nI b) (hb9 : b < 1000000) (hok : ROk (sg 45)) (h : ¬ (a ≤ 999999 ∧ b ≤ 1)) : Kt w yX5_doneOne cX5_doneOne 4 (some .int) 5 [.ref (ad w 44), .int (nI k)] sg tu (some (.int (-2))) sg tu := by
  refine Kt.of2 RX5 rfl [(0, .ref (ad w 44)), (1, .int (nI k))] (by decide) rfl (Nat.le_of_ble_eq_true rfl) (fun z C E => ?_)
  refine g_aload_n C 0 rfl rfl dX5_doneOne_0 ?_
  refine g_getR C (j := 11) cls5 e_44 rfl (by decide) fl_X5_37 dX5_doneOne_1 ?_
  refine g_iconst C (v := (nI 2)) (by decide) dX5_doneOne_4 ?_
  refine g_iload_n C 1 rfl rfl dX5_doneOne_5 ?_
  refine g_imul C dX5_doneOne_6 ?_
  refine g_top (y := (nI (2 * k))) (pk_mul 2 k) ?_
  refine g_ialdN C (2 * k) e_54 (by omega) (by decide) dX5_doneOne_7 ?_
  refine g_top (y := (nI a)) ha ?_
  refine g_istore_n C (L' := [(2, .int (nI a)), (0, .ref (ad w 44)), (1, .int (nI k))]) rfl (by decide) rfl dX5_doneOne_8 ?_
  refine g_aload_n C 1 rfl rfl dX5_doneOne_9 ?_
  refine g_getR C (j := 11) cls5 e_44 rfl (by decide) fl_X5_37 dX5_doneOne_10 ?_
  refine g_iconst C (v := (nI 2)) (by decide) dX5_doneOne_13 ?_
  refine g_iload_n C 2 rfl rfl dX5_doneOne_14 ?_
  refine g_imul C dX5_doneOne_15 ?_
  refine g_top (y := (nI (2 * k))) (pk_mul 2 k) ?_
  refine g_iconst C (v := (nI 1)) (by decide) dX5_doneOne_16 ?_
  refine g_iadd C dX5_doneOne_17 ?_
  refine g_top (y := (nI ((2 * k) + 1))) (nI_add (2 * k) 1) ?_
  refine g_ialdN C ((2 * k) + 1) e_54 (by omega) (by decide) dX5_doneOne_18 ?_
  refine g_top (y := (nI b)) hbb ?_
  refine g_istore_n C (L' := [(3, .int (nI b)), (2, .int (nI a)), (0, .ref (ad w 44)), (1, .int (nI k))]) rfl (by decide) rfl dX5_doneOne_19 ?_
  refine g_aload_n C 2 rfl rfl dX5_doneOne_20 ?_
  refine g_getR C (j := 10) cls5 e_44 rfl (by decide) fl_X5_34 dX5_doneOne_21 ?_
  refine g_iload_n C 3 rfl rfl dX5_doneOne_24 ?_
  refine g_ialdN C k e_53 (by omega) (by decide) dX5_doneOne_25 ?_
  refine g_top (y := (nI 116)) hl ?_
  refine g_tabIn C (off := 130) (tgt := 156) dX5_doneOne_26 (by decide) (by decide) (by decide) (by decide) ?_
  refine g_aload_n C 2 rfl rfl dX5_doneOne_156 ?_
  refine g_iload_n C 1 rfl rfl dX5_doneOne_157 ?_
  refine g_iload_n C 0 rfl rfl dX5_doneOne_158 ?_
  refine g_callV1 [] C (c_X5_doesTimes_bad w tu sg (nI a) (nI b) (fun q => h ⟨Classical.byContradiction (fun z => in_no (x := a) (n := 999999) (by omega) (by decide) z q.1), Classical.byContradiction (fun z => in_no (x := b) (n := 1) (by omega) (by decide) z q.2)⟩)) mt_X5_doesTimes e_44 rfl ml_X5_142 im_X5_doesTimes se_X5_doesTimes (by decide) rfl (Nat.le_of_ble_eq_true rfl) dX5_doneOne_159 ?_
  refine g_eq (L' := [(3, .int (nI b)), (2, .int (nI a)), (0, .ref (ad w 44)), (1, .int (nI k))]) (S' := [.int (-2)]) rfl rfl rfl rfl ?_
  exact g_iret C E dX5_doneOne_162 rfl Sq.rf rfl
set_option maxRecDepth 100000 in
set_option maxHeartbeats 400000 in
theorem c_X5_doneOne_v_z (w : GW) (tu : Int64) (sg : Sg) (k : Nat) (a b : Nat) (hk : k < 60) (hl : sg 53 k = nI 118) (hok : ROk (sg 45)) (hz : gsm (gN (sg 45)) 6 = 0) : Kt w yX5_doneOne cX5_doneOne 4 (some .int) 5 [.ref (ad w 44), .int (nI k)] sg tu (some (.int (-3))) (us sg 50 (fun d => whX ((sg 45) (6 + d)) (dN (sg 45) d + 1))) tu := by
  refine Kt.of2 RX5 rfl [(0, .ref (ad w 44)), (1, .int (nI k))] (by decide) rfl (Nat.le_of_ble_eq_true rfl) (fun z C E => ?_)
  refine g_aload_n C 0 rfl rfl dX5_doneOne_0 ?_
  refine g_getR C (j := 11) cls5 e_44 rfl (by decide) fl_X5_37 dX5_doneOne_1 ?_
  refine g_iconst C (v := (nI 2)) (by decide) dX5_doneOne_4 ?_
  refine g_iload_n C 1 rfl rfl dX5_doneOne_5 ?_
  refine g_imul C dX5_doneOne_6 ?_
  refine g_top (y := (nI (2 * k))) (pk_mul 2 k) ?_
  refine g_ialdN C (2 * k) e_54 (by omega) (by decide) dX5_doneOne_7 ?_
  refine g_istore_n C (L' := [(2, .int (sg 54 (2 * k))), (0, .ref (ad w 44)), (1, .int (nI k))]) rfl (by decide) rfl dX5_doneOne_8 ?_
  refine g_aload_n C 1 rfl rfl dX5_doneOne_9 ?_
  refine g_getR C (j := 11) cls5 e_44 rfl (by decide) fl_X5_37 dX5_doneOne_10 ?_
  refine g_iconst C (v := (nI 2)) (by decide) dX5_doneOne_13 ?_
  refine g_iload_n C 2 rfl rfl dX5_doneOne_14 ?_
  refine g_imul C dX5_doneOne_15 ?_
  refine g_top (y := (nI (2 * k))) (pk_mul 2 k) ?_
  refine g_iconst C (v := (nI 1)) (by decide) dX5_doneOne_16 ?_
  refine g_iadd C dX5_doneOne_17 ?_
  refine g_top (y := (nI ((2 * k) + 1))) (nI_add (2 * k) 1) ?_
  refine g_ialdN C ((2 * k) + 1) e_54 (by omega) (by decide) dX5_doneOne_18 ?_
  refine g_istore_n C (L' := [(3, .int (sg 54 ((2 * k) + 1))), (2, .int (sg 54 (2 * k))), (0, .ref (ad w 44)), (1, .int (nI k))]) rfl (by decide) rfl dX5_doneOne_19 ?_
  refine g_aload_n C 2 rfl rfl dX5_doneOne_20 ?_
  refine g_getR C (j := 10) cls5 e_44 rfl (by decide) fl_X5_34 dX5_doneOne_21 ?_
  refine g_iload_n C 3 rfl rfl dX5_doneOne_24 ?_
  refine g_ialdN C k e_53 (by omega) (by decide) dX5_doneOne_25 ?_
  refine g_top (y := (nI 118)) hl ?_
  refine g_tabIn C (off := 137) (tgt := 163) dX5_doneOne_26 (by decide) (by decide) (by decide) (by decide) ?_
  refine g_aload_n C 2 rfl rfl dX5_doneOne_163 ?_
  refine g_callV1 [] C (c_X5_doesDivide_z w tu sg  hok hz) mt_X5_doesDivide e_44 rfl ml_X5_145 im_X5_doesDivide se_X5_doesDivide (by decide) rfl (Nat.le_of_ble_eq_true rfl) dX5_doneOne_164 ?_
  refine g_eq (sg' := (us sg 50 (fun d => whX ((sg 45) (6 + d)) (dN (sg 45) d + 1)))) (L' := [(3, .int (sg 54 ((2 * k) + 1))), (2, .int (sg 54 (2 * k))), (0, .ref (ad w 44)), (1, .int (nI k))]) (S' := [.int (-3)]) rfl rfl rfl rfl ?_
  exact g_iret C E dX5_doneOne_167 rfl Sq.rf rfl
set_option maxRecDepth 100000 in
set_option maxHeartbeats 400000 in
theorem c_X5_doneOne_v_ok (w : GW) (tu : Int64) (sg : Sg) (k : Nat) (a b : Nat) (hk : k < 60) (hl : sg 53 k = nI 118) (hok : ROk (sg 45)) (hz : ¬ gsm (gN (sg 45)) 6 = 0) (hb : dvB (gN (sg 45)) 7 (ccR (sg 45)) = true) : Kt w yX5_doneOne cX5_doneOne 4 (some .int) 5 [.ref (ad w 44), .int (nI k)] sg tu (some (.int (nI (dvC (gN (sg 45)) 7 (ccR (sg 45)))))) (us (us sg 50 (fun d => whX ((sg 45) (6 + d)) (dN (sg 45) d + 1))) 45 (dvF (gN (sg 45)) 7 (ccR (sg 45)))) tu := by
  refine Kt.of2 RX5 rfl [(0, .ref (ad w 44)), (1, .int (nI k))] (by decide) rfl (Nat.le_of_ble_eq_true rfl) (fun z C E => ?_)
  refine g_aload_n C 0 rfl rfl dX5_doneOne_0 ?_
  refine g_getR C (j := 11) cls5 e_44 rfl (by decide) fl_X5_37 dX5_doneOne_1 ?_
  refine g_iconst C (v := (nI 2)) (by decide) dX5_doneOne_4 ?_
  refine g_iload_n C 1 rfl rfl dX5_doneOne_5 ?_
  refine g_imul C dX5_doneOne_6 ?_
  refine g_top (y := (nI (2 * k))) (pk_mul 2 k) ?_
  refine g_ialdN C (2 * k) e_54 (by omega) (by decide) dX5_doneOne_7 ?_
  refine g_istore_n C (L' := [(2, .int (sg 54 (2 * k))), (0, .ref (ad w 44)), (1, .int (nI k))]) rfl (by decide) rfl dX5_doneOne_8 ?_
  refine g_aload_n C 1 rfl rfl dX5_doneOne_9 ?_
  refine g_getR C (j := 11) cls5 e_44 rfl (by decide) fl_X5_37 dX5_doneOne_10 ?_
  refine g_iconst C (v := (nI 2)) (by decide) dX5_doneOne_13 ?_
  refine g_iload_n C 2 rfl rfl dX5_doneOne_14 ?_
  refine g_imul C dX5_doneOne_15 ?_
  refine g_top (y := (nI (2 * k))) (pk_mul 2 k) ?_
  refine g_iconst C (v := (nI 1)) (by decide) dX5_doneOne_16 ?_
  refine g_iadd C dX5_doneOne_17 ?_
  refine g_top (y := (nI ((2 * k) + 1))) (nI_add (2 * k) 1) ?_
  refine g_ialdN C ((2 * k) + 1) e_54 (by omega) (by decide) dX5_doneOne_18 ?_
  refine g_istore_n C (L' := [(3, .int (sg 54 ((2 * k) + 1))), (2, .int (sg 54 (2 * k))), (0, .ref (ad w 44)), (1, .int (nI k))]) rfl (by decide) rfl dX5_doneOne_19 ?_
  refine g_aload_n C 2 rfl rfl dX5_doneOne_20 ?_
  refine g_getR C (j := 10) cls5 e_44 rfl (by decide) fl_X5_34 dX5_doneOne_21 ?_
  refine g_iload_n C 3 rfl rfl dX5_doneOne_24 ?_
  refine g_ialdN C k e_53 (by omega) (by decide) dX5_doneOne_25 ?_
  refine g_top (y := (nI 118)) hl ?_
  refine g_tabIn C (off := 137) (tgt := 163) dX5_doneOne_26 (by decide) (by decide) (by decide) (by decide) ?_
  refine g_aload_n C 2 rfl rfl dX5_doneOne_163 ?_
  refine g_callV1 [] C (c_X5_doesDivide_ok w tu sg  hok hz hb) mt_X5_doesDivide e_44 rfl ml_X5_145 im_X5_doesDivide se_X5_doesDivide (by decide) rfl (Nat.le_of_ble_eq_true rfl) dX5_doneOne_164 ?_
  refine g_eq (sg' := (us (us sg 50 (fun d => whX ((sg 45) (6 + d)) (dN (sg 45) d + 1))) 45 (dvF (gN (sg 45)) 7 (ccR (sg 45))))) (L' := [(3, .int (sg 54 ((2 * k) + 1))), (2, .int (sg 54 (2 * k))), (0, .ref (ad w 44)), (1, .int (nI k))]) (S' := [.int (nI (dvC (gN (sg 45)) 7 (ccR (sg 45))))]) rfl rfl rfl rfl ?_
  exact g_iret C E dX5_doneOne_167 rfl Sq.rf rfl
set_option maxRecDepth 100000 in
set_option maxHeartbeats 400000 in
theorem c_X5_doneOne_v_no (w : GW) (tu : Int64) (sg : Sg) (k : Nat) (a b : Nat) (hk : k < 60) (hl : sg 53 k = nI 118) (hok : ROk (sg 45)) (hz : ¬ gsm (gN (sg 45)) 6 = 0) (hb : dvB (gN (sg 45)) 7 (ccR (sg 45)) = false) : Kt w yX5_doneOne cX5_doneOne 4 (some .int) 5 [.ref (ad w 44), .int (nI k)] sg tu (some (.int (-3))) (us (us sg 50 (fun d => whX ((sg 45) (6 + d)) (dN (sg 45) d + 1))) 45 (dvF (gN (sg 45)) 7 (ccR (sg 45)))) tu := by
  refine Kt.of2 RX5 rfl [(0, .ref (ad w 44)), (1, .int (nI k))] (by decide) rfl (Nat.le_of_ble_eq_true rfl) (fun z C E => ?_)
  refine g_aload_n C 0 rfl rfl dX5_doneOne_0 ?_
  refine g_getR C (j := 11) cls5 e_44 rfl (by decide) fl_X5_37 dX5_doneOne_1 ?_
  refine g_iconst C (v := (nI 2)) (by decide) dX5_doneOne_4 ?_
  refine g_iload_n C 1 rfl rfl dX5_doneOne_5 ?_
  refine g_imul C dX5_doneOne_6 ?_
  refine g_top (y := (nI (2 * k))) (pk_mul 2 k) ?_
  refine g_ialdN C (2 * k) e_54 (by omega) (by decide) dX5_doneOne_7 ?_
  refine g_istore_n C (L' := [(2, .int (sg 54 (2 * k))), (0, .ref (ad w 44)), (1, .int (nI k))]) rfl (by decide) rfl dX5_doneOne_8 ?_
  refine g_aload_n C 1 rfl rfl dX5_doneOne_9 ?_
  refine g_getR C (j := 11) cls5 e_44 rfl (by decide) fl_X5_37 dX5_doneOne_10 ?_
  refine g_iconst C (v := (nI 2)) (by decide) dX5_doneOne_13 ?_
  refine g_iload_n C 2 rfl rfl dX5_doneOne_14 ?_
  refine g_imul C dX5_doneOne_15 ?_
  refine g_top (y := (nI (2 * k))) (pk_mul 2 k) ?_
  refine g_iconst C (v := (nI 1)) (by decide) dX5_doneOne_16 ?_
  refine g_iadd C dX5_doneOne_17 ?_
  refine g_top (y := (nI ((2 * k) + 1))) (nI_add (2 * k) 1) ?_
  refine g_ialdN C ((2 * k) + 1) e_54 (by omega) (by decide) dX5_doneOne_18 ?_
  refine g_istore_n C (L' := [(3, .int (sg 54 ((2 * k) + 1))), (2, .int (sg 54 (2 * k))), (0, .ref (ad w 44)), (1, .int (nI k))]) rfl (by decide) rfl dX5_doneOne_19 ?_
  refine g_aload_n C 2 rfl rfl dX5_doneOne_20 ?_
  refine g_getR C (j := 10) cls5 e_44 rfl (by decide) fl_X5_34 dX5_doneOne_21 ?_
  refine g_iload_n C 3 rfl rfl dX5_doneOne_24 ?_
  refine g_ialdN C k e_53 (by omega) (by decide) dX5_doneOne_25 ?_
  refine g_top (y := (nI 118)) hl ?_
  refine g_tabIn C (off := 137) (tgt := 163) dX5_doneOne_26 (by decide) (by decide) (by decide) (by decide) ?_
  refine g_aload_n C 2 rfl rfl dX5_doneOne_163 ?_
  refine g_callV1 [] C (c_X5_doesDivide_no w tu sg  hok hz hb) mt_X5_doesDivide e_44 rfl ml_X5_145 im_X5_doesDivide se_X5_doesDivide (by decide) rfl (Nat.le_of_ble_eq_true rfl) dX5_doneOne_164 ?_
  refine g_eq (sg' := (us (us sg 50 (fun d => whX ((sg 45) (6 + d)) (dN (sg 45) d + 1))) 45 (dvF (gN (sg 45)) 7 (ccR (sg 45))))) (L' := [(3, .int (sg 54 ((2 * k) + 1))), (2, .int (sg 54 (2 * k))), (0, .ref (ad w 44)), (1, .int (nI k))]) (S' := [.int (-3)]) rfl rfl rfl rfl ?_
  exact g_iret C E dX5_doneOne_167 rfl Sq.rf rfl
set_option maxRecDepth 100000 in
set_option maxHeartbeats 400000 in
theorem c_X5_doneOne_w_ok (w : GW) (tu : Int64) (sg : Sg) (k : Nat) (a b : Nat) (hk : k < 60) (hl : sg 53 k = nI 119) (ha : sg 54 (2 * k) = nI a) (ha9 : a < 1000000) (hbb : sg 54 (2 * k + 1) = nI b) (hb9 : b < 1000000) (hok : ROk (sg 45)) (h : a < 6 ∧ 1 ≤ b ∧ b ≤ 9) : Kt w yX5_doneOne cX5_doneOne 4 (some .int) 5 [.ref (ad w 44), .int (nI k)] sg tu (some (.int (wmX ((sg 45 (6 + a)) ^^^ (nI 1 <<< ((nI b) &&& 31))) 10))) (us sg 45 (upd (sg 45) (6 + a) ((sg 45 (6 + a)) ^^^ (nI 1 <<< ((nI b) &&& 31))))) tu := by
  refine Kt.of2 RX5 rfl [(0, .ref (ad w 44)), (1, .int (nI k))] (by decide) rfl (Nat.le_of_ble_eq_true rfl) (fun z C E => ?_)
  refine g_aload_n C 0 rfl rfl dX5_doneOne_0 ?_
  refine g_getR C (j := 11) cls5 e_44 rfl (by decide) fl_X5_37 dX5_doneOne_1 ?_
  refine g_iconst C (v := (nI 2)) (by decide) dX5_doneOne_4 ?_
  refine g_iload_n C 1 rfl rfl dX5_doneOne_5 ?_
  refine g_imul C dX5_doneOne_6 ?_
  refine g_top (y := (nI (2 * k))) (pk_mul 2 k) ?_
  refine g_ialdN C (2 * k) e_54 (by omega) (by decide) dX5_doneOne_7 ?_
  refine g_top (y := (nI a)) ha ?_
  refine g_istore_n C (L' := [(2, .int (nI a)), (0, .ref (ad w 44)), (1, .int (nI k))]) rfl (by decide) rfl dX5_doneOne_8 ?_
  refine g_aload_n C 1 rfl rfl dX5_doneOne_9 ?_
  refine g_getR C (j := 11) cls5 e_44 rfl (by decide) fl_X5_37 dX5_doneOne_10 ?_
  refine g_iconst C (v := (nI 2)) (by decide) dX5_doneOne_13 ?_
  refine g_iload_n C 2 rfl rfl dX5_doneOne_14 ?_
  refine g_imul C dX5_doneOne_15 ?_
  refine g_top (y := (nI (2 * k))) (pk_mul 2 k) ?_
  refine g_iconst C (v := (nI 1)) (by decide) dX5_doneOne_16 ?_
  refine g_iadd C dX5_doneOne_17 ?_
  refine g_top (y := (nI ((2 * k) + 1))) (nI_add (2 * k) 1) ?_
  refine g_ialdN C ((2 * k) + 1) e_54 (by omega) (by decide) dX5_doneOne_18 ?_
  refine g_top (y := (nI b)) hbb ?_
  refine g_istore_n C (L' := [(3, .int (nI b)), (2, .int (nI a)), (0, .ref (ad w 44)), (1, .int (nI k))]) rfl (by decide) rfl dX5_doneOne_19 ?_
  refine g_aload_n C 2 rfl rfl dX5_doneOne_20 ?_
  refine g_getR C (j := 10) cls5 e_44 rfl (by decide) fl_X5_34 dX5_doneOne_21 ?_
  refine g_iload_n C 3 rfl rfl dX5_doneOne_24 ?_
  refine g_ialdN C k e_53 (by omega) (by decide) dX5_doneOne_25 ?_
  refine g_top (y := (nI 119)) hl ?_
  refine g_tabIn C (off := 142) (tgt := 168) dX5_doneOne_26 (by decide) (by decide) (by decide) (by decide) ?_
  refine g_aload_n C 2 rfl rfl dX5_doneOne_168 ?_
  refine g_iload_n C 1 rfl rfl dX5_doneOne_169 ?_
  refine g_iload_n C 0 rfl rfl dX5_doneOne_170 ?_
  refine g_callV1 [] C (c_X5_putWorn_ok w tu sg a b h.1 h.2.1 h.2.2) mt_X5_putWorn e_44 rfl ml_X5_132 im_X5_putWorn se_X5_putWorn (by decide) rfl (Nat.le_of_ble_eq_true rfl) dX5_doneOne_171 ?_
  refine g_eq (sg' := (us sg 45 (upd (sg 45) (6 + a) ((sg 45 (6 + a)) ^^^ (nI 1 <<< ((nI b) &&& 31)))))) (L' := [(3, .int (nI b)), (2, .int (nI a)), (0, .ref (ad w 44)), (1, .int (nI k))]) (S' := [.int (wmX ((sg 45 (6 + a)) ^^^ (nI 1 <<< ((nI b) &&& 31))) 10)]) rfl rfl rfl rfl ?_
  exact g_iret C E dX5_doneOne_174 rfl Sq.rf rfl
set_option maxRecDepth 100000 in
set_option maxHeartbeats 400000 in
theorem c_X5_doneOne_w_no (w : GW) (tu : Int64) (sg : Sg) (k : Nat) (a b : Nat) (hk : k < 60) (hl : sg 53 k = nI 119) (ha : sg 54 (2 * k) = nI a) (ha9 : a < 1000000) (hbb : sg 54 (2 * k + 1) = nI b) (hb9 : b < 1000000) (hok : ROk (sg 45)) (h : ¬ (a < 6 ∧ 1 ≤ b ∧ b ≤ 9)) : Kt w yX5_doneOne cX5_doneOne 4 (some .int) 5 [.ref (ad w 44), .int (nI k)] sg tu (some (.int (-2))) sg tu := by
  refine Kt.of2 RX5 rfl [(0, .ref (ad w 44)), (1, .int (nI k))] (by decide) rfl (Nat.le_of_ble_eq_true rfl) (fun z C E => ?_)
  refine g_aload_n C 0 rfl rfl dX5_doneOne_0 ?_
  refine g_getR C (j := 11) cls5 e_44 rfl (by decide) fl_X5_37 dX5_doneOne_1 ?_
  refine g_iconst C (v := (nI 2)) (by decide) dX5_doneOne_4 ?_
  refine g_iload_n C 1 rfl rfl dX5_doneOne_5 ?_
  refine g_imul C dX5_doneOne_6 ?_
  refine g_top (y := (nI (2 * k))) (pk_mul 2 k) ?_
  refine g_ialdN C (2 * k) e_54 (by omega) (by decide) dX5_doneOne_7 ?_
  refine g_top (y := (nI a)) ha ?_
  refine g_istore_n C (L' := [(2, .int (nI a)), (0, .ref (ad w 44)), (1, .int (nI k))]) rfl (by decide) rfl dX5_doneOne_8 ?_
  refine g_aload_n C 1 rfl rfl dX5_doneOne_9 ?_
  refine g_getR C (j := 11) cls5 e_44 rfl (by decide) fl_X5_37 dX5_doneOne_10 ?_
  refine g_iconst C (v := (nI 2)) (by decide) dX5_doneOne_13 ?_
  refine g_iload_n C 2 rfl rfl dX5_doneOne_14 ?_
  refine g_imul C dX5_doneOne_15 ?_
  refine g_top (y := (nI (2 * k))) (pk_mul 2 k) ?_
  refine g_iconst C (v := (nI 1)) (by decide) dX5_doneOne_16 ?_
  refine g_iadd C dX5_doneOne_17 ?_
  refine g_top (y := (nI ((2 * k) + 1))) (nI_add (2 * k) 1) ?_
  refine g_ialdN C ((2 * k) + 1) e_54 (by omega) (by decide) dX5_doneOne_18 ?_
  refine g_top (y := (nI b)) hbb ?_
  refine g_istore_n C (L' := [(3, .int (nI b)), (2, .int (nI a)), (0, .ref (ad w 44)), (1, .int (nI k))]) rfl (by decide) rfl dX5_doneOne_19 ?_
  refine g_aload_n C 2 rfl rfl dX5_doneOne_20 ?_
  refine g_getR C (j := 10) cls5 e_44 rfl (by decide) fl_X5_34 dX5_doneOne_21 ?_
  refine g_iload_n C 3 rfl rfl dX5_doneOne_24 ?_
  refine g_ialdN C k e_53 (by omega) (by decide) dX5_doneOne_25 ?_
  refine g_top (y := (nI 119)) hl ?_
  refine g_tabIn C (off := 142) (tgt := 168) dX5_doneOne_26 (by decide) (by decide) (by decide) (by decide) ?_
  refine g_aload_n C 2 rfl rfl dX5_doneOne_168 ?_
  refine g_iload_n C 1 rfl rfl dX5_doneOne_169 ?_
  refine g_iload_n C 0 rfl rfl dX5_doneOne_170 ?_
  refine g_callV1 [] C (c_X5_putWorn_bad w tu sg (nI a) (nI b) (fun q => h ⟨by have := Classical.byContradiction (fun z => in_no (x := a) (n := 5) (by omega) (by decide) z q.1); omega, Classical.byContradiction (fun z => in_no1 (x := b) (n := 9) (by omega) (by decide) z q.2)⟩)) mt_X5_putWorn e_44 rfl ml_X5_132 im_X5_putWorn se_X5_putWorn (by decide) rfl (Nat.le_of_ble_eq_true rfl) dX5_doneOne_171 ?_
  refine g_eq (L' := [(3, .int (nI b)), (2, .int (nI a)), (0, .ref (ad w 44)), (1, .int (nI k))]) (S' := [.int (-2)]) rfl rfl rfl rfl ?_
  exact g_iret C E dX5_doneOne_174 rfl Sq.rf rfl
