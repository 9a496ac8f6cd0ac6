theorem i_cnc (a b : Int32) : a + b - a = b := by
  apply Int32.toBitVec_inj.mp
  show a.toBitVec + b.toBitVec - a.toBitVec = b.toBitVec
  rw [BitVec.add_comm, BitVec.add_sub_cancel]
theorem rowC_wr {sg : Sg} {w : Nat} {F : Nat → Int32} : rowC (wrR sg w F) w = F := by
  funext j
  unfold rowC
  split
  · rw [wrR_1]
  · split
    · rw [wrR_2]; show F (6 + (j - 6)) = F j; congr 1; omega
    · split
      · rw [wrR_3]; show F (12 + (j - 12)) = F j; congr 1; omega
      · split
        · rw [wrR_4]; show F (24 + (j - 24)) = F j; congr 1; omega
        · rw [wrR_0]
          show (if j - 27 < 4 then _ else F (27 + (j - 27))) = F j
          rw [if_neg (by omega)]
          congr 1
          omega
theorem wrR_wrR {sg : Sg} {w : Nat} {F F' : Nat → Int32} : wrR (wrR sg w F) w F' = wrR sg w F' := by
  funext k
  by_cases k0 : k = w
  · subst k0
    rw [wrR_0, wrR_0, wrR_0]
    funext j
    show (if j < 4 then (if j < 4 then _ else _) else _) = _
    by_cases h : j < 4
    · rw [if_pos h, if_pos h, if_pos h]
    · rw [if_neg h, if_neg h]
  · by_cases k1 : k = w + 1
    · subst k1; rw [wrR_1, wrR_1]
    · by_cases k2 : k = w + 2
      · subst k2; rw [wrR_2, wrR_2]
      · by_cases k3 : k = w + 3
        · subst k3; rw [wrR_3, wrR_3]
        · by_cases k4 : k = w + 4
          · subst k4; rw [wrR_4, wrR_4]
          · rw [wrR_n (by omega), wrR_n (by omega), wrR_n (by omega)]
theorem wr_id {sg : Sg} : Sq sg (wrR sg 1 (rowC sg 1)) :=
  Sq.wr isW_1 (fun j _ => fld_id (sg := sg) (w := 1) j) (fun j hj => (rowC_d (sg := sg) (w := 1) hj).symm) (fun j hj => (rowC_o (sg := sg) (w := 1) hj).symm) (fun j hj => (rowC_w (sg := sg) (w := 1) hj).symm) (fun j hj => (rowC_c (sg := sg) (w := 1) hj).symm) (fun _ _ => rfl)
theorem crj_g {up : Bool} {wh g g' : Nat → Nat} {s last : Nat} (h : ∀ d, d < 6 → g d = g' d) : ∀ j, crj up wh g s last j = crj up wh g' s last j
  | 0 => rfl
  | j + 1 => by
    show cry up (wh (s + j)) ((if j < 6 then g j else 0) + _) = cry up (wh (s + j)) ((if j < 6 then g' j else 0) + _)
    rw [crj_g h j]
    by_cases hj : j < 6
    · rw [if_pos hj, if_pos hj, h j hj]
    · rw [if_neg hj, if_neg hj]
theorem tw_g {up : Bool} {wh g g' : Nat → Nat} {s last : Nat} (h : ∀ d, d < 6 → g d = g' d) : tw up wh g s last = tw up wh g' s last := by
  funext k
  unfold tw adj
  rw [crj_g h (k - s)]
  by_cases hj : k - s < 6
  · rw [if_pos hj, if_pos hj, h _ hj]
  · rw [if_neg hj, if_neg hj]
theorem bl_g {up : Bool} {wh g g' : Nat → Nat} {s last : Nat} (h : ∀ d, d < 6 → g d = g' d) : blP up wh g s last ↔ blP up wh g' s last := by
  show (crj _ _ _ _ _ _ = 1 ∧ _) ↔ _
  rw [crj_g h]
theorem bI_iff {P Q : Prop} [Decidable P] [Decidable Q] (h : P ↔ Q) : bI P = bI Q := by
  by_cases hp : P
  · rw [bI_t hp, bI_t (h.mp hp)]
  · rw [bI_f hp, bI_f (fun q => hp (h.mpr q))]
theorem tR_g {up : Bool} {cts : Int32} {g g' : Nat → Nat} {f : Nat → Int32} (h : ∀ d, d < 6 → g d = g' d) : tR up cts g f = tR up cts g' f := by
  unfold tR
  rw [tw_g h, bI_iff (bl_g (up := up) (wh := wN f) (s := sN f) (last := sN f + 5 + reN f) h)]
theorem gN_lo {f f' : Nat → Int32} (h : ∀ j, j < 12 → f j = f' j) {d : Nat} (hd : d < 6) : gN f d = gN f' d := by
  unfold gN dN
  rw [h (6 + d) (by omega), h d (by omega)]
/-- one TURN of the works that hold the row F -/
theorem tn_1 {up : Bool} {cts : Int32} {sg : Sg} {F : Nat → Int32} {g : Nat → Nat} (h : ∀ d, d < 6 → gN F d = g d) : wrR (wrR sg 1 F) 1 (tR up cts (gN (rowC (wrR sg 1 F) 1)) (rowC (wrR sg 1 F) 1)) = wrR sg 1 (tR up cts g F) := by
  rw [wrR_wrR, rowC_wr, tR_g h]
theorem tb_1 {up : Bool} {sg : Sg} {F : Nat → Int32} {g : Nat → Nat} (h : ∀ d, d < 6 → gN F d = g d) : blP up (wN (rowC (wrR sg 1 F) 1)) (gN (rowC (wrR sg 1 F) 1)) (sN (rowC (wrR sg 1 F) 1)) (sN (rowC (wrR sg 1 F) 1) + 5 + reN (rowC (wrR sg 1 F) 1)) ↔ blP up (wN F) g (sN F) (sN F + 5 + reN F) := by
  rw [rowC_wr]
  exact bl_g h
set_option maxRecDepth 100000 in
set_option maxHeartbeats 400000 in
theorem c_X3_turnOften_up (w : GW) (tu : Int64) (sg : Sg) (n : Nat) (hn1 : 1 ≤ n) (hn : n ≤ 99) (hok : ROk (rowC sg 1)) : Kt w yX3_turnOften cX3_turnOften 5 (some .int) 3 [.ref (ad w 1), .int (nI n), .int (nI 1)] sg tu (some (.int (rgs true (nI 1) (gN (rowC sg 1)) (rowC sg 1) n))) (wrR sg 1 (itR true (nI 1) (gN (rowC sg 1)) n (rowC sg 1))) tu := by
  refine Kt.of2 RX3 rfl [(0, .ref (ad w 1)), (1, .int (nI n)), (2, .int (nI 1))] (by decide) rfl (Nat.le_of_ble_eq_true rfl) (fun z C E => ?_)
  refine g_iload_n C 1 rfl rfl dX3_turnOften_0 ?_
  refine g_i2l C dX3_turnOften_1 ?_
  refine g_lconst C (v := 1) (by decide) dX3_turnOften_2 ?_
  refine g_ldc2 C cn_X3_79 dX3_turnOften_3 ?_
  refine g_callN1 [] C (c_X4_within_t w tu sg (Int32.toInt64 (nI n)) 1 99 (in_ok1 (n := 99) (by omega) (by omega) (by decide))) mt_X4_within nl_X3_45 st_X4_within (by decide) rfl (Nat.le_of_ble_eq_true rfl) dX3_turnOften_6 ?_
  refine g_eq (L' := [(0, .ref (ad w 1)), (1, .int (nI n)), (2, .int (nI 1))]) (S' := [.int (nI 1)]) rfl rfl rfl rfl ?_
  refine g_if_ne C (tgt := 15) (by decide) dX3_turnOften_9 (fun h9 => ?_) (fun h9 => absurd h9 (by decide))
  refine g_aload_n C 0 rfl rfl dX3_turnOften_15 ?_
  refine g_getI C (j := 6) cls3 e_1 rfl (by decide) fl_X3_31 dX3_turnOften_16 ?_
  refine g_istore_n C (L' := [(3, .int (sg 1 6)), (0, .ref (ad w 1)), (1, .int (nI n)), (2, .int (nI 1))]) rfl (by decide) rfl dX3_turnOften_19 ?_
  refine g_iconst C (v := (nI 0)) (by decide) dX3_turnOften_20 ?_
  refine g_istore C (L' := [(4, .int (nI 0)), (3, .int (sg 1 6)), (0, .ref (ad w 1)), (1, .int (nI n)), (2, .int (nI 1))]) (by decide) rfl dX3_turnOften_21 ?_
  refine g_sq (sg' := wrR sg 1 (rowC sg 1)) wr_id ?_
  have lp : ∀ (nf i : Nat), n < i + nf → i ≤ n → (True) → G z w 5 (wrR sg 1 (itR true (nI 1) (gN (rowC sg 1)) i (rowC sg 1))) tu 23 [(4, .int (nI i)), (3, .int (sg 1 6)), (0, .ref (ad w 1)), (1, .int (nI n)), (2, .int (nI 1))] [] := by
    intro nf
    induction nf with
    | zero => intro i  h1 h2 hI; exact absurd h1 (by omega)
    | succ nf ihlp =>
      intro i  h1 h2 hI
      refine g_iload C 0 rfl dX3_turnOften_23 ?_
      refine g_iload_n C 3 rfl rfl dX3_turnOften_25 ?_
      refine g_icmpN_ge C i n (by omega) (by omega) (tgt := 42) (by decide) dX3_turnOften_26 (fun h26 => ?_) (fun h26 => ?_)
      ·
        have hiN : n = i := by omega
        subst hiN
        refine g_aload_n C 2 rfl rfl dX3_turnOften_42 ?_
        refine g_getI C (j := 6) cls3 e_1 rfl (by decide) fl_X3_31 dX3_turnOften_43 ?_
        refine g_iload_n C 1 rfl rfl dX3_turnOften_46 ?_
        refine g_isub C dX3_turnOften_47 ?_
        exact g_iret C E dX3_turnOften_48 (by show (itR true (nI 1) (gN (rowC sg 1)) n (rowC sg 1)) 33 - sg 1 6 = _; rw [itR_33 hok (fun _ h => (gN_ok hok h).2), show rowC sg 1 33 = sg 1 6 from rowC_f (sg := sg) (w := 1) (j := 6) (by omega)]; exact i_cnc _ _) Sq.rf rfl
      ·
        refine g_aload_n C 2 rfl rfl dX3_turnOften_29 ?_
        refine g_iload_n C 4 rfl rfl dX3_turnOften_30 ?_
        refine g_iload_n C 4 rfl rfl dX3_turnOften_31 ?_
        refine g_callV1 [] C (c_X3_turnOnce_up w tu (wrR sg 1 (itR true (nI 1) (gN (rowC sg 1)) i (rowC sg 1))) (nI 1) (by rw [rowC_wr]; exact itR_ok hok (fun _ h => (gN_ok hok h).2) i)) mt_X3_turnOnce e_1 rfl ml_X3_81 im_X3_turnOnce se_X3_turnOnce (by decide) rfl (Nat.le_of_ble_eq_true rfl) dX3_turnOften_32 ?_
        refine g_eq (sg' := (wrR (wrR sg 1 (itR true (nI 1) (gN (rowC sg 1)) i (rowC sg 1))) 1 (tR true (nI 1) (gN (rowC (wrR sg 1 (itR true (nI 1) (gN (rowC sg 1)) i (rowC sg 1))) 1)) (rowC (wrR sg 1 (itR true (nI 1) (gN (rowC sg 1)) i (rowC sg 1))) 1)))) (L' := [(4, .int (nI i)), (3, .int (sg 1 6)), (0, .ref (ad w 1)), (1, .int (nI n)), (2, .int (nI 1))]) (S' := [.int (bI (blP true (wN (rowC (wrR sg 1 (itR true (nI 1) (gN (rowC sg 1)) i (rowC sg 1))) 1)) (gN (rowC (wrR sg 1 (itR true (nI 1) (gN (rowC sg 1)) i (rowC sg 1))) 1)) (sN (rowC (wrR sg 1 (itR true (nI 1) (gN (rowC sg 1)) i (rowC sg 1))) 1)) (sN (rowC (wrR sg 1 (itR true (nI 1) (gN (rowC sg 1)) i (rowC sg 1))) 1) + 5 + reN (rowC (wrR sg 1 (itR true (nI 1) (gN (rowC sg 1)) i (rowC sg 1))) 1))))]) rfl rfl rfl rfl ?_
        refine g_pop C rfl dX3_turnOften_35 ?_
        refine g_iinc C (n := 1) (v := (nI (i + 1))) (L' := [(4, .int (nI (i + 1))), (3, .int (sg 1 6)), (0, .ref (ad w 1)), (1, .int (nI n)), (2, .int (nI 1))]) 0 rfl (nI_add i 1) (by decide) rfl dX3_turnOften_36 ?_
        refine g_goto C (tgt := 23) (by decide) dX3_turnOften_39 ?_
        refine g_sub (L' := [(4, .int (nI (i + 1))), (3, .int (sg 1 6)), (0, .ref (ad w 1)), (1, .int (nI n)), (2, .int (nI 1))]) [0, 1, 2, 3, 4] rfl ?_
        refine g_sgE (sg' := (wrR sg 1 (itR true (nI 1) (gN (rowC sg 1)) (i + 1) (rowC sg 1)))) (tn_1 (fun d hd => gN_lo (fun j hj => itR_lo hj i) hd)) ?_
        exact ihlp (i + 1)  (by omega) (by omega) trivial
  refine g_sgE (sg' := (wrR sg 1 (itR true (nI 1) (gN (rowC sg 1)) 0 (rowC sg 1)))) rfl ?_
  exact lp (n + 1) 0  (by omega) (by omega) trivial
set_option maxRecDepth 100000 in
set_option maxHeartbeats 400000 in
theorem c_X3_turnOften_up_bad (w : GW) (tu : Int64) (sg : Sg) (v : Int32) (h : ¬ (1 ≤ Int32.toInt64 v ∧ Int32.toInt64 v ≤ 99)) : Kt w yX3_turnOften cX3_turnOften 5 (some .int) 1 [.ref (ad w 1), .int v, .int (nI 1)] sg tu (some (.int (-2))) sg tu := by
  refine Kt.of2 RX3 rfl [(0, .ref (ad w 1)), (1, .int v), (2, .int (nI 1))] (by decide) rfl (Nat.le_of_ble_eq_true rfl) (fun z C E => ?_)
  refine g_iload_n C 1 rfl rfl dX3_turnOften_0 ?_
  refine g_i2l C dX3_turnOften_1 ?_
  refine g_lconst C (v := 1) (by decide) dX3_turnOften_2 ?_
  refine g_ldc2 C cn_X3_79 dX3_turnOften_3 ?_
  refine g_callN1 [] C (c_X4_within w tu sg (Int32.toInt64 v) 1 99 ) mt_X4_within nl_X3_45 st_X4_within (by decide) rfl (Nat.le_of_ble_eq_true rfl) dX3_turnOften_6 ?_
  refine g_eq (L' := [(0, .ref (ad w 1)), (1, .int v), (2, .int (nI 1))]) (S' := [.int (bI (1 ≤ (Int32.toInt64 v) ∧ (Int32.toInt64 v) ≤ 99))]) rfl rfl rfl rfl ?_
  refine g_bif_ne C (tgt := 15) (by decide) dX3_turnOften_9 (fun h9 => absurd h9 h) (fun h9 => ?_)
  refine g_bipush C (v := (-2)) (by decide) dX3_turnOften_12 ?_
  exact g_iret C E dX3_turnOften_14 rfl Sq.rf rfl
set_option maxRecDepth 100000 in
set_option maxHeartbeats 400000 in
theorem c_X3_turnOften_dn (w : GW) (tu : Int64) (sg : Sg) (n : Nat) (hn1 : 1 ≤ n) (hn : n ≤ 99) (hok : ROk (rowC sg 1)) : Kt w yX3_turnOften cX3_turnOften 5 (some .int) 3 [.ref (ad w 1), .int (nI n), .int (-1)] sg tu (some (.int (rgs false (-1) (gN (rowC sg 1)) (rowC sg 1) n))) (wrR sg 1 (itR false (-1) (gN (rowC sg 1)) n (rowC sg 1))) tu := by
  refine Kt.of2 RX3 rfl [(0, .ref (ad w 1)), (1, .int (nI n)), (2, .int (-1))] (by decide) rfl (Nat.le_of_ble_eq_true rfl) (fun z C E => ?_)
  refine g_iload_n C 1 rfl rfl dX3_turnOften_0 ?_
  refine g_i2l C dX3_turnOften_1 ?_
  refine g_lconst C (v := 1) (by decide) dX3_turnOften_2 ?_
  refine g_ldc2 C cn_X3_79 dX3_turnOften_3 ?_
  refine g_callN1 [] C (c_X4_within_t w tu sg (Int32.toInt64 (nI n)) 1 99 (in_ok1 (n := 99) (by omega) (by omega) (by decide))) mt_X4_within nl_X3_45 st_X4_within (by decide) rfl (Nat.le_of_ble_eq_true rfl) dX3_turnOften_6 ?_
  refine g_eq (L' := [(0, .ref (ad w 1)), (1, .int (nI n)), (2, .int (-1))]) (S' := [.int (nI 1)]) rfl rfl rfl rfl ?_
  refine g_if_ne C (tgt := 15) (by decide) dX3_turnOften_9 (fun h9 => ?_) (fun h9 => absurd h9 (by decide))
  refine g_aload_n C 0 rfl rfl dX3_turnOften_15 ?_
  refine g_getI C (j := 6) cls3 e_1 rfl (by decide) fl_X3_31 dX3_turnOften_16 ?_
  refine g_istore_n C (L' := [(3, .int (sg 1 6)), (0, .ref (ad w 1)), (1, .int (nI n)), (2, .int (-1))]) rfl (by decide) rfl dX3_turnOften_19 ?_
  refine g_iconst C (v := (nI 0)) (by decide) dX3_turnOften_20 ?_
  refine g_istore C (L' := [(4, .int (nI 0)), (3, .int (sg 1 6)), (0, .ref (ad w 1)), (1, .int (nI n)), (2, .int (-1))]) (by decide) rfl dX3_turnOften_21 ?_
  refine g_sq (sg' := wrR sg 1 (rowC sg 1)) wr_id ?_
  have lp : ∀ (nf i : Nat), n < i + nf → i ≤ n → (True) → G z w 5 (wrR sg 1 (itR false (-1) (gN (rowC sg 1)) i (rowC sg 1))) tu 23 [(4, .int (nI i)), (3, .int (sg 1 6)), (0, .ref (ad w 1)), (1, .int (nI n)), (2, .int (-1))] [] := by
    intro nf
    induction nf with
    | zero => intro i  h1 h2 hI; exact absurd h1 (by omega)
    | succ nf ihlp =>
      intro i  h1 h2 hI
      refine g_iload C 0 rfl dX3_turnOften_23 ?_
      refine g_iload_n C 3 rfl rfl dX3_turnOften_25 ?_
      refine g_icmpN_ge C i n (by omega) (by omega) (tgt := 42) (by decide) dX3_turnOften_26 (fun h26 => ?_) (fun h26 => ?_)
      ·
        have hiN : n = i := by omega
        subst hiN
        refine g_aload_n C 2 rfl rfl dX3_turnOften_42 ?_
        refine g_getI C (j := 6) cls3 e_1 rfl (by decide) fl_X3_31 dX3_turnOften_43 ?_
        refine g_iload_n C 1 rfl rfl dX3_turnOften_46 ?_
        refine g_isub C dX3_turnOften_47 ?_
        exact g_iret C E dX3_turnOften_48 (by show (itR false (-1) (gN (rowC sg 1)) n (rowC sg 1)) 33 - sg 1 6 = _; rw [itR_33 hok (fun _ h => (gN_ok hok h).2), show rowC sg 1 33 = sg 1 6 from rowC_f (sg := sg) (w := 1) (j := 6) (by omega)]; exact i_cnc _ _) Sq.rf rfl
      ·
        refine g_aload_n C 2 rfl rfl dX3_turnOften_29 ?_
        refine g_iload_n C 4 rfl rfl dX3_turnOften_30 ?_
        refine g_iload_n C 4 rfl rfl dX3_turnOften_31 ?_
        refine g_callV1 [] C (c_X3_turnOnce_dn w tu (wrR sg 1 (itR false (-1) (gN (rowC sg 1)) i (rowC sg 1))) (-1) (by rw [rowC_wr]; exact itR_ok hok (fun _ h => (gN_ok hok h).2) i)) mt_X3_turnOnce e_1 rfl ml_X3_81 im_X3_turnOnce se_X3_turnOnce (by decide) rfl (Nat.le_of_ble_eq_true rfl) dX3_turnOften_32 ?_
        refine g_eq (sg' := (wrR (wrR sg 1 (itR false (-1) (gN (rowC sg 1)) i (rowC sg 1))) 1 (tR false (-1) (gN (rowC (wrR sg 1 (itR false (-1) (gN (rowC sg 1)) i (rowC sg 1))) 1)) (rowC (wrR sg 1 (itR false (-1) (gN (rowC sg 1)) i (rowC sg 1))) 1)))) (L' := [(4, .int (nI i)), (3, .int (sg 1 6)), (0, .ref (ad w 1)), (1, .int (nI n)), (2, .int (-1))]) (S' := [.int (bI (blP false (wN (rowC (wrR sg 1 (itR false (-1) (gN (rowC sg 1)) i (rowC sg 1))) 1)) (gN (rowC (wrR sg 1 (itR false (-1) (gN (rowC sg 1)) i (rowC sg 1))) 1)) (sN (rowC (wrR sg 1 (itR false (-1) (gN (rowC sg 1)) i (rowC sg 1))) 1)) (sN (rowC (wrR sg 1 (itR false (-1) (gN (rowC sg 1)) i (rowC sg 1))) 1) + 5 + reN (rowC (wrR sg 1 (itR false (-1) (gN (rowC sg 1)) i (rowC sg 1))) 1))))]) rfl rfl rfl rfl ?_
        refine g_pop C rfl dX3_turnOften_35 ?_
        refine g_iinc C (n := 1) (v := (nI (i + 1))) (L' := [(4, .int (nI (i + 1))), (3, .int (sg 1 6)), (0, .ref (ad w 1)), (1, .int (nI n)), (2, .int (-1))]) 0 rfl (nI_add i 1) (by decide) rfl dX3_turnOften_36 ?_
        refine g_goto C (tgt := 23) (by decide) dX3_turnOften_39 ?_
        refine g_sub (L' := [(4, .int (nI (i + 1))), (3, .int (sg 1 6)), (0, .ref (ad w 1)), (1, .int (nI n)), (2, .int (-1))]) [0, 1, 2, 3, 4] rfl ?_
        refine g_sgE (sg' := (wrR sg 1 (itR false (-1) (gN (rowC sg 1)) (i + 1) (rowC sg 1)))) (tn_1 (fun d hd => gN_lo (fun j hj => itR_lo hj i) hd)) ?_
        exact ihlp (i + 1)  (by omega) (by omega) trivial
  refine g_sgE (sg' := (wrR sg 1 (itR false (-1) (gN (rowC sg 1)) 0 (rowC sg 1)))) rfl ?_
  exact lp (n + 1) 0  (by omega) (by omega) trivial
set_option maxRecDepth 100000 in
set_option maxHeartbeats 400000 in
theorem c_X3_turnOften_dn_bad (w : GW) (tu : Int64) (sg : Sg) (v : Int32) (h : ¬ (1 ≤ Int32.toInt64 v ∧ Int32.toInt64 v ≤ 99)) : Kt w yX3_turnOften cX3_turnOften 5 (some .int) 1 [.ref (ad w 1), .int v, .int (-1)] sg tu (some (.int (-2))) sg tu := by
  refine Kt.of2 RX3 rfl [(0, .ref (ad w 1)), (1, .int v), (2, .int (-1))] (by decide) rfl (Nat.le_of_ble_eq_true rfl) (fun z C E => ?_)
  refine g_iload_n C 1 rfl rfl dX3_turnOften_0 ?_
  refine g_i2l C dX3_turnOften_1 ?_
  refine g_lconst C (v := 1) (by decide) dX3_turnOften_2 ?_
  refine g_ldc2 C cn_X3_79 dX3_turnOften_3 ?_
  refine g_callN1 [] C (c_X4_within w tu sg (Int32.toInt64 v) 1 99 ) mt_X4_within nl_X3_45 st_X4_within (by decide) rfl (Nat.le_of_ble_eq_true rfl) dX3_turnOften_6 ?_
  refine g_eq (L' := [(0, .ref (ad w 1)), (1, .int v), (2, .int (-1))]) (S' := [.int (bI (1 ≤ (Int32.toInt64 v) ∧ (Int32.toInt64 v) ≤ 99))]) rfl rfl rfl rfl ?_
  refine g_bif_ne C (tgt := 15) (by decide) dX3_turnOften_9 (fun h9 => absurd h9 h) (fun h9 => ?_)
  refine g_bipush C (v := (-2)) (by decide) dX3_turnOften_12 ?_
  exact g_iret C E dX3_turnOften_14 rfl Sq.rf rfl
