set_option maxRecDepth 100000 in
set_option maxHeartbeats 400000 in
theorem c_X3_tellDrum_0 (w : GW) (tu : Int64) (sg : Sg) (d : Nat) (hd : d < 6) (hok : ROk (rowC sg 1)) : Kt w yX3_tellDrum cX3_tellDrum 3 (some .int) 1 [.ref (ad w 1), .int (nI d), .int (nI 0)] sg tu (some (.int ((rowC sg 1) d))) sg tu := by
  refine Kt.of2 RX3 rfl [(0, .ref (ad w 1)), (1, .int (nI d)), (2, .int (nI 0))] (by decide) rfl (Nat.le_of_ble_eq_true rfl) (fun z C E => ?_)
  refine g_iload_n C 1 rfl rfl dX3_tellDrum_0 ?_
  refine g_i2l C dX3_tellDrum_1 ?_
  refine g_lconst C (v := 0) (by decide) dX3_tellDrum_2 ?_
  refine g_ldc2 C cn_X3_43 dX3_tellDrum_3 ?_
  refine g_callN1 [] C (c_X4_within_t w tu sg (Int32.toInt64 (nI d)) 0 5 (in_ok (n := 5) (by omega) (by decide))) mt_X4_within nl_X3_45 st_X4_within (by decide) rfl (Nat.le_of_ble_eq_true rfl) dX3_tellDrum_6 ?_
  refine g_eq (L' := [(0, .ref (ad w 1)), (1, .int (nI d)), (2, .int (nI 0))]) (S' := [.int (nI 1)]) rfl rfl rfl rfl ?_
  refine g_if_ne C (tgt := 15) (by decide) dX3_tellDrum_9 (fun h9 => ?_) (fun h9 => absurd h9 (by decide))
  refine g_iload_n C 2 rfl rfl dX3_tellDrum_15 ?_
  refine g_tabIn C (off := 28) (tgt := 44) dX3_tellDrum_16 (by decide) (by decide) (by decide) (by decide) ?_
  refine g_aload_n C 0 rfl rfl dX3_tellDrum_44 ?_
  refine g_getR C (j := 0) cls3 e_1 rfl (by decide) fl_X3_9 dX3_tellDrum_45 ?_
  refine g_iload_n C 1 rfl rfl dX3_tellDrum_48 ?_
  refine g_ialdN C d e_2 (by omega) (by decide) dX3_tellDrum_49 ?_
  exact g_iret C E dX3_tellDrum_50 (rowC_d (sg := sg) (w := 1) hd).symm Sq.rf rfl
set_option maxRecDepth 100000 in
set_option maxHeartbeats 400000 in
theorem c_X3_tellDrum_1 (w : GW) (tu : Int64) (sg : Sg) (d : Nat) (hd : d < 6) (hok : ROk (rowC sg 1)) : Kt w yX3_tellDrum cX3_tellDrum 3 (some .int) 2 [.ref (ad w 1), .int (nI d), .int (nI 1)] sg tu (some (.int (nI (gN (rowC sg 1) d)))) sg tu := by
  refine Kt.of2 RX3 rfl [(0, .ref (ad w 1)), (1, .int (nI d)), (2, .int (nI 1))] (by decide) rfl (Nat.le_of_ble_eq_true rfl) (fun z C E => ?_)
  refine g_iload_n C 1 rfl rfl dX3_tellDrum_0 ?_
  refine g_i2l C dX3_tellDrum_1 ?_
  refine g_lconst C (v := 0) (by decide) dX3_tellDrum_2 ?_
  refine g_ldc2 C cn_X3_43 dX3_tellDrum_3 ?_
  refine g_callN1 [] C (c_X4_within_t w tu sg (Int32.toInt64 (nI d)) 0 5 (in_ok (n := 5) (by omega) (by decide))) mt_X4_within nl_X3_45 st_X4_within (by decide) rfl (Nat.le_of_ble_eq_true rfl) dX3_tellDrum_6 ?_
  refine g_eq (L' := [(0, .ref (ad w 1)), (1, .int (nI d)), (2, .int (nI 1))]) (S' := [.int (nI 1)]) rfl rfl rfl rfl ?_
  refine g_if_ne C (tgt := 15) (by decide) dX3_tellDrum_9 (fun h9 => ?_) (fun h9 => absurd h9 (by decide))
  refine g_iload_n C 2 rfl rfl dX3_tellDrum_15 ?_
  refine g_tabIn C (off := 35) (tgt := 51) dX3_tellDrum_16 (by decide) (by decide) (by decide) (by decide) ?_
  refine g_aload_n C 0 rfl rfl dX3_tellDrum_51 ?_
  refine g_iload_n C 1 rfl rfl dX3_tellDrum_52 ?_
  refine g_callV1 [] C (c_X3_given w tu sg d (dN (rowC sg 1) d) (oN (rowC sg 1) d) (by omega) ((rowC_d (sg := sg) (w := 1) (by omega)).symm.trans (hok.1 d (by omega)).1) (hok.1 d (by omega)).2 ((rowC_o (sg := sg) (w := 1) (by omega)).symm.trans (hok.2.1 d (by omega)).1) (hok.2.1 d (by omega)).2.1 (hok.2.1 d (by omega)).2.2) mt_X3_given e_1 rfl ml_X3_114 im_X3_given se_X3_given (by decide) rfl (Nat.le_of_ble_eq_true rfl) dX3_tellDrum_53 ?_
  refine g_eq (L' := [(0, .ref (ad w 1)), (1, .int (nI d)), (2, .int (nI 1))]) (S' := [.int (whX (nI (oN (rowC sg 1) d)) ((dN (rowC sg 1) d) + 1))]) rfl rfl rfl rfl ?_
  exact g_iret C E dX3_tellDrum_56 (gN_C hok hd) Sq.rf rfl
set_option maxRecDepth 100000 in
set_option maxHeartbeats 400000 in
theorem c_X3_tellDrum_2 (w : GW) (tu : Int64) (sg : Sg) (d : Nat) (hd : d < 6) (hok : ROk (rowC sg 1)) : Kt w yX3_tellDrum cX3_tellDrum 3 (some .int) 1 [.ref (ad w 1), .int (nI d), .int (nI 2)] sg tu (some (.int ((rowC sg 1) (6 + d)))) sg tu := by
  refine Kt.of2 RX3 rfl [(0, .ref (ad w 1)), (1, .int (nI d)), (2, .int (nI 2))] (by decide) rfl (Nat.le_of_ble_eq_true rfl) (fun z C E => ?_)
  refine g_iload_n C 1 rfl rfl dX3_tellDrum_0 ?_
  refine g_i2l C dX3_tellDrum_1 ?_
  refine g_lconst C (v := 0) (by decide) dX3_tellDrum_2 ?_
  refine g_ldc2 C cn_X3_43 dX3_tellDrum_3 ?_
  refine g_callN1 [] C (c_X4_within_t w tu sg (Int32.toInt64 (nI d)) 0 5 (in_ok (n := 5) (by omega) (by decide))) mt_X4_within nl_X3_45 st_X4_within (by decide) rfl (Nat.le_of_ble_eq_true rfl) dX3_tellDrum_6 ?_
  refine g_eq (L' := [(0, .ref (ad w 1)), (1, .int (nI d)), (2, .int (nI 2))]) (S' := [.int (nI 1)]) rfl rfl rfl rfl ?_
  refine g_if_ne C (tgt := 15) (by decide) dX3_tellDrum_9 (fun h9 => ?_) (fun h9 => absurd h9 (by decide))
  refine g_iload_n C 2 rfl rfl dX3_tellDrum_15 ?_
  refine g_tabIn C (off := 41) (tgt := 57) dX3_tellDrum_16 (by decide) (by decide) (by decide) (by decide) ?_
  refine g_aload_n C 0 rfl rfl dX3_tellDrum_57 ?_
  refine g_getR C (j := 1) cls3 e_1 rfl (by decide) fl_X3_15 dX3_tellDrum_58 ?_
  refine g_iload_n C 1 rfl rfl dX3_tellDrum_61 ?_
  refine g_ialdN C d e_3 (by omega) (by decide) dX3_tellDrum_62 ?_
  exact g_iret C E dX3_tellDrum_63 (rowC_o (sg := sg) (w := 1) hd).symm Sq.rf rfl
set_option maxRecDepth 100000 in
set_option maxHeartbeats 400000 in
theorem c_X3_tellDrum_bad (w : GW) (tu : Int64) (sg : Sg) (x : Int32) (v : Int32) (h : ¬ (0 ≤ Int32.toInt64 x ∧ Int32.toInt64 x ≤ 5)) : Kt w yX3_tellDrum cX3_tellDrum 3 (some .int) 1 [.ref (ad w 1), .int x, .int v] sg tu (some (.int (-2))) sg tu := by
  refine Kt.of2 RX3 rfl [(0, .ref (ad w 1)), (1, .int x), (2, .int v)] (by decide) rfl (Nat.le_of_ble_eq_true rfl) (fun z C E => ?_)
  refine g_iload_n C 1 rfl rfl dX3_tellDrum_0 ?_
  refine g_i2l C dX3_tellDrum_1 ?_
  refine g_lconst C (v := 0) (by decide) dX3_tellDrum_2 ?_
  refine g_ldc2 C cn_X3_43 dX3_tellDrum_3 ?_
  refine g_callN1 [] C (c_X4_within w tu sg (Int32.toInt64 x) 0 5 ) mt_X4_within nl_X3_45 st_X4_within (by decide) rfl (Nat.le_of_ble_eq_true rfl) dX3_tellDrum_6 ?_
  refine g_eq (L' := [(0, .ref (ad w 1)), (1, .int x), (2, .int v)]) (S' := [.int (bI (0 ≤ (Int32.toInt64 x) ∧ (Int32.toInt64 x) ≤ 5))]) rfl rfl rfl rfl ?_
  refine g_bif_ne C (tgt := 15) (by decide) dX3_tellDrum_9 (fun h9 => absurd h9 h) (fun h9 => ?_)
  refine g_bipush C (v := (-2)) (by decide) dX3_tellDrum_12 ?_
  exact g_iret C E dX3_tellDrum_14 rfl Sq.rf rfl
set_option maxRecDepth 100000 in
set_option maxHeartbeats 400000 in
theorem c_X3_tellCount_0 (w : GW) (tu : Int64) (sg : Sg) : Kt w yX3_tellCount cX3_tellCount 2 (some .int) 1 [.ref (ad w 1), .int (nI 0)] sg tu (some (.int (Int64.toInt32 (vlY (sg 2) 6 0)))) sg tu := by
  refine Kt.of2 RX3 rfl [(0, .ref (ad w 1)), (1, .int (nI 0))] (by decide) rfl (Nat.le_of_ble_eq_true rfl) (fun z C E => ?_)
  refine g_iload_n C 1 rfl rfl dX3_tellCount_0 ?_
  refine g_tabIn C (off := 47) (tgt := 48) dX3_tellCount_1 (by decide) (by decide) (by decide) (by decide) ?_
  refine g_aload_n C 0 rfl rfl dX3_tellCount_48 ?_
  refine g_getR C (j := 0) cls3 e_1 rfl (by decide) fl_X3_9 dX3_tellCount_49 ?_
  refine g_callN1 [] C (c_X4_number_dig w tu sg  ) mt_X4_number nl_X3_53 st_X4_number (by decide) rfl (Nat.le_of_ble_eq_true rfl) dX3_tellCount_52 ?_
  refine g_eq (L' := [(0, .ref (ad w 1)), (1, .int (nI 0))]) (S' := [.long (vlY (sg 2) 6 0)]) rfl rfl rfl rfl ?_
  refine g_l2i C dX3_tellCount_55 ?_
  exact g_iret C E dX3_tellCount_56 rfl Sq.rf rfl
set_option maxRecDepth 100000 in
set_option maxHeartbeats 400000 in
theorem c_X3_tellCount_1 (w : GW) (tu : Int64) (sg : Sg) (hok : ROk (rowC sg 1)) : Kt w yX3_tellCount cX3_tellCount 2 (some .int) 3 [.ref (ad w 1), .int (nI 1)] sg tu (some (.int (nI (ngX (gN (rowC sg 1)) 6 0)))) sg tu := by
  refine Kt.of2 RX3 rfl [(0, .ref (ad w 1)), (1, .int (nI 1))] (by decide) rfl (Nat.le_of_ble_eq_true rfl) (fun z C E => ?_)
  refine g_iload_n C 1 rfl rfl dX3_tellCount_0 ?_
  refine g_tabIn C (off := 56) (tgt := 57) dX3_tellCount_1 (by decide) (by decide) (by decide) (by decide) ?_
  refine g_aload_n C 0 rfl rfl dX3_tellCount_57 ?_
  refine g_callV1 [] C (c_X3_numberGiven w tu sg  hok) mt_X3_numberGiven e_1 rfl ml_X3_107 im_X3_numberGiven se_X3_numberGiven (by decide) rfl (Nat.le_of_ble_eq_true rfl) dX3_tellCount_58 ?_
  refine g_eq (L' := [(0, .ref (ad w 1)), (1, .int (nI 1))]) (S' := [.int (nI (ngX (gN (rowC sg 1)) 6 0))]) rfl rfl rfl rfl ?_
  exact g_iret C E dX3_tellCount_61 rfl Sq.rf rfl
set_option maxRecDepth 100000 in
set_option maxHeartbeats 400000 in
theorem c_X3_tellCount_2 (w : GW) (tu : Int64) (sg : Sg) : Kt w yX3_tellCount cX3_tellCount 2 (some .int) 1 [.ref (ad w 1), .int (nI 2)] sg tu (some (.int (Int64.toInt32 (vlY (sg 5) 7 0)))) sg tu := by
  refine Kt.of2 RX3 rfl [(0, .ref (ad w 1)), (1, .int (nI 2))] (by decide) rfl (Nat.le_of_ble_eq_true rfl) (fun z C E => ?_)
  refine g_iload_n C 1 rfl rfl dX3_tellCount_0 ?_
  refine g_tabIn C (off := 61) (tgt := 62) dX3_tellCount_1 (by decide) (by decide) (by decide) (by decide) ?_
  refine g_aload_n C 0 rfl rfl dX3_tellCount_62 ?_
  refine g_getR C (j := 3) cls3 e_1 rfl (by decide) fl_X3_21 dX3_tellCount_63 ?_
  refine g_callN1 [] C (c_X4_number_cnt w tu sg  ) mt_X4_number nl_X3_53 st_X4_number (by decide) rfl (Nat.le_of_ble_eq_true rfl) dX3_tellCount_66 ?_
  refine g_eq (L' := [(0, .ref (ad w 1)), (1, .int (nI 2))]) (S' := [.long (vlY (sg 5) 7 0)]) rfl rfl rfl rfl ?_
  refine g_l2i C dX3_tellCount_69 ?_
  exact g_iret C E dX3_tellCount_70 rfl Sq.rf rfl
set_option maxRecDepth 100000 in
set_option maxHeartbeats 400000 in
theorem c_X3_tellCount_3 (w : GW) (tu : Int64) (sg : Sg) : Kt w yX3_tellCount cX3_tellCount 2 (some .int) 0 [.ref (ad w 1), .int (nI 3)] sg tu (some (.int ((rowC sg 1) 31))) sg tu := by
  refine Kt.of2 RX3 rfl [(0, .ref (ad w 1)), (1, .int (nI 3))] (by decide) rfl (Nat.le_of_ble_eq_true rfl) (fun z C E => ?_)
  refine g_iload_n C 1 rfl rfl dX3_tellCount_0 ?_
  refine g_tabIn C (off := 70) (tgt := 71) dX3_tellCount_1 (by decide) (by decide) (by decide) (by decide) ?_
  refine g_aload_n C 0 rfl rfl dX3_tellCount_71 ?_
  refine g_getI C (j := 4) cls3 e_1 rfl (by decide) fl_X3_24 dX3_tellCount_72 ?_
  exact g_iret C E dX3_tellCount_75 (rowC_f (sg := sg) (w := 1) (j := 4) (by omega)).symm Sq.rf rfl
set_option maxRecDepth 100000 in
set_option maxHeartbeats 400000 in
theorem c_X3_tellCount_4 (w : GW) (tu : Int64) (sg : Sg) : Kt w yX3_tellCount cX3_tellCount 2 (some .int) 0 [.ref (ad w 1), .int (nI 4)] sg tu (some (.int ((rowC sg 1) 32))) sg tu := by
  refine Kt.of2 RX3 rfl [(0, .ref (ad w 1)), (1, .int (nI 4))] (by decide) rfl (Nat.le_of_ble_eq_true rfl) (fun z C E => ?_)
  refine g_iload_n C 1 rfl rfl dX3_tellCount_0 ?_
  refine g_tabIn C (off := 75) (tgt := 76) dX3_tellCount_1 (by decide) (by decide) (by decide) (by decide) ?_
  refine g_aload_n C 0 rfl rfl dX3_tellCount_76 ?_
  refine g_getI C (j := 5) cls3 e_1 rfl (by decide) fl_X3_28 dX3_tellCount_77 ?_
  exact g_iret C E dX3_tellCount_80 (rowC_f (sg := sg) (w := 1) (j := 5) (by omega)).symm Sq.rf rfl
set_option maxRecDepth 100000 in
set_option maxHeartbeats 400000 in
theorem c_X3_tellCount_5 (w : GW) (tu : Int64) (sg : Sg) : Kt w yX3_tellCount cX3_tellCount 2 (some .int) 0 [.ref (ad w 1), .int (nI 5)] sg tu (some (.int ((rowC sg 1) 33))) sg tu := by
  refine Kt.of2 RX3 rfl [(0, .ref (ad w 1)), (1, .int (nI 5))] (by decide) rfl (Nat.le_of_ble_eq_true rfl) (fun z C E => ?_)
  refine g_iload_n C 1 rfl rfl dX3_tellCount_0 ?_
  refine g_tabIn C (off := 80) (tgt := 81) dX3_tellCount_1 (by decide) (by decide) (by decide) (by decide) ?_
  refine g_aload_n C 0 rfl rfl dX3_tellCount_81 ?_
  refine g_getI C (j := 6) cls3 e_1 rfl (by decide) fl_X3_31 dX3_tellCount_82 ?_
  exact g_iret C E dX3_tellCount_85 (rowC_f (sg := sg) (w := 1) (j := 6) (by omega)).symm Sq.rf rfl
set_option maxRecDepth 100000 in
set_option maxHeartbeats 400000 in
theorem c_X3_tellCount_6 (w : GW) (tu : Int64) (sg : Sg) : Kt w yX3_tellCount cX3_tellCount 2 (some .int) 0 [.ref (ad w 1), .int (nI 6)] sg tu (some (.int ((rowC sg 1) 34))) sg tu := by
  refine Kt.of2 RX3 rfl [(0, .ref (ad w 1)), (1, .int (nI 6))] (by decide) rfl (Nat.le_of_ble_eq_true rfl) (fun z C E => ?_)
  refine g_iload_n C 1 rfl rfl dX3_tellCount_0 ?_
  refine g_tabIn C (off := 85) (tgt := 86) dX3_tellCount_1 (by decide) (by decide) (by decide) (by decide) ?_
  refine g_aload_n C 0 rfl rfl dX3_tellCount_86 ?_
  refine g_getI C (j := 7) cls3 e_1 rfl (by decide) fl_X3_34 dX3_tellCount_87 ?_
  exact g_iret C E dX3_tellCount_90 (rowC_f (sg := sg) (w := 1) (j := 7) (by omega)).symm Sq.rf rfl
set_option maxRecDepth 100000 in
set_option maxHeartbeats 400000 in
theorem c_X3_tellCount_7 (w : GW) (tu : Int64) (sg : Sg) : Kt w yX3_tellCount cX3_tellCount 2 (some .int) 2 [.ref (ad w 1), .int (nI 7)] sg tu (some (.int (wsC (sg 3) 6))) sg tu := by
  refine Kt.of2 RX3 rfl [(0, .ref (ad w 1)), (1, .int (nI 7))] (by decide) rfl (Nat.le_of_ble_eq_true rfl) (fun z C E => ?_)
  refine g_iload_n C 1 rfl rfl dX3_tellCount_0 ?_
  refine g_tabIn C (off := 90) (tgt := 91) dX3_tellCount_1 (by decide) (by decide) (by decide) (by decide) ?_
  refine g_aload_n C 0 rfl rfl dX3_tellCount_91 ?_
  refine g_callV1 [] C (c_X3_wornTeeth w tu sg  ) mt_X3_wornTeeth e_1 rfl ml_X3_117 im_X3_wornTeeth se_X3_wornTeeth (by decide) rfl (Nat.le_of_ble_eq_true rfl) dX3_tellCount_92 ?_
  refine g_eq (L' := [(0, .ref (ad w 1)), (1, .int (nI 7))]) (S' := [.int (wsC (sg 3) 6)]) rfl rfl rfl rfl ?_
  exact g_iret C E dX3_tellCount_95 rfl Sq.rf rfl
