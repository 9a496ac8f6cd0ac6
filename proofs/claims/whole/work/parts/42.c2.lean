set_option maxRecDepth 100000 in
set_option maxHeartbeats 400000 in
theorem c_X3_copyFrom_6_1 (w : GW) (tu : Int64) (sg : Sg) : Kt w yX3_copyFrom cX3_copyFrom 2 none 1 [.ref (ad w 6), .ref (ad w 1)] sg tu (none) (wrR sg 6 (rowC sg 1)) tu := by
  refine Kt.of2 RX3 rfl [(0, .ref (ad w 6)), (1, .ref (ad w 1))] (by decide) rfl (Nat.le_of_ble_eq_true rfl) (fun z C E => ?_)
  refine g_aload_n C 1 rfl rfl dX3_copyFrom_0 ?_
  refine g_getR C (j := 0) cls3 e_1 rfl (by decide) fl_X3_9 dX3_copyFrom_1 ?_
  refine g_iconst C (v := (nI 0)) (by decide) dX3_copyFrom_4 ?_
  refine g_aload_n C 0 rfl rfl dX3_copyFrom_5 ?_
  refine g_getR C (j := 0) cls3 e_6 rfl (by decide) fl_X3_9 dX3_copyFrom_6 ?_
  refine g_iconst C (v := (nI 0)) (by decide) dX3_copyFrom_9 ?_
  refine g_bipush C (v := (nI 6)) (by decide) dX3_copyFrom_10 ?_
  refine g_copy C e_7 e_2 rfl (by decide) (by decide) (Nat.le_of_ble_eq_true rfl) ml_X3_37 na_arraycopyName st_arraycopyName ini_J10 dX3_copyFrom_12 ?_
  refine g_sgE (sg' := (us sg 7 (sg 2))) rfl ?_
  refine g_aload_n C 1 rfl rfl dX3_copyFrom_15 ?_
  refine g_getR C (j := 1) cls3 e_1 rfl (by decide) fl_X3_15 dX3_copyFrom_16 ?_
  refine g_iconst C (v := (nI 0)) (by decide) dX3_copyFrom_19 ?_
  refine g_aload_n C 0 rfl rfl dX3_copyFrom_20 ?_
  refine g_getR C (j := 1) cls3 e_6 rfl (by decide) fl_X3_15 dX3_copyFrom_21 ?_
  refine g_iconst C (v := (nI 0)) (by decide) dX3_copyFrom_24 ?_
  refine g_bipush C (v := (nI 6)) (by decide) dX3_copyFrom_25 ?_
  refine g_copy C e_8 e_3 rfl (by decide) (by decide) (Nat.le_of_ble_eq_true rfl) ml_X3_37 na_arraycopyName st_arraycopyName ini_J10 dX3_copyFrom_27 ?_
  refine g_sgE (sg' := (us (us sg 7 (sg 2)) 8 (sg 3))) rfl ?_
  refine g_aload_n C 1 rfl rfl dX3_copyFrom_30 ?_
  refine g_getR C (j := 2) cls3 e_1 rfl (by decide) fl_X3_18 dX3_copyFrom_31 ?_
  refine g_iconst C (v := (nI 0)) (by decide) dX3_copyFrom_34 ?_
  refine g_aload_n C 0 rfl rfl dX3_copyFrom_35 ?_
  refine g_getR C (j := 2) cls3 e_6 rfl (by decide) fl_X3_18 dX3_copyFrom_36 ?_
  refine g_iconst C (v := (nI 0)) (by decide) dX3_copyFrom_39 ?_
  refine g_bipush C (v := (nI 12)) (by decide) dX3_copyFrom_40 ?_
  refine g_copy C e_9 e_4 rfl (by decide) (by decide) (Nat.le_of_ble_eq_true rfl) ml_X3_37 na_arraycopyName st_arraycopyName ini_J10 dX3_copyFrom_42 ?_
  refine g_sgE (sg' := (us (us (us sg 7 (sg 2)) 8 (sg 3)) 9 (sg 4))) rfl ?_
  refine g_aload_n C 1 rfl rfl dX3_copyFrom_45 ?_
  refine g_getR C (j := 3) cls3 e_1 rfl (by decide) fl_X3_21 dX3_copyFrom_46 ?_
  refine g_iconst C (v := (nI 0)) (by decide) dX3_copyFrom_49 ?_
  refine g_aload_n C 0 rfl rfl dX3_copyFrom_50 ?_
  refine g_getR C (j := 3) cls3 e_6 rfl (by decide) fl_X3_21 dX3_copyFrom_51 ?_
  refine g_iconst C (v := (nI 0)) (by decide) dX3_copyFrom_54 ?_
  refine g_bipush C (v := (nI 7)) (by decide) dX3_copyFrom_55 ?_
  refine g_copy C e_10 e_5 rfl (by decide) (by decide) (Nat.le_of_ble_eq_true rfl) ml_X3_37 na_arraycopyName st_arraycopyName ini_J10 dX3_copyFrom_57 ?_
  refine g_sgE (sg' := (us (us (us (us sg 7 (sg 2)) 8 (sg 3)) 9 (sg 4)) 10 (sg 5))) rfl ?_
  refine g_aload_n C 0 rfl rfl dX3_copyFrom_60 ?_
  refine g_aload_n C 1 rfl rfl dX3_copyFrom_61 ?_
  refine g_getI C (j := 4) cls3 e_1 rfl (by decide) fl_X3_24 dX3_copyFrom_62 ?_
  refine g_top (y := (sg 1 4)) rfl ?_
  refine g_putI C (j := 4) cls3 e_6 rfl (by decide) rfl rfl fl_X3_24 dX3_copyFrom_65 ?_
  refine g_sgE (sg' := (us (us (us (us (us sg 7 (sg 2)) 8 (sg 3)) 9 (sg 4)) 10 (sg 5)) 6 (upd (sg 6) 4 (sg 1 4)))) rfl ?_
  refine g_aload_n C 0 rfl rfl dX3_copyFrom_68 ?_
  refine g_aload_n C 1 rfl rfl dX3_copyFrom_69 ?_
  refine g_getI C (j := 5) cls3 e_1 rfl (by decide) fl_X3_28 dX3_copyFrom_70 ?_
  refine g_top (y := (sg 1 5)) rfl ?_
  refine g_putI C (j := 5) cls3 e_6 rfl (by decide) rfl rfl fl_X3_28 dX3_copyFrom_73 ?_
  refine g_sgE (sg' := (us (us (us (us (us sg 7 (sg 2)) 8 (sg 3)) 9 (sg 4)) 10 (sg 5)) 6 (upd (upd (sg 6) 4 (sg 1 4)) 5 (sg 1 5)))) us_us ?_
  refine g_aload_n C 0 rfl rfl dX3_copyFrom_76 ?_
  refine g_aload_n C 1 rfl rfl dX3_copyFrom_77 ?_
  refine g_getI C (j := 6) cls3 e_1 rfl (by decide) fl_X3_31 dX3_copyFrom_78 ?_
  refine g_top (y := (sg 1 6)) rfl ?_
  refine g_putI C (j := 6) cls3 e_6 rfl (by decide) rfl rfl fl_X3_31 dX3_copyFrom_81 ?_
  refine g_sgE (sg' := (us (us (us (us (us sg 7 (sg 2)) 8 (sg 3)) 9 (sg 4)) 10 (sg 5)) 6 (upd (upd (upd (sg 6) 4 (sg 1 4)) 5 (sg 1 5)) 6 (sg 1 6)))) us_us ?_
  refine g_aload_n C 0 rfl rfl dX3_copyFrom_84 ?_
  refine g_aload_n C 1 rfl rfl dX3_copyFrom_85 ?_
  refine g_getI C (j := 7) cls3 e_1 rfl (by decide) fl_X3_34 dX3_copyFrom_86 ?_
  refine g_top (y := (sg 1 7)) rfl ?_
  refine g_putI C (j := 7) cls3 e_6 rfl (by decide) rfl rfl fl_X3_34 dX3_copyFrom_89 ?_
  refine g_sgE (sg' := (us (us (us (us (us sg 7 (sg 2)) 8 (sg 3)) 9 (sg 4)) 10 (sg 5)) 6 (upd (upd (upd (upd (sg 6) 4 (sg 1 4)) 5 (sg 1 5)) 6 (sg 1 6)) 7 (sg 1 7)))) us_us ?_
  exact g_vret C E dX3_copyFrom_92 (Sq.wr isW_6 (fun j hj => by
      show upd (upd (upd (upd (sg 6) 4 (sg 1 4)) 5 (sg 1 5)) 6 (sg 1 6)) 7 (sg 1 7) j = _
      by_cases h4 : j < 4
      · rw [if_pos h4, upd_ne (by omega), upd_ne (by omega), upd_ne (by omega), upd_ne (by omega)]
      · rw [if_neg h4, rowC_f (by omega)]
        rcases (show j = 4 ∨ j = 5 ∨ j = 6 ∨ j = 7 by omega) with rfl | rfl | rfl | rfl <;> rfl) (fun j hj => (rowC_d (sg := sg) (w := 1) hj).symm) (fun j hj => (rowC_o (sg := sg) (w := 1) hj).symm) (fun j hj => (rowC_w (sg := sg) (w := 1) hj).symm) (fun j hj => (rowC_c (sg := sg) (w := 1) hj).symm) (fun k hk => by rw [us_ne (by omega), us_ne (by omega), us_ne (by omega), us_ne (by omega), us_ne (by omega)])) rfl
set_option maxRecDepth 100000 in
set_option maxHeartbeats 400000 in
theorem c_X3_copyFrom_1_6 (w : GW) (tu : Int64) (sg : Sg) : Kt w yX3_copyFrom cX3_copyFrom 2 none 1 [.ref (ad w 1), .ref (ad w 6)] sg tu (none) (wrR sg 1 (rowC sg 6)) tu := by
  refine Kt.of2 RX3 rfl [(0, .ref (ad w 1)), (1, .ref (ad w 6))] (by decide) rfl (Nat.le_of_ble_eq_true rfl) (fun z C E => ?_)
  refine g_aload_n C 1 rfl rfl dX3_copyFrom_0 ?_
  refine g_getR C (j := 0) cls3 e_6 rfl (by decide) fl_X3_9 dX3_copyFrom_1 ?_
  refine g_iconst C (v := (nI 0)) (by decide) dX3_copyFrom_4 ?_
  refine g_aload_n C 0 rfl rfl dX3_copyFrom_5 ?_
  refine g_getR C (j := 0) cls3 e_1 rfl (by decide) fl_X3_9 dX3_copyFrom_6 ?_
  refine g_iconst C (v := (nI 0)) (by decide) dX3_copyFrom_9 ?_
  refine g_bipush C (v := (nI 6)) (by decide) dX3_copyFrom_10 ?_
  refine g_copy C e_2 e_7 rfl (by decide) (by decide) (Nat.le_of_ble_eq_true rfl) ml_X3_37 na_arraycopyName st_arraycopyName ini_J10 dX3_copyFrom_12 ?_
  refine g_sgE (sg' := (us sg 2 (sg 7))) rfl ?_
  refine g_aload_n C 1 rfl rfl dX3_copyFrom_15 ?_
  refine g_getR C (j := 1) cls3 e_6 rfl (by decide) fl_X3_15 dX3_copyFrom_16 ?_
  refine g_iconst C (v := (nI 0)) (by decide) dX3_copyFrom_19 ?_
  refine g_aload_n C 0 rfl rfl dX3_copyFrom_20 ?_
  refine g_getR C (j := 1) cls3 e_1 rfl (by decide) fl_X3_15 dX3_copyFrom_21 ?_
  refine g_iconst C (v := (nI 0)) (by decide) dX3_copyFrom_24 ?_
  refine g_bipush C (v := (nI 6)) (by decide) dX3_copyFrom_25 ?_
  refine g_copy C e_3 e_8 rfl (by decide) (by decide) (Nat.le_of_ble_eq_true rfl) ml_X3_37 na_arraycopyName st_arraycopyName ini_J10 dX3_copyFrom_27 ?_
  refine g_sgE (sg' := (us (us sg 2 (sg 7)) 3 (sg 8))) rfl ?_
  refine g_aload_n C 1 rfl rfl dX3_copyFrom_30 ?_
  refine g_getR C (j := 2) cls3 e_6 rfl (by decide) fl_X3_18 dX3_copyFrom_31 ?_
  refine g_iconst C (v := (nI 0)) (by decide) dX3_copyFrom_34 ?_
  refine g_aload_n C 0 rfl rfl dX3_copyFrom_35 ?_
  refine g_getR C (j := 2) cls3 e_1 rfl (by decide) fl_X3_18 dX3_copyFrom_36 ?_
  refine g_iconst C (v := (nI 0)) (by decide) dX3_copyFrom_39 ?_
  refine g_bipush C (v := (nI 12)) (by decide) dX3_copyFrom_40 ?_
  refine g_copy C e_4 e_9 rfl (by decide) (by decide) (Nat.le_of_ble_eq_true rfl) ml_X3_37 na_arraycopyName st_arraycopyName ini_J10 dX3_copyFrom_42 ?_
  refine g_sgE (sg' := (us (us (us sg 2 (sg 7)) 3 (sg 8)) 4 (sg 9))) rfl ?_
  refine g_aload_n C 1 rfl rfl dX3_copyFrom_45 ?_
  refine g_getR C (j := 3) cls3 e_6 rfl (by decide) fl_X3_21 dX3_copyFrom_46 ?_
  refine g_iconst C (v := (nI 0)) (by decide) dX3_copyFrom_49 ?_
  refine g_aload_n C 0 rfl rfl dX3_copyFrom_50 ?_
  refine g_getR C (j := 3) cls3 e_1 rfl (by decide) fl_X3_21 dX3_copyFrom_51 ?_
  refine g_iconst C (v := (nI 0)) (by decide) dX3_copyFrom_54 ?_
  refine g_bipush C (v := (nI 7)) (by decide) dX3_copyFrom_55 ?_
  refine g_copy C e_5 e_10 rfl (by decide) (by decide) (Nat.le_of_ble_eq_true rfl) ml_X3_37 na_arraycopyName st_arraycopyName ini_J10 dX3_copyFrom_57 ?_
  refine g_sgE (sg' := (us (us (us (us sg 2 (sg 7)) 3 (sg 8)) 4 (sg 9)) 5 (sg 10))) rfl ?_
  refine g_aload_n C 0 rfl rfl dX3_copyFrom_60 ?_
  refine g_aload_n C 1 rfl rfl dX3_copyFrom_61 ?_
  refine g_getI C (j := 4) cls3 e_6 rfl (by decide) fl_X3_24 dX3_copyFrom_62 ?_
  refine g_top (y := (sg 6 4)) rfl ?_
  refine g_putI C (j := 4) cls3 e_1 rfl (by decide) rfl rfl fl_X3_24 dX3_copyFrom_65 ?_
  refine g_sgE (sg' := (us (us (us (us (us sg 2 (sg 7)) 3 (sg 8)) 4 (sg 9)) 5 (sg 10)) 1 (upd (sg 1) 4 (sg 6 4)))) rfl ?_
  refine g_aload_n C 0 rfl rfl dX3_copyFrom_68 ?_
  refine g_aload_n C 1 rfl rfl dX3_copyFrom_69 ?_
  refine g_getI C (j := 5) cls3 e_6 rfl (by decide) fl_X3_28 dX3_copyFrom_70 ?_
  refine g_top (y := (sg 6 5)) rfl ?_
  refine g_putI C (j := 5) cls3 e_1 rfl (by decide) rfl rfl fl_X3_28 dX3_copyFrom_73 ?_
  refine g_sgE (sg' := (us (us (us (us (us sg 2 (sg 7)) 3 (sg 8)) 4 (sg 9)) 5 (sg 10)) 1 (upd (upd (sg 1) 4 (sg 6 4)) 5 (sg 6 5)))) us_us ?_
  refine g_aload_n C 0 rfl rfl dX3_copyFrom_76 ?_
  refine g_aload_n C 1 rfl rfl dX3_copyFrom_77 ?_
  refine g_getI C (j := 6) cls3 e_6 rfl (by decide) fl_X3_31 dX3_copyFrom_78 ?_
  refine g_top (y := (sg 6 6)) rfl ?_
  refine g_putI C (j := 6) cls3 e_1 rfl (by decide) rfl rfl fl_X3_31 dX3_copyFrom_81 ?_
  refine g_sgE (sg' := (us (us (us (us (us sg 2 (sg 7)) 3 (sg 8)) 4 (sg 9)) 5 (sg 10)) 1 (upd (upd (upd (sg 1) 4 (sg 6 4)) 5 (sg 6 5)) 6 (sg 6 6)))) us_us ?_
  refine g_aload_n C 0 rfl rfl dX3_copyFrom_84 ?_
  refine g_aload_n C 1 rfl rfl dX3_copyFrom_85 ?_
  refine g_getI C (j := 7) cls3 e_6 rfl (by decide) fl_X3_34 dX3_copyFrom_86 ?_
  refine g_top (y := (sg 6 7)) rfl ?_
  refine g_putI C (j := 7) cls3 e_1 rfl (by decide) rfl rfl fl_X3_34 dX3_copyFrom_89 ?_
  refine g_sgE (sg' := (us (us (us (us (us sg 2 (sg 7)) 3 (sg 8)) 4 (sg 9)) 5 (sg 10)) 1 (upd (upd (upd (upd (sg 1) 4 (sg 6 4)) 5 (sg 6 5)) 6 (sg 6 6)) 7 (sg 6 7)))) us_us ?_
  exact g_vret C E dX3_copyFrom_92 (Sq.wr isW_1 (fun j hj => by
      show upd (upd (upd (upd (sg 1) 4 (sg 6 4)) 5 (sg 6 5)) 6 (sg 6 6)) 7 (sg 6 7) j = _
      by_cases h4 : j < 4
      · rw [if_pos h4, upd_ne (by omega), upd_ne (by omega), upd_ne (by omega), upd_ne (by omega)]
      · rw [if_neg h4, rowC_f (by omega)]
        rcases (show j = 4 ∨ j = 5 ∨ j = 6 ∨ j = 7 by omega) with rfl | rfl | rfl | rfl <;> rfl) (fun j hj => (rowC_d (sg := sg) (w := 6) hj).symm) (fun j hj => (rowC_o (sg := sg) (w := 6) hj).symm) (fun j hj => (rowC_w (sg := sg) (w := 6) hj).symm) (fun j hj => (rowC_c (sg := sg) (w := 6) hj).symm) (fun k hk => by rw [us_ne (by omega), us_ne (by omega), us_ne (by omega), us_ne (by omega), us_ne (by omega)])) rfl
set_option maxRecDepth 100000 in
set_option maxHeartbeats 400000 in
theorem c_X3_copyFrom_13_6 (w : GW) (tu : Int64) (sg : Sg) : Kt w yX3_copyFrom cX3_copyFrom 2 none 1 [.ref (ad w 13), .ref (ad w 6)] sg tu (none) (wrR sg 13 (rowC sg 6)) tu := by
  refine Kt.of2 RX3 rfl [(0, .ref (ad w 13)), (1, .ref (ad w 6))] (by decide) rfl (Nat.le_of_ble_eq_true rfl) (fun z C E => ?_)
  refine g_aload_n C 1 rfl rfl dX3_copyFrom_0 ?_
  refine g_getR C (j := 0) cls3 e_6 rfl (by decide) fl_X3_9 dX3_copyFrom_1 ?_
  refine g_iconst C (v := (nI 0)) (by decide) dX3_copyFrom_4 ?_
  refine g_aload_n C 0 rfl rfl dX3_copyFrom_5 ?_
  refine g_getR C (j := 0) cls3 e_13 rfl (by decide) fl_X3_9 dX3_copyFrom_6 ?_
  refine g_iconst C (v := (nI 0)) (by decide) dX3_copyFrom_9 ?_
  refine g_bipush C (v := (nI 6)) (by decide) dX3_copyFrom_10 ?_
  refine g_copy C e_14 e_7 rfl (by decide) (by decide) (Nat.le_of_ble_eq_true rfl) ml_X3_37 na_arraycopyName st_arraycopyName ini_J10 dX3_copyFrom_12 ?_
  refine g_sgE (sg' := (us sg 14 (sg 7))) rfl ?_
  refine g_aload_n C 1 rfl rfl dX3_copyFrom_15 ?_
  refine g_getR C (j := 1) cls3 e_6 rfl (by decide) fl_X3_15 dX3_copyFrom_16 ?_
  refine g_iconst C (v := (nI 0)) (by decide) dX3_copyFrom_19 ?_
  refine g_aload_n C 0 rfl rfl dX3_copyFrom_20 ?_
  refine g_getR C (j := 1) cls3 e_13 rfl (by decide) fl_X3_15 dX3_copyFrom_21 ?_
  refine g_iconst C (v := (nI 0)) (by decide) dX3_copyFrom_24 ?_
  refine g_bipush C (v := (nI 6)) (by decide) dX3_copyFrom_25 ?_
  refine g_copy C e_15 e_8 rfl (by decide) (by decide) (Nat.le_of_ble_eq_true rfl) ml_X3_37 na_arraycopyName st_arraycopyName ini_J10 dX3_copyFrom_27 ?_
  refine g_sgE (sg' := (us (us sg 14 (sg 7)) 15 (sg 8))) rfl ?_
  refine g_aload_n C 1 rfl rfl dX3_copyFrom_30 ?_
  refine g_getR C (j := 2) cls3 e_6 rfl (by decide) fl_X3_18 dX3_copyFrom_31 ?_
  refine g_iconst C (v := (nI 0)) (by decide) dX3_copyFrom_34 ?_
  refine g_aload_n C 0 rfl rfl dX3_copyFrom_35 ?_
  refine g_getR C (j := 2) cls3 e_13 rfl (by decide) fl_X3_18 dX3_copyFrom_36 ?_
  refine g_iconst C (v := (nI 0)) (by decide) dX3_copyFrom_39 ?_
  refine g_bipush C (v := (nI 12)) (by decide) dX3_copyFrom_40 ?_
  refine g_copy C e_16 e_9 rfl (by decide) (by decide) (Nat.le_of_ble_eq_true rfl) ml_X3_37 na_arraycopyName st_arraycopyName ini_J10 dX3_copyFrom_42 ?_
  refine g_sgE (sg' := (us (us (us sg 14 (sg 7)) 15 (sg 8)) 16 (sg 9))) rfl ?_
  refine g_aload_n C 1 rfl rfl dX3_copyFrom_45 ?_
  refine g_getR C (j := 3) cls3 e_6 rfl (by decide) fl_X3_21 dX3_copyFrom_46 ?_
  refine g_iconst C (v := (nI 0)) (by decide) dX3_copyFrom_49 ?_
  refine g_aload_n C 0 rfl rfl dX3_copyFrom_50 ?_
  refine g_getR C (j := 3) cls3 e_13 rfl (by decide) fl_X3_21 dX3_copyFrom_51 ?_
  refine g_iconst C (v := (nI 0)) (by decide) dX3_copyFrom_54 ?_
  refine g_bipush C (v := (nI 7)) (by decide) dX3_copyFrom_55 ?_
  refine g_copy C e_17 e_10 rfl (by decide) (by decide) (Nat.le_of_ble_eq_true rfl) ml_X3_37 na_arraycopyName st_arraycopyName ini_J10 dX3_copyFrom_57 ?_
  refine g_sgE (sg' := (us (us (us (us sg 14 (sg 7)) 15 (sg 8)) 16 (sg 9)) 17 (sg 10))) rfl ?_
  refine g_aload_n C 0 rfl rfl dX3_copyFrom_60 ?_
  refine g_aload_n C 1 rfl rfl dX3_copyFrom_61 ?_
  refine g_getI C (j := 4) cls3 e_6 rfl (by decide) fl_X3_24 dX3_copyFrom_62 ?_
  refine g_top (y := (sg 6 4)) rfl ?_
  refine g_putI C (j := 4) cls3 e_13 rfl (by decide) rfl rfl fl_X3_24 dX3_copyFrom_65 ?_
  refine g_sgE (sg' := (us (us (us (us (us sg 14 (sg 7)) 15 (sg 8)) 16 (sg 9)) 17 (sg 10)) 13 (upd (sg 13) 4 (sg 6 4)))) rfl ?_
  refine g_aload_n C 0 rfl rfl dX3_copyFrom_68 ?_
  refine g_aload_n C 1 rfl rfl dX3_copyFrom_69 ?_
  refine g_getI C (j := 5) cls3 e_6 rfl (by decide) fl_X3_28 dX3_copyFrom_70 ?_
  refine g_top (y := (sg 6 5)) rfl ?_
  refine g_putI C (j := 5) cls3 e_13 rfl (by decide) rfl rfl fl_X3_28 dX3_copyFrom_73 ?_
  refine g_sgE (sg' := (us (us (us (us (us sg 14 (sg 7)) 15 (sg 8)) 16 (sg 9)) 17 (sg 10)) 13 (upd (upd (sg 13) 4 (sg 6 4)) 5 (sg 6 5)))) us_us ?_
  refine g_aload_n C 0 rfl rfl dX3_copyFrom_76 ?_
  refine g_aload_n C 1 rfl rfl dX3_copyFrom_77 ?_
  refine g_getI C (j := 6) cls3 e_6 rfl (by decide) fl_X3_31 dX3_copyFrom_78 ?_
  refine g_top (y := (sg 6 6)) rfl ?_
  refine g_putI C (j := 6) cls3 e_13 rfl (by decide) rfl rfl fl_X3_31 dX3_copyFrom_81 ?_
  refine g_sgE (sg' := (us (us (us (us (us sg 14 (sg 7)) 15 (sg 8)) 16 (sg 9)) 17 (sg 10)) 13 (upd (upd (upd (sg 13) 4 (sg 6 4)) 5 (sg 6 5)) 6 (sg 6 6)))) us_us ?_
  refine g_aload_n C 0 rfl rfl dX3_copyFrom_84 ?_
  refine g_aload_n C 1 rfl rfl dX3_copyFrom_85 ?_
  refine g_getI C (j := 7) cls3 e_6 rfl (by decide) fl_X3_34 dX3_copyFrom_86 ?_
  refine g_top (y := (sg 6 7)) rfl ?_
  refine g_putI C (j := 7) cls3 e_13 rfl (by decide) rfl rfl fl_X3_34 dX3_copyFrom_89 ?_
  refine g_sgE (sg' := (us (us (us (us (us sg 14 (sg 7)) 15 (sg 8)) 16 (sg 9)) 17 (sg 10)) 13 (upd (upd (upd (upd (sg 13) 4 (sg 6 4)) 5 (sg 6 5)) 6 (sg 6 6)) 7 (sg 6 7)))) us_us ?_
  exact g_vret C E dX3_copyFrom_92 (Sq.wr isW_13 (fun j hj => by
      show upd (upd (upd (upd (sg 13) 4 (sg 6 4)) 5 (sg 6 5)) 6 (sg 6 6)) 7 (sg 6 7) j = _
      by_cases h4 : j < 4
      · rw [if_pos h4, upd_ne (by omega), upd_ne (by omega), upd_ne (by omega), upd_ne (by omega)]
      · rw [if_neg h4, rowC_f (by omega)]
        rcases (show j = 4 ∨ j = 5 ∨ j = 6 ∨ j = 7 by omega) with rfl | rfl | rfl | rfl <;> rfl) (fun j hj => (rowC_d (sg := sg) (w := 6) hj).symm) (fun j hj => (rowC_o (sg := sg) (w := 6) hj).symm) (fun j hj => (rowC_w (sg := sg) (w := 6) hj).symm) (fun j hj => (rowC_c (sg := sg) (w := 6) hj).symm) (fun k hk => by rw [us_ne (by omega), us_ne (by omega), us_ne (by omega), us_ne (by omega), us_ne (by omega)])) rfl
set_option maxRecDepth 100000 in
set_option maxHeartbeats 400000 in
theorem c_X3_copyFrom_18_6 (w : GW) (tu : Int64) (sg : Sg) : Kt w yX3_copyFrom cX3_copyFrom 2 none 1 [.ref (ad w 18), .ref (ad w 6)] sg tu (none) (wrR sg 18 (rowC sg 6)) tu := by
  refine Kt.of2 RX3 rfl [(0, .ref (ad w 18)), (1, .ref (ad w 6))] (by decide) rfl (Nat.le_of_ble_eq_true rfl) (fun z C E => ?_)
  refine g_aload_n C 1 rfl rfl dX3_copyFrom_0 ?_
  refine g_getR C (j := 0) cls3 e_6 rfl (by decide) fl_X3_9 dX3_copyFrom_1 ?_
  refine g_iconst C (v := (nI 0)) (by decide) dX3_copyFrom_4 ?_
  refine g_aload_n C 0 rfl rfl dX3_copyFrom_5 ?_
  refine g_getR C (j := 0) cls3 e_18 rfl (by decide) fl_X3_9 dX3_copyFrom_6 ?_
  refine g_iconst C (v := (nI 0)) (by decide) dX3_copyFrom_9 ?_
  refine g_bipush C (v := (nI 6)) (by decide) dX3_copyFrom_10 ?_
  refine g_copy C e_19 e_7 rfl (by decide) (by decide) (Nat.le_of_ble_eq_true rfl) ml_X3_37 na_arraycopyName st_arraycopyName ini_J10 dX3_copyFrom_12 ?_
  refine g_sgE (sg' := (us sg 19 (sg 7))) rfl ?_
  refine g_aload_n C 1 rfl rfl dX3_copyFrom_15 ?_
  refine g_getR C (j := 1) cls3 e_6 rfl (by decide) fl_X3_15 dX3_copyFrom_16 ?_
  refine g_iconst C (v := (nI 0)) (by decide) dX3_copyFrom_19 ?_
  refine g_aload_n C 0 rfl rfl dX3_copyFrom_20 ?_
  refine g_getR C (j := 1) cls3 e_18 rfl (by decide) fl_X3_15 dX3_copyFrom_21 ?_
  refine g_iconst C (v := (nI 0)) (by decide) dX3_copyFrom_24 ?_
  refine g_bipush C (v := (nI 6)) (by decide) dX3_copyFrom_25 ?_
  refine g_copy C e_20 e_8 rfl (by decide) (by decide) (Nat.le_of_ble_eq_true rfl) ml_X3_37 na_arraycopyName st_arraycopyName ini_J10 dX3_copyFrom_27 ?_
  refine g_sgE (sg' := (us (us sg 19 (sg 7)) 20 (sg 8))) rfl ?_
  refine g_aload_n C 1 rfl rfl dX3_copyFrom_30 ?_
  refine g_getR C (j := 2) cls3 e_6 rfl (by decide) fl_X3_18 dX3_copyFrom_31 ?_
  refine g_iconst C (v := (nI 0)) (by decide) dX3_copyFrom_34 ?_
  refine g_aload_n C 0 rfl rfl dX3_copyFrom_35 ?_
  refine g_getR C (j := 2) cls3 e_18 rfl (by decide) fl_X3_18 dX3_copyFrom_36 ?_
  refine g_iconst C (v := (nI 0)) (by decide) dX3_copyFrom_39 ?_
  refine g_bipush C (v := (nI 12)) (by decide) dX3_copyFrom_40 ?_
  refine g_copy C e_21 e_9 rfl (by decide) (by decide) (Nat.le_of_ble_eq_true rfl) ml_X3_37 na_arraycopyName st_arraycopyName ini_J10 dX3_copyFrom_42 ?_
  refine g_sgE (sg' := (us (us (us sg 19 (sg 7)) 20 (sg 8)) 21 (sg 9))) rfl ?_
  refine g_aload_n C 1 rfl rfl dX3_copyFrom_45 ?_
  refine g_getR C (j := 3) cls3 e_6 rfl (by decide) fl_X3_21 dX3_copyFrom_46 ?_
  refine g_iconst C (v := (nI 0)) (by decide) dX3_copyFrom_49 ?_
  refine g_aload_n C 0 rfl rfl dX3_copyFrom_50 ?_
  refine g_getR C (j := 3) cls3 e_18 rfl (by decide) fl_X3_21 dX3_copyFrom_51 ?_
  refine g_iconst C (v := (nI 0)) (by decide) dX3_copyFrom_54 ?_
  refine g_bipush C (v := (nI 7)) (by decide) dX3_copyFrom_55 ?_
  refine g_copy C e_22 e_10 rfl (by decide) (by decide) (Nat.le_of_ble_eq_true rfl) ml_X3_37 na_arraycopyName st_arraycopyName ini_J10 dX3_copyFrom_57 ?_
  refine g_sgE (sg' := (us (us (us (us sg 19 (sg 7)) 20 (sg 8)) 21 (sg 9)) 22 (sg 10))) rfl ?_
  refine g_aload_n C 0 rfl rfl dX3_copyFrom_60 ?_
  refine g_aload_n C 1 rfl rfl dX3_copyFrom_61 ?_
  refine g_getI C (j := 4) cls3 e_6 rfl (by decide) fl_X3_24 dX3_copyFrom_62 ?_
  refine g_top (y := (sg 6 4)) rfl ?_
  refine g_putI C (j := 4) cls3 e_18 rfl (by decide) rfl rfl fl_X3_24 dX3_copyFrom_65 ?_
  refine g_sgE (sg' := (us (us (us (us (us sg 19 (sg 7)) 20 (sg 8)) 21 (sg 9)) 22 (sg 10)) 18 (upd (sg 18) 4 (sg 6 4)))) rfl ?_
  refine g_aload_n C 0 rfl rfl dX3_copyFrom_68 ?_
  refine g_aload_n C 1 rfl rfl dX3_copyFrom_69 ?_
  refine g_getI C (j := 5) cls3 e_6 rfl (by decide) fl_X3_28 dX3_copyFrom_70 ?_
  refine g_top (y := (sg 6 5)) rfl ?_
  refine g_putI C (j := 5) cls3 e_18 rfl (by decide) rfl rfl fl_X3_28 dX3_copyFrom_73 ?_
  refine g_sgE (sg' := (us (us (us (us (us sg 19 (sg 7)) 20 (sg 8)) 21 (sg 9)) 22 (sg 10)) 18 (upd (upd (sg 18) 4 (sg 6 4)) 5 (sg 6 5)))) us_us ?_
  refine g_aload_n C 0 rfl rfl dX3_copyFrom_76 ?_
  refine g_aload_n C 1 rfl rfl dX3_copyFrom_77 ?_
  refine g_getI C (j := 6) cls3 e_6 rfl (by decide) fl_X3_31 dX3_copyFrom_78 ?_
  refine g_top (y := (sg 6 6)) rfl ?_
  refine g_putI C (j := 6) cls3 e_18 rfl (by decide) rfl rfl fl_X3_31 dX3_copyFrom_81 ?_
  refine g_sgE (sg' := (us (us (us (us (us sg 19 (sg 7)) 20 (sg 8)) 21 (sg 9)) 22 (sg 10)) 18 (upd (upd (upd (sg 18) 4 (sg 6 4)) 5 (sg 6 5)) 6 (sg 6 6)))) us_us ?_
  refine g_aload_n C 0 rfl rfl dX3_copyFrom_84 ?_
  refine g_aload_n C 1 rfl rfl dX3_copyFrom_85 ?_
  refine g_getI C (j := 7) cls3 e_6 rfl (by decide) fl_X3_34 dX3_copyFrom_86 ?_
  refine g_top (y := (sg 6 7)) rfl ?_
  refine g_putI C (j := 7) cls3 e_18 rfl (by decide) rfl rfl fl_X3_34 dX3_copyFrom_89 ?_
  refine g_sgE (sg' := (us (us (us (us (us sg 19 (sg 7)) 20 (sg 8)) 21 (sg 9)) 22 (sg 10)) 18 (upd (upd (upd (upd (sg 18) 4 (sg 6 4)) 5 (sg 6 5)) 6 (sg 6 6)) 7 (sg 6 7)))) us_us ?_
  exact g_vret C E dX3_copyFrom_92 (Sq.wr isW_18 (fun j hj => by
      show upd (upd (upd (upd (sg 18) 4 (sg 6 4)) 5 (sg 6 5)) 6 (sg 6 6)) 7 (sg 6 7) j = _
      by_cases h4 : j < 4
      · rw [if_pos h4, upd_ne (by omega), upd_ne (by omega), upd_ne (by omega), upd_ne (by omega)]
      · rw [if_neg h4, rowC_f (by omega)]
        rcases (show j = 4 ∨ j = 5 ∨ j = 6 ∨ j = 7 by omega) with rfl | rfl | rfl | rfl <;> rfl) (fun j hj => (rowC_d (sg := sg) (w := 6) hj).symm) (fun j hj => (rowC_o (sg := sg) (w := 6) hj).symm) (fun j hj => (rowC_w (sg := sg) (w := 6) hj).symm) (fun j hj => (rowC_c (sg := sg) (w := 6) hj).symm) (fun k hk => by rw [us_ne (by omega), us_ne (by omega), us_ne (by omega), us_ne (by omega), us_ne (by omega)])) rfl
set_option maxRecDepth 100000 in
set_option maxHeartbeats 400000 in
theorem c_X3_copyFrom_23_6 (w : GW) (tu : Int64) (sg : Sg) : Kt w yX3_copyFrom cX3_copyFrom 2 none 1 [.ref (ad w 23), .ref (ad w 6)] sg tu (none) (wrR sg 23 (rowC sg 6)) tu := by
  refine Kt.of2 RX3 rfl [(0, .ref (ad w 23)), (1, .ref (ad w 6))] (by decide) rfl (Nat.le_of_ble_eq_true rfl) (fun z C E => ?_)
  refine g_aload_n C 1 rfl rfl dX3_copyFrom_0 ?_
  refine g_getR C (j := 0) cls3 e_6 rfl (by decide) fl_X3_9 dX3_copyFrom_1 ?_
  refine g_iconst C (v := (nI 0)) (by decide) dX3_copyFrom_4 ?_
  refine g_aload_n C 0 rfl rfl dX3_copyFrom_5 ?_
  refine g_getR C (j := 0) cls3 e_23 rfl (by decide) fl_X3_9 dX3_copyFrom_6 ?_
  refine g_iconst C (v := (nI 0)) (by decide) dX3_copyFrom_9 ?_
  refine g_bipush C (v := (nI 6)) (by decide) dX3_copyFrom_10 ?_
  refine g_copy C e_24 e_7 rfl (by decide) (by decide) (Nat.le_of_ble_eq_true rfl) ml_X3_37 na_arraycopyName st_arraycopyName ini_J10 dX3_copyFrom_12 ?_
  refine g_sgE (sg' := (us sg 24 (sg 7))) rfl ?_
  refine g_aload_n C 1 rfl rfl dX3_copyFrom_15 ?_
  refine g_getR C (j := 1) cls3 e_6 rfl (by decide) fl_X3_15 dX3_copyFrom_16 ?_
  refine g_iconst C (v := (nI 0)) (by decide) dX3_copyFrom_19 ?_
  refine g_aload_n C 0 rfl rfl dX3_copyFrom_20 ?_
  refine g_getR C (j := 1) cls3 e_23 rfl (by decide) fl_X3_15 dX3_copyFrom_21 ?_
  refine g_iconst C (v := (nI 0)) (by decide) dX3_copyFrom_24 ?_
  refine g_bipush C (v := (nI 6)) (by decide) dX3_copyFrom_25 ?_
  refine g_copy C e_25 e_8 rfl (by decide) (by decide) (Nat.le_of_ble_eq_true rfl) ml_X3_37 na_arraycopyName st_arraycopyName ini_J10 dX3_copyFrom_27 ?_
  refine g_sgE (sg' := (us (us sg 24 (sg 7)) 25 (sg 8))) rfl ?_
  refine g_aload_n C 1 rfl rfl dX3_copyFrom_30 ?_
  refine g_getR C (j := 2) cls3 e_6 rfl (by decide) fl_X3_18 dX3_copyFrom_31 ?_
  refine g_iconst C (v := (nI 0)) (by decide) dX3_copyFrom_34 ?_
  refine g_aload_n C 0 rfl rfl dX3_copyFrom_35 ?_
  refine g_getR C (j := 2) cls3 e_23 rfl (by decide) fl_X3_18 dX3_copyFrom_36 ?_
  refine g_iconst C (v := (nI 0)) (by decide) dX3_copyFrom_39 ?_
  refine g_bipush C (v := (nI 12)) (by decide) dX3_copyFrom_40 ?_
  refine g_copy C e_26 e_9 rfl (by decide) (by decide) (Nat.le_of_ble_eq_true rfl) ml_X3_37 na_arraycopyName st_arraycopyName ini_J10 dX3_copyFrom_42 ?_
  refine g_sgE (sg' := (us (us (us sg 24 (sg 7)) 25 (sg 8)) 26 (sg 9))) rfl ?_
  refine g_aload_n C 1 rfl rfl dX3_copyFrom_45 ?_
  refine g_getR C (j := 3) cls3 e_6 rfl (by decide) fl_X3_21 dX3_copyFrom_46 ?_
  refine g_iconst C (v := (nI 0)) (by decide) dX3_copyFrom_49 ?_
  refine g_aload_n C 0 rfl rfl dX3_copyFrom_50 ?_
  refine g_getR C (j := 3) cls3 e_23 rfl (by decide) fl_X3_21 dX3_copyFrom_51 ?_
  refine g_iconst C (v := (nI 0)) (by decide) dX3_copyFrom_54 ?_
  refine g_bipush C (v := (nI 7)) (by decide) dX3_copyFrom_55 ?_
  refine g_copy C e_27 e_10 rfl (by decide) (by decide) (Nat.le_of_ble_eq_true rfl) ml_X3_37 na_arraycopyName st_arraycopyName ini_J10 dX3_copyFrom_57 ?_
  refine g_sgE (sg' := (us (us (us (us sg 24 (sg 7)) 25 (sg 8)) 26 (sg 9)) 27 (sg 10))) rfl ?_
  refine g_aload_n C 0 rfl rfl dX3_copyFrom_60 ?_
  refine g_aload_n C 1 rfl rfl dX3_copyFrom_61 ?_
  refine g_getI C (j := 4) cls3 e_6 rfl (by decide) fl_X3_24 dX3_copyFrom_62 ?_
  refine g_top (y := (sg 6 4)) rfl ?_
  refine g_putI C (j := 4) cls3 e_23 rfl (by decide) rfl rfl fl_X3_24 dX3_copyFrom_65 ?_
  refine g_sgE (sg' := (us (us (us (us (us sg 24 (sg 7)) 25 (sg 8)) 26 (sg 9)) 27 (sg 10)) 23 (upd (sg 23) 4 (sg 6 4)))) rfl ?_
  refine g_aload_n C 0 rfl rfl dX3_copyFrom_68 ?_
  refine g_aload_n C 1 rfl rfl dX3_copyFrom_69 ?_
  refine g_getI C (j := 5) cls3 e_6 rfl (by decide) fl_X3_28 dX3_copyFrom_70 ?_
  refine g_top (y := (sg 6 5)) rfl ?_
  refine g_putI C (j := 5) cls3 e_23 rfl (by decide) rfl rfl fl_X3_28 dX3_copyFrom_73 ?_
  refine g_sgE (sg' := (us (us (us (us (us sg 24 (sg 7)) 25 (sg 8)) 26 (sg 9)) 27 (sg 10)) 23 (upd (upd (sg 23) 4 (sg 6 4)) 5 (sg 6 5)))) us_us ?_
  refine g_aload_n C 0 rfl rfl dX3_copyFrom_76 ?_
  refine g_aload_n C 1 rfl rfl dX3_copyFrom_77 ?_
  refine g_getI C (j := 6) cls3 e_6 rfl (by decide) fl_X3_31 dX3_copyFrom_78 ?_
  refine g_top (y := (sg 6 6)) rfl ?_
  refine g_putI C (j := 6) cls3 e_23 rfl (by decide) rfl rfl fl_X3_31 dX3_copyFrom_81 ?_
  refine g_sgE (sg' := (us (us (us (us (us sg 24 (sg 7)) 25 (sg 8)) 26 (sg 9)) 27 (sg 10)) 23 (upd (upd (upd (sg 23) 4 (sg 6 4)) 5 (sg 6 5)) 6 (sg 6 6)))) us_us ?_
  refine g_aload_n C 0 rfl rfl dX3_copyFrom_84 ?_
  refine g_aload_n C 1 rfl rfl dX3_copyFrom_85 ?_
  refine g_getI C (j := 7) cls3 e_6 rfl (by decide) fl_X3_34 dX3_copyFrom_86 ?_
  refine g_top (y := (sg 6 7)) rfl ?_
  refine g_putI C (j := 7) cls3 e_23 rfl (by decide) rfl rfl fl_X3_34 dX3_copyFrom_89 ?_
  refine g_sgE (sg' := (us (us (us (us (us sg 24 (sg 7)) 25 (sg 8)) 26 (sg 9)) 27 (sg 10)) 23 (upd (upd (upd (upd (sg 23) 4 (sg 6 4)) 5 (sg 6 5)) 6 (sg 6 6)) 7 (sg 6 7)))) us_us ?_
  exact g_vret C E dX3_copyFrom_92 (Sq.wr isW_23 (fun j hj => by
      show upd (upd (upd (upd (sg 23) 4 (sg 6 4)) 5 (sg 6 5)) 6 (sg 6 6)) 7 (sg 6 7) j = _
      by_cases h4 : j < 4
      · rw [if_pos h4, upd_ne (by omega), upd_ne (by omega), upd_ne (by omega), upd_ne (by omega)]
      · rw [if_neg h4, rowC_f (by omega)]
        rcases (show j = 4 ∨ j = 5 ∨ j = 6 ∨ j = 7 by omega) with rfl | rfl | rfl | rfl <;> rfl) (fun j hj => (rowC_d (sg := sg) (w := 6) hj).symm) (fun j hj => (rowC_o (sg := sg) (w := 6) hj).symm) (fun j hj => (rowC_w (sg := sg) (w := 6) hj).symm) (fun j hj => (rowC_c (sg := sg) (w := 6) hj).symm) (fun k hk => by rw [us_ne (by omega), us_ne (by omega), us_ne (by omega), us_ne (by omega), us_ne (by omega)])) rfl
set_option maxRecDepth 100000 in
set_option maxHeartbeats 400000 in
theorem c_X3_copyFrom_28_6 (w : GW) (tu : Int64) (sg : Sg) : Kt w yX3_copyFrom cX3_copyFrom 2 none 1 [.ref (ad w 28), .ref (ad w 6)] sg tu (none) (wrR sg 28 (rowC sg 6)) tu := by
  refine Kt.of2 RX3 rfl [(0, .ref (ad w 28)), (1, .ref (ad w 6))] (by decide) rfl (Nat.le_of_ble_eq_true rfl) (fun z C E => ?_)
  refine g_aload_n C 1 rfl rfl dX3_copyFrom_0 ?_
  refine g_getR C (j := 0) cls3 e_6 rfl (by decide) fl_X3_9 dX3_copyFrom_1 ?_
  refine g_iconst C (v := (nI 0)) (by decide) dX3_copyFrom_4 ?_
  refine g_aload_n C 0 rfl rfl dX3_copyFrom_5 ?_
  refine g_getR C (j := 0) cls3 e_28 rfl (by decide) fl_X3_9 dX3_copyFrom_6 ?_
  refine g_iconst C (v := (nI 0)) (by decide) dX3_copyFrom_9 ?_
  refine g_bipush C (v := (nI 6)) (by decide) dX3_copyFrom_10 ?_
  refine g_copy C e_29 e_7 rfl (by decide) (by decide) (Nat.le_of_ble_eq_true rfl) ml_X3_37 na_arraycopyName st_arraycopyName ini_J10 dX3_copyFrom_12 ?_
  refine g_sgE (sg' := (us sg 29 (sg 7))) rfl ?_
  refine g_aload_n C 1 rfl rfl dX3_copyFrom_15 ?_
  refine g_getR C (j := 1) cls3 e_6 rfl (by decide) fl_X3_15 dX3_copyFrom_16 ?_
  refine g_iconst C (v := (nI 0)) (by decide) dX3_copyFrom_19 ?_
  refine g_aload_n C 0 rfl rfl dX3_copyFrom_20 ?_
  refine g_getR C (j := 1) cls3 e_28 rfl (by decide) fl_X3_15 dX3_copyFrom_21 ?_
  refine g_iconst C (v := (nI 0)) (by decide) dX3_copyFrom_24 ?_
  refine g_bipush C (v := (nI 6)) (by decide) dX3_copyFrom_25 ?_
  refine g_copy C e_30 e_8 rfl (by decide) (by decide) (Nat.le_of_ble_eq_true rfl) ml_X3_37 na_arraycopyName st_arraycopyName ini_J10 dX3_copyFrom_27 ?_
  refine g_sgE (sg' := (us (us sg 29 (sg 7)) 30 (sg 8))) rfl ?_
  refine g_aload_n C 1 rfl rfl dX3_copyFrom_30 ?_
  refine g_getR C (j := 2) cls3 e_6 rfl (by decide) fl_X3_18 dX3_copyFrom_31 ?_
  refine g_iconst C (v := (nI 0)) (by decide) dX3_copyFrom_34 ?_
  refine g_aload_n C 0 rfl rfl dX3_copyFrom_35 ?_
  refine g_getR C (j := 2) cls3 e_28 rfl (by decide) fl_X3_18 dX3_copyFrom_36 ?_
  refine g_iconst C (v := (nI 0)) (by decide) dX3_copyFrom_39 ?_
  refine g_bipush C (v := (nI 12)) (by decide) dX3_copyFrom_40 ?_
  refine g_copy C e_31 e_9 rfl (by decide) (by decide) (Nat.le_of_ble_eq_true rfl) ml_X3_37 na_arraycopyName st_arraycopyName ini_J10 dX3_copyFrom_42 ?_
  refine g_sgE (sg' := (us (us (us sg 29 (sg 7)) 30 (sg 8)) 31 (sg 9))) rfl ?_
  refine g_aload_n C 1 rfl rfl dX3_copyFrom_45 ?_
  refine g_getR C (j := 3) cls3 e_6 rfl (by decide) fl_X3_21 dX3_copyFrom_46 ?_
  refine g_iconst C (v := (nI 0)) (by decide) dX3_copyFrom_49 ?_
  refine g_aload_n C 0 rfl rfl dX3_copyFrom_50 ?_
  refine g_getR C (j := 3) cls3 e_28 rfl (by decide) fl_X3_21 dX3_copyFrom_51 ?_
  refine g_iconst C (v := (nI 0)) (by decide) dX3_copyFrom_54 ?_
  refine g_bipush C (v := (nI 7)) (by decide) dX3_copyFrom_55 ?_
  refine g_copy C e_32 e_10 rfl (by decide) (by decide) (Nat.le_of_ble_eq_true rfl) ml_X3_37 na_arraycopyName st_arraycopyName ini_J10 dX3_copyFrom_57 ?_
  refine g_sgE (sg' := (us (us (us (us sg 29 (sg 7)) 30 (sg 8)) 31 (sg 9)) 32 (sg 10))) rfl ?_
  refine g_aload_n C 0 rfl rfl dX3_copyFrom_60 ?_
  refine g_aload_n C 1 rfl rfl dX3_copyFrom_61 ?_
  refine g_getI C (j := 4) cls3 e_6 rfl (by decide) fl_X3_24 dX3_copyFrom_62 ?_
  refine g_top (y := (sg 6 4)) rfl ?_
  refine g_putI C (j := 4) cls3 e_28 rfl (by decide) rfl rfl fl_X3_24 dX3_copyFrom_65 ?_
  refine g_sgE (sg' := (us (us (us (us (us sg 29 (sg 7)) 30 (sg 8)) 31 (sg 9)) 32 (sg 10)) 28 (upd (sg 28) 4 (sg 6 4)))) rfl ?_
  refine g_aload_n C 0 rfl rfl dX3_copyFrom_68 ?_
  refine g_aload_n C 1 rfl rfl dX3_copyFrom_69 ?_
  refine g_getI C (j := 5) cls3 e_6 rfl (by decide) fl_X3_28 dX3_copyFrom_70 ?_
  refine g_top (y := (sg 6 5)) rfl ?_
  refine g_putI C (j := 5) cls3 e_28 rfl (by decide) rfl rfl fl_X3_28 dX3_copyFrom_73 ?_
  refine g_sgE (sg' := (us (us (us (us (us sg 29 (sg 7)) 30 (sg 8)) 31 (sg 9)) 32 (sg 10)) 28 (upd (upd (sg 28) 4 (sg 6 4)) 5 (sg 6 5)))) us_us ?_
  refine g_aload_n C 0 rfl rfl dX3_copyFrom_76 ?_
  refine g_aload_n C 1 rfl rfl dX3_copyFrom_77 ?_
  refine g_getI C (j := 6) cls3 e_6 rfl (by decide) fl_X3_31 dX3_copyFrom_78 ?_
  refine g_top (y := (sg 6 6)) rfl ?_
  refine g_putI C (j := 6) cls3 e_28 rfl (by decide) rfl rfl fl_X3_31 dX3_copyFrom_81 ?_
  refine g_sgE (sg' := (us (us (us (us (us sg 29 (sg 7)) 30 (sg 8)) 31 (sg 9)) 32 (sg 10)) 28 (upd (upd (upd (sg 28) 4 (sg 6 4)) 5 (sg 6 5)) 6 (sg 6 6)))) us_us ?_
  refine g_aload_n C 0 rfl rfl dX3_copyFrom_84 ?_
  refine g_aload_n C 1 rfl rfl dX3_copyFrom_85 ?_
  refine g_getI C (j := 7) cls3 e_6 rfl (by decide) fl_X3_34 dX3_copyFrom_86 ?_
  refine g_top (y := (sg 6 7)) rfl ?_
  refine g_putI C (j := 7) cls3 e_28 rfl (by decide) rfl rfl fl_X3_34 dX3_copyFrom_89 ?_
  refine g_sgE (sg' := (us (us (us (us (us sg 29 (sg 7)) 30 (sg 8)) 31 (sg 9)) 32 (sg 10)) 28 (upd (upd (upd (upd (sg 28) 4 (sg 6 4)) 5 (sg 6 5)) 6 (sg 6 6)) 7 (sg 6 7)))) us_us ?_
  exact g_vret C E dX3_copyFrom_92 (Sq.wr isW_28 (fun j hj => by
      show upd (upd (upd (upd (sg 28) 4 (sg 6 4)) 5 (sg 6 5)) 6 (sg 6 6)) 7 (sg 6 7) j = _
      by_cases h4 : j < 4
      · rw [if_pos h4, upd_ne (by omega), upd_ne (by omega), upd_ne (by omega), upd_ne (by omega)]
      · rw [if_neg h4, rowC_f (by omega)]
        rcases (show j = 4 ∨ j = 5 ∨ j = 6 ∨ j = 7 by omega) with rfl | rfl | rfl | rfl <;> rfl) (fun j hj => (rowC_d (sg := sg) (w := 6) hj).symm) (fun j hj => (rowC_o (sg := sg) (w := 6) hj).symm) (fun j hj => (rowC_w (sg := sg) (w := 6) hj).symm) (fun j hj => (rowC_c (sg := sg) (w := 6) hj).symm) (fun k hk => by rw [us_ne (by omega), us_ne (by omega), us_ne (by omega), us_ne (by omega), us_ne (by omega)])) rfl
set_option maxRecDepth 100000 in
set_option maxHeartbeats 400000 in
theorem c_X3_copyFrom_33_6 (w : GW) (tu : Int64) (sg : Sg) : Kt w yX3_copyFrom cX3_copyFrom 2 none 1 [.ref (ad w 33), .ref (ad w 6)] sg tu (none) (wrR sg 33 (rowC sg 6)) tu := by
  refine Kt.of2 RX3 rfl [(0, .ref (ad w 33)), (1, .ref (ad w 6))] (by decide) rfl (Nat.le_of_ble_eq_true rfl) (fun z C E => ?_)
  refine g_aload_n C 1 rfl rfl dX3_copyFrom_0 ?_
  refine g_getR C (j := 0) cls3 e_6 rfl (by decide) fl_X3_9 dX3_copyFrom_1 ?_
  refine g_iconst C (v := (nI 0)) (by decide) dX3_copyFrom_4 ?_
  refine g_aload_n C 0 rfl rfl dX3_copyFrom_5 ?_
  refine g_getR C (j := 0) cls3 e_33 rfl (by decide) fl_X3_9 dX3_copyFrom_6 ?_
  refine g_iconst C (v := (nI 0)) (by decide) dX3_copyFrom_9 ?_
  refine g_bipush C (v := (nI 6)) (by decide) dX3_copyFrom_10 ?_
  refine g_copy C e_34 e_7 rfl (by decide) (by decide) (Nat.le_of_ble_eq_true rfl) ml_X3_37 na_arraycopyName st_arraycopyName ini_J10 dX3_copyFrom_12 ?_
  refine g_sgE (sg' := (us sg 34 (sg 7))) rfl ?_
  refine g_aload_n C 1 rfl rfl dX3_copyFrom_15 ?_
  refine g_getR C (j := 1) cls3 e_6 rfl (by decide) fl_X3_15 dX3_copyFrom_16 ?_
  refine g_iconst C (v := (nI 0)) (by decide) dX3_copyFrom_19 ?_
  refine g_aload_n C 0 rfl rfl dX3_copyFrom_20 ?_
  refine g_getR C (j := 1) cls3 e_33 rfl (by decide) fl_X3_15 dX3_copyFrom_21 ?_
  refine g_iconst C (v := (nI 0)) (by decide) dX3_copyFrom_24 ?_
  refine g_bipush C (v := (nI 6)) (by decide) dX3_copyFrom_25 ?_
  refine g_copy C e_35 e_8 rfl (by decide) (by decide) (Nat.le_of_ble_eq_true rfl) ml_X3_37 na_arraycopyName st_arraycopyName ini_J10 dX3_copyFrom_27 ?_
  refine g_sgE (sg' := (us (us sg 34 (sg 7)) 35 (sg 8))) rfl ?_
  refine g_aload_n C 1 rfl rfl dX3_copyFrom_30 ?_
  refine g_getR C (j := 2) cls3 e_6 rfl (by decide) fl_X3_18 dX3_copyFrom_31 ?_
  refine g_iconst C (v := (nI 0)) (by decide) dX3_copyFrom_34 ?_
  refine g_aload_n C 0 rfl rfl dX3_copyFrom_35 ?_
  refine g_getR C (j := 2) cls3 e_33 rfl (by decide) fl_X3_18 dX3_copyFrom_36 ?_
  refine g_iconst C (v := (nI 0)) (by decide) dX3_copyFrom_39 ?_
  refine g_bipush C (v := (nI 12)) (by decide) dX3_copyFrom_40 ?_
  refine g_copy C e_36 e_9 rfl (by decide) (by decide) (Nat.le_of_ble_eq_true rfl) ml_X3_37 na_arraycopyName st_arraycopyName ini_J10 dX3_copyFrom_42 ?_
  refine g_sgE (sg' := (us (us (us sg 34 (sg 7)) 35 (sg 8)) 36 (sg 9))) rfl ?_
  refine g_aload_n C 1 rfl rfl dX3_copyFrom_45 ?_
  refine g_getR C (j := 3) cls3 e_6 rfl (by decide) fl_X3_21 dX3_copyFrom_46 ?_
  refine g_iconst C (v := (nI 0)) (by decide) dX3_copyFrom_49 ?_
  refine g_aload_n C 0 rfl rfl dX3_copyFrom_50 ?_
  refine g_getR C (j := 3) cls3 e_33 rfl (by decide) fl_X3_21 dX3_copyFrom_51 ?_
  refine g_iconst C (v := (nI 0)) (by decide) dX3_copyFrom_54 ?_
  refine g_bipush C (v := (nI 7)) (by decide) dX3_copyFrom_55 ?_
  refine g_copy C e_37 e_10 rfl (by decide) (by decide) (Nat.le_of_ble_eq_true rfl) ml_X3_37 na_arraycopyName st_arraycopyName ini_J10 dX3_copyFrom_57 ?_
  refine g_sgE (sg' := (us (us (us (us sg 34 (sg 7)) 35 (sg 8)) 36 (sg 9)) 37 (sg 10))) rfl ?_
  refine g_aload_n C 0 rfl rfl dX3_copyFrom_60 ?_
  refine g_aload_n C 1 rfl rfl dX3_copyFrom_61 ?_
  refine g_getI C (j := 4) cls3 e_6 rfl (by decide) fl_X3_24 dX3_copyFrom_62 ?_
  refine g_top (y := (sg 6 4)) rfl ?_
  refine g_putI C (j := 4) cls3 e_33 rfl (by decide) rfl rfl fl_X3_24 dX3_copyFrom_65 ?_
  refine g_sgE (sg' := (us (us (us (us (us sg 34 (sg 7)) 35 (sg 8)) 36 (sg 9)) 37 (sg 10)) 33 (upd (sg 33) 4 (sg 6 4)))) rfl ?_
  refine g_aload_n C 0 rfl rfl dX3_copyFrom_68 ?_
  refine g_aload_n C 1 rfl rfl dX3_copyFrom_69 ?_
  refine g_getI C (j := 5) cls3 e_6 rfl (by decide) fl_X3_28 dX3_copyFrom_70 ?_
  refine g_top (y := (sg 6 5)) rfl ?_
  refine g_putI C (j := 5) cls3 e_33 rfl (by decide) rfl rfl fl_X3_28 dX3_copyFrom_73 ?_
  refine g_sgE (sg' := (us (us (us (us (us sg 34 (sg 7)) 35 (sg 8)) 36 (sg 9)) 37 (sg 10)) 33 (upd (upd (sg 33) 4 (sg 6 4)) 5 (sg 6 5)))) us_us ?_
  refine g_aload_n C 0 rfl rfl dX3_copyFrom_76 ?_
  refine g_aload_n C 1 rfl rfl dX3_copyFrom_77 ?_
  refine g_getI C (j := 6) cls3 e_6 rfl (by decide) fl_X3_31 dX3_copyFrom_78 ?_
  refine g_top (y := (sg 6 6)) rfl ?_
  refine g_putI C (j := 6) cls3 e_33 rfl (by decide) rfl rfl fl_X3_31 dX3_copyFrom_81 ?_
  refine g_sgE (sg' := (us (us (us (us (us sg 34 (sg 7)) 35 (sg 8)) 36 (sg 9)) 37 (sg 10)) 33 (upd (upd (upd (sg 33) 4 (sg 6 4)) 5 (sg 6 5)) 6 (sg 6 6)))) us_us ?_
  refine g_aload_n C 0 rfl rfl dX3_copyFrom_84 ?_
  refine g_aload_n C 1 rfl rfl dX3_copyFrom_85 ?_
  refine g_getI C (j := 7) cls3 e_6 rfl (by decide) fl_X3_34 dX3_copyFrom_86 ?_
  refine g_top (y := (sg 6 7)) rfl ?_
  refine g_putI C (j := 7) cls3 e_33 rfl (by decide) rfl rfl fl_X3_34 dX3_copyFrom_89 ?_
  refine g_sgE (sg' := (us (us (us (us (us sg 34 (sg 7)) 35 (sg 8)) 36 (sg 9)) 37 (sg 10)) 33 (upd (upd (upd (upd (sg 33) 4 (sg 6 4)) 5 (sg 6 5)) 6 (sg 6 6)) 7 (sg 6 7)))) us_us ?_
  exact g_vret C E dX3_copyFrom_92 (Sq.wr isW_33 (fun j hj => by
      show upd (upd (upd (upd (sg 33) 4 (sg 6 4)) 5 (sg 6 5)) 6 (sg 6 6)) 7 (sg 6 7) j = _
      by_cases h4 : j < 4
      · rw [if_pos h4, upd_ne (by omega), upd_ne (by omega), upd_ne (by omega), upd_ne (by omega)]
      · rw [if_neg h4, rowC_f (by omega)]
        rcases (show j = 4 ∨ j = 5 ∨ j = 6 ∨ j = 7 by omega) with rfl | rfl | rfl | rfl <;> rfl) (fun j hj => (rowC_d (sg := sg) (w := 6) hj).symm) (fun j hj => (rowC_o (sg := sg) (w := 6) hj).symm) (fun j hj => (rowC_w (sg := sg) (w := 6) hj).symm) (fun j hj => (rowC_c (sg := sg) (w := 6) hj).symm) (fun k hk => by rw [us_ne (by omega), us_ne (by omega), us_ne (by omega), us_ne (by omega), us_ne (by omega)])) rfl
set_option maxRecDepth 100000 in
set_option maxHeartbeats 400000 in
theorem c_X3_copyFrom_1_13 (w : GW) (tu : Int64) (sg : Sg) : Kt w yX3_copyFrom cX3_copyFrom 2 none 1 [.ref (ad w 1), .ref (ad w 13)] sg tu (none) (wrR sg 1 (rowC sg 13)) tu := by
  refine Kt.of2 RX3 rfl [(0, .ref (ad w 1)), (1, .ref (ad w 13))] (by decide) rfl (Nat.le_of_ble_eq_true rfl) (fun z C E => ?_)
  refine g_aload_n C 1 rfl rfl dX3_copyFrom_0 ?_
  refine g_getR C (j := 0) cls3 e_13 rfl (by decide) fl_X3_9 dX3_copyFrom_1 ?_
  refine g_iconst C (v := (nI 0)) (by decide) dX3_copyFrom_4 ?_
  refine g_aload_n C 0 rfl rfl dX3_copyFrom_5 ?_
  refine g_getR C (j := 0) cls3 e_1 rfl (by decide) fl_X3_9 dX3_copyFrom_6 ?_
  refine g_iconst C (v := (nI 0)) (by decide) dX3_copyFrom_9 ?_
  refine g_bipush C (v := (nI 6)) (by decide) dX3_copyFrom_10 ?_
  refine g_copy C e_2 e_14 rfl (by decide) (by decide) (Nat.le_of_ble_eq_true rfl) ml_X3_37 na_arraycopyName st_arraycopyName ini_J10 dX3_copyFrom_12 ?_
  refine g_sgE (sg' := (us sg 2 (sg 14))) rfl ?_
  refine g_aload_n C 1 rfl rfl dX3_copyFrom_15 ?_
  refine g_getR C (j := 1) cls3 e_13 rfl (by decide) fl_X3_15 dX3_copyFrom_16 ?_
  refine g_iconst C (v := (nI 0)) (by decide) dX3_copyFrom_19 ?_
  refine g_aload_n C 0 rfl rfl dX3_copyFrom_20 ?_
  refine g_getR C (j := 1) cls3 e_1 rfl (by decide) fl_X3_15 dX3_copyFrom_21 ?_
  refine g_iconst C (v := (nI 0)) (by decide) dX3_copyFrom_24 ?_
  refine g_bipush C (v := (nI 6)) (by decide) dX3_copyFrom_25 ?_
  refine g_copy C e_3 e_15 rfl (by decide) (by decide) (Nat.le_of_ble_eq_true rfl) ml_X3_37 na_arraycopyName st_arraycopyName ini_J10 dX3_copyFrom_27 ?_
  refine g_sgE (sg' := (us (us sg 2 (sg 14)) 3 (sg 15))) rfl ?_
  refine g_aload_n C 1 rfl rfl dX3_copyFrom_30 ?_
  refine g_getR C (j := 2) cls3 e_13 rfl (by decide) fl_X3_18 dX3_copyFrom_31 ?_
  refine g_iconst C (v := (nI 0)) (by decide) dX3_copyFrom_34 ?_
  refine g_aload_n C 0 rfl rfl dX3_copyFrom_35 ?_
  refine g_getR C (j := 2) cls3 e_1 rfl (by decide) fl_X3_18 dX3_copyFrom_36 ?_
  refine g_iconst C (v := (nI 0)) (by decide) dX3_copyFrom_39 ?_
  refine g_bipush C (v := (nI 12)) (by decide) dX3_copyFrom_40 ?_
  refine g_copy C e_4 e_16 rfl (by decide) (by decide) (Nat.le_of_ble_eq_true rfl) ml_X3_37 na_arraycopyName st_arraycopyName ini_J10 dX3_copyFrom_42 ?_
  refine g_sgE (sg' := (us (us (us sg 2 (sg 14)) 3 (sg 15)) 4 (sg 16))) rfl ?_
  refine g_aload_n C 1 rfl rfl dX3_copyFrom_45 ?_
  refine g_getR C (j := 3) cls3 e_13 rfl (by decide) fl_X3_21 dX3_copyFrom_46 ?_
  refine g_iconst C (v := (nI 0)) (by decide) dX3_copyFrom_49 ?_
  refine g_aload_n C 0 rfl rfl dX3_copyFrom_50 ?_
  refine g_getR C (j := 3) cls3 e_1 rfl (by decide) fl_X3_21 dX3_copyFrom_51 ?_
  refine g_iconst C (v := (nI 0)) (by decide) dX3_copyFrom_54 ?_
  refine g_bipush C (v := (nI 7)) (by decide) dX3_copyFrom_55 ?_
  refine g_copy C e_5 e_17 rfl (by decide) (by decide) (Nat.le_of_ble_eq_true rfl) ml_X3_37 na_arraycopyName st_arraycopyName ini_J10 dX3_copyFrom_57 ?_
  refine g_sgE (sg' := (us (us (us (us sg 2 (sg 14)) 3 (sg 15)) 4 (sg 16)) 5 (sg 17))) rfl ?_
  refine g_aload_n C 0 rfl rfl dX3_copyFrom_60 ?_
  refine g_aload_n C 1 rfl rfl dX3_copyFrom_61 ?_
  refine g_getI C (j := 4) cls3 e_13 rfl (by decide) fl_X3_24 dX3_copyFrom_62 ?_
  refine g_top (y := (sg 13 4)) rfl ?_
  refine g_putI C (j := 4) cls3 e_1 rfl (by decide) rfl rfl fl_X3_24 dX3_copyFrom_65 ?_
  refine g_sgE (sg' := (us (us (us (us (us sg 2 (sg 14)) 3 (sg 15)) 4 (sg 16)) 5 (sg 17)) 1 (upd (sg 1) 4 (sg 13 4)))) rfl ?_
  refine g_aload_n C 0 rfl rfl dX3_copyFrom_68 ?_
  refine g_aload_n C 1 rfl rfl dX3_copyFrom_69 ?_
  refine g_getI C (j := 5) cls3 e_13 rfl (by decide) fl_X3_28 dX3_copyFrom_70 ?_
  refine g_top (y := (sg 13 5)) rfl ?_
  refine g_putI C (j := 5) cls3 e_1 rfl (by decide) rfl rfl fl_X3_28 dX3_copyFrom_73 ?_
  refine g_sgE (sg' := (us (us (us (us (us sg 2 (sg 14)) 3 (sg 15)) 4 (sg 16)) 5 (sg 17)) 1 (upd (upd (sg 1) 4 (sg 13 4)) 5 (sg 13 5)))) us_us ?_
  refine g_aload_n C 0 rfl rfl dX3_copyFrom_76 ?_
  refine g_aload_n C 1 rfl rfl dX3_copyFrom_77 ?_
  refine g_getI C (j := 6) cls3 e_13 rfl (by decide) fl_X3_31 dX3_copyFrom_78 ?_
  refine g_top (y := (sg 13 6)) rfl ?_
  refine g_putI C (j := 6) cls3 e_1 rfl (by decide) rfl rfl fl_X3_31 dX3_copyFrom_81 ?_
  refine g_sgE (sg' := (us (us (us (us (us sg 2 (sg 14)) 3 (sg 15)) 4 (sg 16)) 5 (sg 17)) 1 (upd (upd (upd (sg 1) 4 (sg 13 4)) 5 (sg 13 5)) 6 (sg 13 6)))) us_us ?_
  refine g_aload_n C 0 rfl rfl dX3_copyFrom_84 ?_
  refine g_aload_n C 1 rfl rfl dX3_copyFrom_85 ?_
  refine g_getI C (j := 7) cls3 e_13 rfl (by decide) fl_X3_34 dX3_copyFrom_86 ?_
  refine g_top (y := (sg 13 7)) rfl ?_
  refine g_putI C (j := 7) cls3 e_1 rfl (by decide) rfl rfl fl_X3_34 dX3_copyFrom_89 ?_
  refine g_sgE (sg' := (us (us (us (us (us sg 2 (sg 14)) 3 (sg 15)) 4 (sg 16)) 5 (sg 17)) 1 (upd (upd (upd (upd (sg 1) 4 (sg 13 4)) 5 (sg 13 5)) 6 (sg 13 6)) 7 (sg 13 7)))) us_us ?_
  exact g_vret C E dX3_copyFrom_92 (Sq.wr isW_1 (fun j hj => by
      show upd (upd (upd (upd (sg 1) 4 (sg 13 4)) 5 (sg 13 5)) 6 (sg 13 6)) 7 (sg 13 7) j = _
      by_cases h4 : j < 4
      · rw [if_pos h4, upd_ne (by omega), upd_ne (by omega), upd_ne (by omega), upd_ne (by omega)]
      · rw [if_neg h4, rowC_f (by omega)]
        rcases (show j = 4 ∨ j = 5 ∨ j = 6 ∨ j = 7 by omega) with rfl | rfl | rfl | rfl <;> rfl) (fun j hj => (rowC_d (sg := sg) (w := 13) hj).symm) (fun j hj => (rowC_o (sg := sg) (w := 13) hj).symm) (fun j hj => (rowC_w (sg := sg) (w := 13) hj).symm) (fun j hj => (rowC_c (sg := sg) (w := 13) hj).symm) (fun k hk => by rw [us_ne (by omega), us_ne (by omega), us_ne (by omega), us_ne (by omega), us_ne (by omega)])) rfl
set_option maxRecDepth 100000 in
set_option maxHeartbeats 400000 in
theorem c_X3_copyFrom_1_18 (w : GW) (tu : Int64) (sg : Sg) : Kt w yX3_copyFrom cX3_copyFrom 2 none 1 [.ref (ad w 1), .ref (ad w 18)] sg tu (none) (wrR sg 1 (rowC sg 18)) tu := by
  refine Kt.of2 RX3 rfl [(0, .ref (ad w 1)), (1, .ref (ad w 18))] (by decide) rfl (Nat.le_of_ble_eq_true rfl) (fun z C E => ?_)
  refine g_aload_n C 1 rfl rfl dX3_copyFrom_0 ?_
  refine g_getR C (j := 0) cls3 e_18 rfl (by decide) fl_X3_9 dX3_copyFrom_1 ?_
  refine g_iconst C (v := (nI 0)) (by decide) dX3_copyFrom_4 ?_
  refine g_aload_n C 0 rfl rfl dX3_copyFrom_5 ?_
  refine g_getR C (j := 0) cls3 e_1 rfl (by decide) fl_X3_9 dX3_copyFrom_6 ?_
  refine g_iconst C (v := (nI 0)) (by decide) dX3_copyFrom_9 ?_
  refine g_bipush C (v := (nI 6)) (by decide) dX3_copyFrom_10 ?_
  refine g_copy C e_2 e_19 rfl (by decide) (by decide) (Nat.le_of_ble_eq_true rfl) ml_X3_37 na_arraycopyName st_arraycopyName ini_J10 dX3_copyFrom_12 ?_
  refine g_sgE (sg' := (us sg 2 (sg 19))) rfl ?_
  refine g_aload_n C 1 rfl rfl dX3_copyFrom_15 ?_
  refine g_getR C (j := 1) cls3 e_18 rfl (by decide) fl_X3_15 dX3_copyFrom_16 ?_
  refine g_iconst C (v := (nI 0)) (by decide) dX3_copyFrom_19 ?_
  refine g_aload_n C 0 rfl rfl dX3_copyFrom_20 ?_
  refine g_getR C (j := 1) cls3 e_1 rfl (by decide) fl_X3_15 dX3_copyFrom_21 ?_
  refine g_iconst C (v := (nI 0)) (by decide) dX3_copyFrom_24 ?_
  refine g_bipush C (v := (nI 6)) (by decide) dX3_copyFrom_25 ?_
  refine g_copy C e_3 e_20 rfl (by decide) (by decide) (Nat.le_of_ble_eq_true rfl) ml_X3_37 na_arraycopyName st_arraycopyName ini_J10 dX3_copyFrom_27 ?_
  refine g_sgE (sg' := (us (us sg 2 (sg 19)) 3 (sg 20))) rfl ?_
  refine g_aload_n C 1 rfl rfl dX3_copyFrom_30 ?_
  refine g_getR C (j := 2) cls3 e_18 rfl (by decide) fl_X3_18 dX3_copyFrom_31 ?_
  refine g_iconst C (v := (nI 0)) (by decide) dX3_copyFrom_34 ?_
  refine g_aload_n C 0 rfl rfl dX3_copyFrom_35 ?_
  refine g_getR C (j := 2) cls3 e_1 rfl (by decide) fl_X3_18 dX3_copyFrom_36 ?_
  refine g_iconst C (v := (nI 0)) (by decide) dX3_copyFrom_39 ?_
  refine g_bipush C (v := (nI 12)) (by decide) dX3_copyFrom_40 ?_
  refine g_copy C e_4 e_21 rfl (by decide) (by decide) (Nat.le_of_ble_eq_true rfl) ml_X3_37 na_arraycopyName st_arraycopyName ini_J10 dX3_copyFrom_42 ?_
  refine g_sgE (sg' := (us (us (us sg 2 (sg 19)) 3 (sg 20)) 4 (sg 21))) rfl ?_
  refine g_aload_n C 1 rfl rfl dX3_copyFrom_45 ?_
  refine g_getR C (j := 3) cls3 e_18 rfl (by decide) fl_X3_21 dX3_copyFrom_46 ?_
  refine g_iconst C (v := (nI 0)) (by decide) dX3_copyFrom_49 ?_
  refine g_aload_n C 0 rfl rfl dX3_copyFrom_50 ?_
  refine g_getR C (j := 3) cls3 e_1 rfl (by decide) fl_X3_21 dX3_copyFrom_51 ?_
  refine g_iconst C (v := (nI 0)) (by decide) dX3_copyFrom_54 ?_
  refine g_bipush C (v := (nI 7)) (by decide) dX3_copyFrom_55 ?_
  refine g_copy C e_5 e_22 rfl (by decide) (by decide) (Nat.le_of_ble_eq_true rfl) ml_X3_37 na_arraycopyName st_arraycopyName ini_J10 dX3_copyFrom_57 ?_
  refine g_sgE (sg' := (us (us (us (us sg 2 (sg 19)) 3 (sg 20)) 4 (sg 21)) 5 (sg 22))) rfl ?_
  refine g_aload_n C 0 rfl rfl dX3_copyFrom_60 ?_
  refine g_aload_n C 1 rfl rfl dX3_copyFrom_61 ?_
  refine g_getI C (j := 4) cls3 e_18 rfl (by decide) fl_X3_24 dX3_copyFrom_62 ?_
  refine g_top (y := (sg 18 4)) rfl ?_
  refine g_putI C (j := 4) cls3 e_1 rfl (by decide) rfl rfl fl_X3_24 dX3_copyFrom_65 ?_
  refine g_sgE (sg' := (us (us (us (us (us sg 2 (sg 19)) 3 (sg 20)) 4 (sg 21)) 5 (sg 22)) 1 (upd (sg 1) 4 (sg 18 4)))) rfl ?_
  refine g_aload_n C 0 rfl rfl dX3_copyFrom_68 ?_
  refine g_aload_n C 1 rfl rfl dX3_copyFrom_69 ?_
  refine g_getI C (j := 5) cls3 e_18 rfl (by decide) fl_X3_28 dX3_copyFrom_70 ?_
  refine g_top (y := (sg 18 5)) rfl ?_
  refine g_putI C (j := 5) cls3 e_1 rfl (by decide) rfl rfl fl_X3_28 dX3_copyFrom_73 ?_
  refine g_sgE (sg' := (us (us (us (us (us sg 2 (sg 19)) 3 (sg 20)) 4 (sg 21)) 5 (sg 22)) 1 (upd (upd (sg 1) 4 (sg 18 4)) 5 (sg 18 5)))) us_us ?_
  refine g_aload_n C 0 rfl rfl dX3_copyFrom_76 ?_
  refine g_aload_n C 1 rfl rfl dX3_copyFrom_77 ?_
  refine g_getI C (j := 6) cls3 e_18 rfl (by decide) fl_X3_31 dX3_copyFrom_78 ?_
  refine g_top (y := (sg 18 6)) rfl ?_
  refine g_putI C (j := 6) cls3 e_1 rfl (by decide) rfl rfl fl_X3_31 dX3_copyFrom_81 ?_
  refine g_sgE (sg' := (us (us (us (us (us sg 2 (sg 19)) 3 (sg 20)) 4 (sg 21)) 5 (sg 22)) 1 (upd (upd (upd (sg 1) 4 (sg 18 4)) 5 (sg 18 5)) 6 (sg 18 6)))) us_us ?_
  refine g_aload_n C 0 rfl rfl dX3_copyFrom_84 ?_
  refine g_aload_n C 1 rfl rfl dX3_copyFrom_85 ?_
  refine g_getI C (j := 7) cls3 e_18 rfl (by decide) fl_X3_34 dX3_copyFrom_86 ?_
  refine g_top (y := (sg 18 7)) rfl ?_
  refine g_putI C (j := 7) cls3 e_1 rfl (by decide) rfl rfl fl_X3_34 dX3_copyFrom_89 ?_
  refine g_sgE (sg' := (us (us (us (us (us sg 2 (sg 19)) 3 (sg 20)) 4 (sg 21)) 5 (sg 22)) 1 (upd (upd (upd (upd (sg 1) 4 (sg 18 4)) 5 (sg 18 5)) 6 (sg 18 6)) 7 (sg 18 7)))) us_us ?_
  exact g_vret C E dX3_copyFrom_92 (Sq.wr isW_1 (fun j hj => by
      show upd (upd (upd (upd (sg 1) 4 (sg 18 4)) 5 (sg 18 5)) 6 (sg 18 6)) 7 (sg 18 7) j = _
      by_cases h4 : j < 4
      · rw [if_pos h4, upd_ne (by omega), upd_ne (by omega), upd_ne (by omega), upd_ne (by omega)]
      · rw [if_neg h4, rowC_f (by omega)]
        rcases (show j = 4 ∨ j = 5 ∨ j = 6 ∨ j = 7 by omega) with rfl | rfl | rfl | rfl <;> rfl) (fun j hj => (rowC_d (sg := sg) (w := 18) hj).symm) (fun j hj => (rowC_o (sg := sg) (w := 18) hj).symm) (fun j hj => (rowC_w (sg := sg) (w := 18) hj).symm) (fun j hj => (rowC_c (sg := sg) (w := 18) hj).symm) (fun k hk => by rw [us_ne (by omega), us_ne (by omega), us_ne (by omega), us_ne (by omega), us_ne (by omega)])) rfl
set_option maxRecDepth 100000 in
set_option maxHeartbeats 400000 in
theorem c_X3_copyFrom_1_23 (w : GW) (tu : Int64) (sg : Sg) : Kt w yX3_copyFrom cX3_copyFrom 2 none 1 [.ref (ad w 1), .ref (ad w 23)] sg tu (none) (wrR sg 1 (rowC sg 23)) tu := by
  refine Kt.of2 RX3 rfl [(0, .ref (ad w 1)), (1, .ref (ad w 23))] (by decide) rfl (Nat.le_of_ble_eq_true rfl) (fun z C E => ?_)
  refine g_aload_n C 1 rfl rfl dX3_copyFrom_0 ?_
  refine g_getR C (j := 0) cls3 e_23 rfl (by decide) fl_X3_9 dX3_copyFrom_1 ?_
  refine g_iconst C (v := (nI 0)) (by decide) dX3_copyFrom_4 ?_
  refine g_aload_n C 0 rfl rfl dX3_copyFrom_5 ?_
  refine g_getR C (j := 0) cls3 e_1 rfl (by decide) fl_X3_9 dX3_copyFrom_6 ?_
  refine g_iconst C (v := (nI 0)) (by decide) dX3_copyFrom_9 ?_
  refine g_bipush C (v := (nI 6)) (by decide) dX3_copyFrom_10 ?_
  refine g_copy C e_2 e_24 rfl (by decide) (by decide) (Nat.le_of_ble_eq_true rfl) ml_X3_37 na_arraycopyName st_arraycopyName ini_J10 dX3_copyFrom_12 ?_
  refine g_sgE (sg' := (us sg 2 (sg 24))) rfl ?_
  refine g_aload_n C 1 rfl rfl dX3_copyFrom_15 ?_
  refine g_getR C (j := 1) cls3 e_23 rfl (by decide) fl_X3_15 dX3_copyFrom_16 ?_
  refine g_iconst C (v := (nI 0)) (by decide) dX3_copyFrom_19 ?_
  refine g_aload_n C 0 rfl rfl dX3_copyFrom_20 ?_
  refine g_getR C (j := 1) cls3 e_1 rfl (by decide) fl_X3_15 dX3_copyFrom_21 ?_
  refine g_iconst C (v := (nI 0)) (by decide) dX3_copyFrom_24 ?_
  refine g_bipush C (v := (nI 6)) (by decide) dX3_copyFrom_25 ?_
  refine g_copy C e_3 e_25 rfl (by decide) (by decide) (Nat.le_of_ble_eq_true rfl) ml_X3_37 na_arraycopyName st_arraycopyName ini_J10 dX3_copyFrom_27 ?_
  refine g_sgE (sg' := (us (us sg 2 (sg 24)) 3 (sg 25))) rfl ?_
  refine g_aload_n C 1 rfl rfl dX3_copyFrom_30 ?_
  refine g_getR C (j := 2) cls3 e_23 rfl (by decide) fl_X3_18 dX3_copyFrom_31 ?_
  refine g_iconst C (v := (nI 0)) (by decide) dX3_copyFrom_34 ?_
  refine g_aload_n C 0 rfl rfl dX3_copyFrom_35 ?_
  refine g_getR C (j := 2) cls3 e_1 rfl (by decide) fl_X3_18 dX3_copyFrom_36 ?_
  refine g_iconst C (v := (nI 0)) (by decide) dX3_copyFrom_39 ?_
  refine g_bipush C (v := (nI 12)) (by decide) dX3_copyFrom_40 ?_
  refine g_copy C e_4 e_26 rfl (by decide) (by decide) (Nat.le_of_ble_eq_true rfl) ml_X3_37 na_arraycopyName st_arraycopyName ini_J10 dX3_copyFrom_42 ?_
  refine g_sgE (sg' := (us (us (us sg 2 (sg 24)) 3 (sg 25)) 4 (sg 26))) rfl ?_
  refine g_aload_n C 1 rfl rfl dX3_copyFrom_45 ?_
  refine g_getR C (j := 3) cls3 e_23 rfl (by decide) fl_X3_21 dX3_copyFrom_46 ?_
  refine g_iconst C (v := (nI 0)) (by decide) dX3_copyFrom_49 ?_
  refine g_aload_n C 0 rfl rfl dX3_copyFrom_50 ?_
  refine g_getR C (j := 3) cls3 e_1 rfl (by decide) fl_X3_21 dX3_copyFrom_51 ?_
  refine g_iconst C (v := (nI 0)) (by decide) dX3_copyFrom_54 ?_
  refine g_bipush C (v := (nI 7)) (by decide) dX3_copyFrom_55 ?_
  refine g_copy C e_5 e_27 rfl (by decide) (by decide) (Nat.le_of_ble_eq_true rfl) ml_X3_37 na_arraycopyName st_arraycopyName ini_J10 dX3_copyFrom_57 ?_
  refine g_sgE (sg' := (us (us (us (us sg 2 (sg 24)) 3 (sg 25)) 4 (sg 26)) 5 (sg 27))) rfl ?_
  refine g_aload_n C 0 rfl rfl dX3_copyFrom_60 ?_
  refine g_aload_n C 1 rfl rfl dX3_copyFrom_61 ?_
  refine g_getI C (j := 4) cls3 e_23 rfl (by decide) fl_X3_24 dX3_copyFrom_62 ?_
  refine g_top (y := (sg 23 4)) rfl ?_
  refine g_putI C (j := 4) cls3 e_1 rfl (by decide) rfl rfl fl_X3_24 dX3_copyFrom_65 ?_
  refine g_sgE (sg' := (us (us (us (us (us sg 2 (sg 24)) 3 (sg 25)) 4 (sg 26)) 5 (sg 27)) 1 (upd (sg 1) 4 (sg 23 4)))) rfl ?_
  refine g_aload_n C 0 rfl rfl dX3_copyFrom_68 ?_
  refine g_aload_n C 1 rfl rfl dX3_copyFrom_69 ?_
  refine g_getI C (j := 5) cls3 e_23 rfl (by decide) fl_X3_28 dX3_copyFrom_70 ?_
  refine g_top (y := (sg 23 5)) rfl ?_
  refine g_putI C (j := 5) cls3 e_1 rfl (by decide) rfl rfl fl_X3_28 dX3_copyFrom_73 ?_
  refine g_sgE (sg' := (us (us (us (us (us sg 2 (sg 24)) 3 (sg 25)) 4 (sg 26)) 5 (sg 27)) 1 (upd (upd (sg 1) 4 (sg 23 4)) 5 (sg 23 5)))) us_us ?_
  refine g_aload_n C 0 rfl rfl dX3_copyFrom_76 ?_
  refine g_aload_n C 1 rfl rfl dX3_copyFrom_77 ?_
  refine g_getI C (j := 6) cls3 e_23 rfl (by decide) fl_X3_31 dX3_copyFrom_78 ?_
  refine g_top (y := (sg 23 6)) rfl ?_
  refine g_putI C (j := 6) cls3 e_1 rfl (by decide) rfl rfl fl_X3_31 dX3_copyFrom_81 ?_
  refine g_sgE (sg' := (us (us (us (us (us sg 2 (sg 24)) 3 (sg 25)) 4 (sg 26)) 5 (sg 27)) 1 (upd (upd (upd (sg 1) 4 (sg 23 4)) 5 (sg 23 5)) 6 (sg 23 6)))) us_us ?_
  refine g_aload_n C 0 rfl rfl dX3_copyFrom_84 ?_
  refine g_aload_n C 1 rfl rfl dX3_copyFrom_85 ?_
  refine g_getI C (j := 7) cls3 e_23 rfl (by decide) fl_X3_34 dX3_copyFrom_86 ?_
  refine g_top (y := (sg 23 7)) rfl ?_
  refine g_putI C (j := 7) cls3 e_1 rfl (by decide) rfl rfl fl_X3_34 dX3_copyFrom_89 ?_
  refine g_sgE (sg' := (us (us (us (us (us sg 2 (sg 24)) 3 (sg 25)) 4 (sg 26)) 5 (sg 27)) 1 (upd (upd (upd (upd (sg 1) 4 (sg 23 4)) 5 (sg 23 5)) 6 (sg 23 6)) 7 (sg 23 7)))) us_us ?_
  exact g_vret C E dX3_copyFrom_92 (Sq.wr isW_1 (fun j hj => by
      show upd (upd (upd (upd (sg 1) 4 (sg 23 4)) 5 (sg 23 5)) 6 (sg 23 6)) 7 (sg 23 7) j = _
      by_cases h4 : j < 4
      · rw [if_pos h4, upd_ne (by omega), upd_ne (by omega), upd_ne (by omega), upd_ne (by omega)]
      · rw [if_neg h4, rowC_f (by omega)]
        rcases (show j = 4 ∨ j = 5 ∨ j = 6 ∨ j = 7 by omega) with rfl | rfl | rfl | rfl <;> rfl) (fun j hj => (rowC_d (sg := sg) (w := 23) hj).symm) (fun j hj => (rowC_o (sg := sg) (w := 23) hj).symm) (fun j hj => (rowC_w (sg := sg) (w := 23) hj).symm) (fun j hj => (rowC_c (sg := sg) (w := 23) hj).symm) (fun k hk => by rw [us_ne (by omega), us_ne (by omega), us_ne (by omega), us_ne (by omega), us_ne (by omega)])) rfl
set_option maxRecDepth 100000 in
set_option maxHeartbeats 400000 in
theorem c_X3_copyFrom_1_28 (w : GW) (tu : Int64) (sg : Sg) : Kt w yX3_copyFrom cX3_copyFrom 2 none 1 [.ref (ad w 1), .ref (ad w 28)] sg tu (none) (wrR sg 1 (rowC sg 28)) tu := by
  refine Kt.of2 RX3 rfl [(0, .ref (ad w 1)), (1, .ref (ad w 28))] (by decide) rfl (Nat.le_of_ble_eq_true rfl) (fun z C E => ?_)
  refine g_aload_n C 1 rfl rfl dX3_copyFrom_0 ?_
  refine g_getR C (j := 0) cls3 e_28 rfl (by decide) fl_X3_9 dX3_copyFrom_1 ?_
  refine g_iconst C (v := (nI 0)) (by decide) dX3_copyFrom_4 ?_
  refine g_aload_n C 0 rfl rfl dX3_copyFrom_5 ?_
  refine g_getR C (j := 0) cls3 e_1 rfl (by decide) fl_X3_9 dX3_copyFrom_6 ?_
  refine g_iconst C (v := (nI 0)) (by decide) dX3_copyFrom_9 ?_
  refine g_bipush C (v := (nI 6)) (by decide) dX3_copyFrom_10 ?_
  refine g_copy C e_2 e_29 rfl (by decide) (by decide) (Nat.le_of_ble_eq_true rfl) ml_X3_37 na_arraycopyName st_arraycopyName ini_J10 dX3_copyFrom_12 ?_
  refine g_sgE (sg' := (us sg 2 (sg 29))) rfl ?_
  refine g_aload_n C 1 rfl rfl dX3_copyFrom_15 ?_
  refine g_getR C (j := 1) cls3 e_28 rfl (by decide) fl_X3_15 dX3_copyFrom_16 ?_
  refine g_iconst C (v := (nI 0)) (by decide) dX3_copyFrom_19 ?_
  refine g_aload_n C 0 rfl rfl dX3_copyFrom_20 ?_
  refine g_getR C (j := 1) cls3 e_1 rfl (by decide) fl_X3_15 dX3_copyFrom_21 ?_
  refine g_iconst C (v := (nI 0)) (by decide) dX3_copyFrom_24 ?_
  refine g_bipush C (v := (nI 6)) (by decide) dX3_copyFrom_25 ?_
  refine g_copy C e_3 e_30 rfl (by decide) (by decide) (Nat.le_of_ble_eq_true rfl) ml_X3_37 na_arraycopyName st_arraycopyName ini_J10 dX3_copyFrom_27 ?_
  refine g_sgE (sg' := (us (us sg 2 (sg 29)) 3 (sg 30))) rfl ?_
  refine g_aload_n C 1 rfl rfl dX3_copyFrom_30 ?_
  refine g_getR C (j := 2) cls3 e_28 rfl (by decide) fl_X3_18 dX3_copyFrom_31 ?_
  refine g_iconst C (v := (nI 0)) (by decide) dX3_copyFrom_34 ?_
  refine g_aload_n C 0 rfl rfl dX3_copyFrom_35 ?_
  refine g_getR C (j := 2) cls3 e_1 rfl (by decide) fl_X3_18 dX3_copyFrom_36 ?_
  refine g_iconst C (v := (nI 0)) (by decide) dX3_copyFrom_39 ?_
  refine g_bipush C (v := (nI 12)) (by decide) dX3_copyFrom_40 ?_
  refine g_copy C e_4 e_31 rfl (by decide) (by decide) (Nat.le_of_ble_eq_true rfl) ml_X3_37 na_arraycopyName st_arraycopyName ini_J10 dX3_copyFrom_42 ?_
  refine g_sgE (sg' := (us (us (us sg 2 (sg 29)) 3 (sg 30)) 4 (sg 31))) rfl ?_
  refine g_aload_n C 1 rfl rfl dX3_copyFrom_45 ?_
  refine g_getR C (j := 3) cls3 e_28 rfl (by decide) fl_X3_21 dX3_copyFrom_46 ?_
  refine g_iconst C (v := (nI 0)) (by decide) dX3_copyFrom_49 ?_
  refine g_aload_n C 0 rfl rfl dX3_copyFrom_50 ?_
  refine g_getR C (j := 3) cls3 e_1 rfl (by decide) fl_X3_21 dX3_copyFrom_51 ?_
  refine g_iconst C (v := (nI 0)) (by decide) dX3_copyFrom_54 ?_
  refine g_bipush C (v := (nI 7)) (by decide) dX3_copyFrom_55 ?_
  refine g_copy C e_5 e_32 rfl (by decide) (by decide) (Nat.le_of_ble_eq_true rfl) ml_X3_37 na_arraycopyName st_arraycopyName ini_J10 dX3_copyFrom_57 ?_
  refine g_sgE (sg' := (us (us (us (us sg 2 (sg 29)) 3 (sg 30)) 4 (sg 31)) 5 (sg 32))) rfl ?_
  refine g_aload_n C 0 rfl rfl dX3_copyFrom_60 ?_
  refine g_aload_n C 1 rfl rfl dX3_copyFrom_61 ?_
  refine g_getI C (j := 4) cls3 e_28 rfl (by decide) fl_X3_24 dX3_copyFrom_62 ?_
  refine g_top (y := (sg 28 4)) rfl ?_
  refine g_putI C (j := 4) cls3 e_1 rfl (by decide) rfl rfl fl_X3_24 dX3_copyFrom_65 ?_
  refine g_sgE (sg' := (us (us (us (us (us sg 2 (sg 29)) 3 (sg 30)) 4 (sg 31)) 5 (sg 32)) 1 (upd (sg 1) 4 (sg 28 4)))) rfl ?_
  refine g_aload_n C 0 rfl rfl dX3_copyFrom_68 ?_
  refine g_aload_n C 1 rfl rfl dX3_copyFrom_69 ?_
  refine g_getI C (j := 5) cls3 e_28 rfl (by decide) fl_X3_28 dX3_copyFrom_70 ?_
  refine g_top (y := (sg 28 5)) rfl ?_
  refine g_putI C (j := 5) cls3 e_1 rfl (by decide) rfl rfl fl_X3_28 dX3_copyFrom_73 ?_
  refine g_sgE (sg' := (us (us (us (us (us sg 2 (sg 29)) 3 (sg 30)) 4 (sg 31)) 5 (sg 32)) 1 (upd (upd (sg 1) 4 (sg 28 4)) 5 (sg 28 5)))) us_us ?_
  refine g_aload_n C 0 rfl rfl dX3_copyFrom_76 ?_
  refine g_aload_n C 1 rfl rfl dX3_copyFrom_77 ?_
  refine g_getI C (j := 6) cls3 e_28 rfl (by decide) fl_X3_31 dX3_copyFrom_78 ?_
  refine g_top (y := (sg 28 6)) rfl ?_
  refine g_putI C (j := 6) cls3 e_1 rfl (by decide) rfl rfl fl_X3_31 dX3_copyFrom_81 ?_
  refine g_sgE (sg' := (us (us (us (us (us sg 2 (sg 29)) 3 (sg 30)) 4 (sg 31)) 5 (sg 32)) 1 (upd (upd (upd (sg 1) 4 (sg 28 4)) 5 (sg 28 5)) 6 (sg 28 6)))) us_us ?_
  refine g_aload_n C 0 rfl rfl dX3_copyFrom_84 ?_
  refine g_aload_n C 1 rfl rfl dX3_copyFrom_85 ?_
  refine g_getI C (j := 7) cls3 e_28 rfl (by decide) fl_X3_34 dX3_copyFrom_86 ?_
  refine g_top (y := (sg 28 7)) rfl ?_
  refine g_putI C (j := 7) cls3 e_1 rfl (by decide) rfl rfl fl_X3_34 dX3_copyFrom_89 ?_
  refine g_sgE (sg' := (us (us (us (us (us sg 2 (sg 29)) 3 (sg 30)) 4 (sg 31)) 5 (sg 32)) 1 (upd (upd (upd (upd (sg 1) 4 (sg 28 4)) 5 (sg 28 5)) 6 (sg 28 6)) 7 (sg 28 7)))) us_us ?_
  exact g_vret C E dX3_copyFrom_92 (Sq.wr isW_1 (fun j hj => by
      show upd (upd (upd (upd (sg 1) 4 (sg 28 4)) 5 (sg 28 5)) 6 (sg 28 6)) 7 (sg 28 7) j = _
      by_cases h4 : j < 4
      · rw [if_pos h4, upd_ne (by omega), upd_ne (by omega), upd_ne (by omega), upd_ne (by omega)]
      · rw [if_neg h4, rowC_f (by omega)]
        rcases (show j = 4 ∨ j = 5 ∨ j = 6 ∨ j = 7 by omega) with rfl | rfl | rfl | rfl <;> rfl) (fun j hj => (rowC_d (sg := sg) (w := 28) hj).symm) (fun j hj => (rowC_o (sg := sg) (w := 28) hj).symm) (fun j hj => (rowC_w (sg := sg) (w := 28) hj).symm) (fun j hj => (rowC_c (sg := sg) (w := 28) hj).symm) (fun k hk => by rw [us_ne (by omega), us_ne (by omega), us_ne (by omega), us_ne (by omega), us_ne (by omega)])) rfl
set_option maxRecDepth 100000 in
set_option maxHeartbeats 400000 in
theorem c_X3_copyFrom_1_33 (w : GW) (tu : Int64) (sg : Sg) : Kt w yX3_copyFrom cX3_copyFrom 2 none 1 [.ref (ad w 1), .ref (ad w 33)] sg tu (none) (wrR sg 1 (rowC sg 33)) tu := by
  refine Kt.of2 RX3 rfl [(0, .ref (ad w 1)), (1, .ref (ad w 33))] (by decide) rfl (Nat.le_of_ble_eq_true rfl) (fun z C E => ?_)
  refine g_aload_n C 1 rfl rfl dX3_copyFrom_0 ?_
  refine g_getR C (j := 0) cls3 e_33 rfl (by decide) fl_X3_9 dX3_copyFrom_1 ?_
  refine g_iconst C (v := (nI 0)) (by decide) dX3_copyFrom_4 ?_
  refine g_aload_n C 0 rfl rfl dX3_copyFrom_5 ?_
  refine g_getR C (j := 0) cls3 e_1 rfl (by decide) fl_X3_9 dX3_copyFrom_6 ?_
  refine g_iconst C (v := (nI 0)) (by decide) dX3_copyFrom_9 ?_
  refine g_bipush C (v := (nI 6)) (by decide) dX3_copyFrom_10 ?_
  refine g_copy C e_2 e_34 rfl (by decide) (by decide) (Nat.le_of_ble_eq_true rfl) ml_X3_37 na_arraycopyName st_arraycopyName ini_J10 dX3_copyFrom_12 ?_
  refine g_sgE (sg' := (us sg 2 (sg 34))) rfl ?_
  refine g_aload_n C 1 rfl rfl dX3_copyFrom_15 ?_
  refine g_getR C (j := 1) cls3 e_33 rfl (by decide) fl_X3_15 dX3_copyFrom_16 ?_
  refine g_iconst C (v := (nI 0)) (by decide) dX3_copyFrom_19 ?_
  refine g_aload_n C 0 rfl rfl dX3_copyFrom_20 ?_
  refine g_getR C (j := 1) cls3 e_1 rfl (by decide) fl_X3_15 dX3_copyFrom_21 ?_
  refine g_iconst C (v := (nI 0)) (by decide) dX3_copyFrom_24 ?_
  refine g_bipush C (v := (nI 6)) (by decide) dX3_copyFrom_25 ?_
  refine g_copy C e_3 e_35 rfl (by decide) (by decide) (Nat.le_of_ble_eq_true rfl) ml_X3_37 na_arraycopyName st_arraycopyName ini_J10 dX3_copyFrom_27 ?_
  refine g_sgE (sg' := (us (us sg 2 (sg 34)) 3 (sg 35))) rfl ?_
  refine g_aload_n C 1 rfl rfl dX3_copyFrom_30 ?_
  refine g_getR C (j := 2) cls3 e_33 rfl (by decide) fl_X3_18 dX3_copyFrom_31 ?_
  refine g_iconst C (v := (nI 0)) (by decide) dX3_copyFrom_34 ?_
  refine g_aload_n C 0 rfl rfl dX3_copyFrom_35 ?_
  refine g_getR C (j := 2) cls3 e_1 rfl (by decide) fl_X3_18 dX3_copyFrom_36 ?_
  refine g_iconst C (v := (nI 0)) (by decide) dX3_copyFrom_39 ?_
  refine g_bipush C (v := (nI 12)) (by decide) dX3_copyFrom_40 ?_
  refine g_copy C e_4 e_36 rfl (by decide) (by decide) (Nat.le_of_ble_eq_true rfl) ml_X3_37 na_arraycopyName st_arraycopyName ini_J10 dX3_copyFrom_42 ?_
  refine g_sgE (sg' := (us (us (us sg 2 (sg 34)) 3 (sg 35)) 4 (sg 36))) rfl ?_
  refine g_aload_n C 1 rfl rfl dX3_copyFrom_45 ?_
  refine g_getR C (j := 3) cls3 e_33 rfl (by decide) fl_X3_21 dX3_copyFrom_46 ?_
  refine g_iconst C (v := (nI 0)) (by decide) dX3_copyFrom_49 ?_
  refine g_aload_n C 0 rfl rfl dX3_copyFrom_50 ?_
  refine g_getR C (j := 3) cls3 e_1 rfl (by decide) fl_X3_21 dX3_copyFrom_51 ?_
  refine g_iconst C (v := (nI 0)) (by decide) dX3_copyFrom_54 ?_
  refine g_bipush C (v := (nI 7)) (by decide) dX3_copyFrom_55 ?_
  refine g_copy C e_5 e_37 rfl (by decide) (by decide) (Nat.le_of_ble_eq_true rfl) ml_X3_37 na_arraycopyName st_arraycopyName ini_J10 dX3_copyFrom_57 ?_
  refine g_sgE (sg' := (us (us (us (us sg 2 (sg 34)) 3 (sg 35)) 4 (sg 36)) 5 (sg 37))) rfl ?_
  refine g_aload_n C 0 rfl rfl dX3_copyFrom_60 ?_
  refine g_aload_n C 1 rfl rfl dX3_copyFrom_61 ?_
  refine g_getI C (j := 4) cls3 e_33 rfl (by decide) fl_X3_24 dX3_copyFrom_62 ?_
  refine g_top (y := (sg 33 4)) rfl ?_
  refine g_putI C (j := 4) cls3 e_1 rfl (by decide) rfl rfl fl_X3_24 dX3_copyFrom_65 ?_
  refine g_sgE (sg' := (us (us (us (us (us sg 2 (sg 34)) 3 (sg 35)) 4 (sg 36)) 5 (sg 37)) 1 (upd (sg 1) 4 (sg 33 4)))) rfl ?_
  refine g_aload_n C 0 rfl rfl dX3_copyFrom_68 ?_
  refine g_aload_n C 1 rfl rfl dX3_copyFrom_69 ?_
  refine g_getI C (j := 5) cls3 e_33 rfl (by decide) fl_X3_28 dX3_copyFrom_70 ?_
  refine g_top (y := (sg 33 5)) rfl ?_
  refine g_putI C (j := 5) cls3 e_1 rfl (by decide) rfl rfl fl_X3_28 dX3_copyFrom_73 ?_
  refine g_sgE (sg' := (us (us (us (us (us sg 2 (sg 34)) 3 (sg 35)) 4 (sg 36)) 5 (sg 37)) 1 (upd (upd (sg 1) 4 (sg 33 4)) 5 (sg 33 5)))) us_us ?_
  refine g_aload_n C 0 rfl rfl dX3_copyFrom_76 ?_
  refine g_aload_n C 1 rfl rfl dX3_copyFrom_77 ?_
  refine g_getI C (j := 6) cls3 e_33 rfl (by decide) fl_X3_31 dX3_copyFrom_78 ?_
  refine g_top (y := (sg 33 6)) rfl ?_
  refine g_putI C (j := 6) cls3 e_1 rfl (by decide) rfl rfl fl_X3_31 dX3_copyFrom_81 ?_
  refine g_sgE (sg' := (us (us (us (us (us sg 2 (sg 34)) 3 (sg 35)) 4 (sg 36)) 5 (sg 37)) 1 (upd (upd (upd (sg 1) 4 (sg 33 4)) 5 (sg 33 5)) 6 (sg 33 6)))) us_us ?_
  refine g_aload_n C 0 rfl rfl dX3_copyFrom_84 ?_
  refine g_aload_n C 1 rfl rfl dX3_copyFrom_85 ?_
  refine g_getI C (j := 7) cls3 e_33 rfl (by decide) fl_X3_34 dX3_copyFrom_86 ?_
  refine g_top (y := (sg 33 7)) rfl ?_
  refine g_putI C (j := 7) cls3 e_1 rfl (by decide) rfl rfl fl_X3_34 dX3_copyFrom_89 ?_
  refine g_sgE (sg' := (us (us (us (us (us sg 2 (sg 34)) 3 (sg 35)) 4 (sg 36)) 5 (sg 37)) 1 (upd (upd (upd (upd (sg 1) 4 (sg 33 4)) 5 (sg 33 5)) 6 (sg 33 6)) 7 (sg 33 7)))) us_us ?_
  exact g_vret C E dX3_copyFrom_92 (Sq.wr isW_1 (fun j hj => by
      show upd (upd (upd (upd (sg 1) 4 (sg 33 4)) 5 (sg 33 5)) 6 (sg 33 6)) 7 (sg 33 7) j = _
      by_cases h4 : j < 4
      · rw [if_pos h4, upd_ne (by omega), upd_ne (by omega), upd_ne (by omega), upd_ne (by omega)]
      · rw [if_neg h4, rowC_f (by omega)]
        rcases (show j = 4 ∨ j = 5 ∨ j = 6 ∨ j = 7 by omega) with rfl | rfl | rfl | rfl <;> rfl) (fun j hj => (rowC_d (sg := sg) (w := 33) hj).symm) (fun j hj => (rowC_o (sg := sg) (w := 33) hj).symm) (fun j hj => (rowC_w (sg := sg) (w := 33) hj).symm) (fun j hj => (rowC_c (sg := sg) (w := 33) hj).symm) (fun k hk => by rw [us_ne (by omega), us_ne (by omega), us_ne (by omega), us_ne (by omega), us_ne (by omega)])) rfl
set_option maxRecDepth 100000 in
set_option maxHeartbeats 400000 in
theorem c_X3_setDrum_ok (w : GW) (tu : Int64) (sg : Sg) (j : Nat) (n : Nat) (hj : j < 6) (hn : n ≤ 9) : Kt w yX3_setDrum cX3_setDrum 4 (some .int) 1 [.ref (ad w 1), .int (nI j), .int (nI n)] sg tu (some (.int (sg 2 j))) (wrR sg 1 (upd (rowC sg 1) j (nI n))) tu := by
  refine Kt.of2 RX3 rfl [(0, .ref (ad w 1)), (1, .int (nI j)), (2, .int (nI n))] (by decide) rfl (Nat.le_of_ble_eq_true rfl) (fun z C E => ?_)
  refine g_iload_n C 1 rfl rfl dX3_setDrum_0 ?_
  refine g_i2l C dX3_setDrum_1 ?_
  refine g_lconst C (v := 0) (by decide) dX3_setDrum_2 ?_
  refine g_ldc2 C cn_X3_43 dX3_setDrum_3 ?_
  refine g_callN1 [] C (c_X4_within_t w tu sg (Int32.toInt64 (nI j)) 0 5 (in_ok (n := 5) (by omega) (by decide))) mt_X4_within nl_X3_45 st_X4_within (by decide) rfl (Nat.le_of_ble_eq_true rfl) dX3_setDrum_6 ?_
  refine g_eq (L' := [(0, .ref (ad w 1)), (1, .int (nI j)), (2, .int (nI n))]) (S' := [.int (nI 1)]) rfl rfl rfl rfl ?_
  refine g_if_eq C (tgt := 24) (by decide) dX3_setDrum_9 (fun h9 => absurd h9 (by decide)) (fun h9 => ?_)
  refine g_iload_n C 2 rfl rfl dX3_setDrum_12 ?_
  refine g_i2l C dX3_setDrum_13 ?_
  refine g_lconst C (v := 0) (by decide) dX3_setDrum_14 ?_
  refine g_ldc2 C cn_X3_49 dX3_setDrum_15 ?_
  refine g_callN1 [] C (c_X4_within_t w tu sg (Int32.toInt64 (nI n)) 0 9 (in_ok (n := 9) (by omega) (by decide))) mt_X4_within nl_X3_45 st_X4_within (by decide) rfl (Nat.le_of_ble_eq_true rfl) dX3_setDrum_18 ?_
  refine g_eq (L' := [(0, .ref (ad w 1)), (1, .int (nI j)), (2, .int (nI n))]) (S' := [.int (nI 1)]) rfl rfl rfl rfl ?_
  refine g_if_ne C (tgt := 27) (by decide) dX3_setDrum_21 (fun h21 => ?_) (fun h21 => absurd h21 (by decide))
  refine g_aload_n C 0 rfl rfl dX3_setDrum_27 ?_
  refine g_getR C (j := 0) cls3 e_1 rfl (by decide) fl_X3_9 dX3_setDrum_28 ?_
  refine g_iload_n C 1 rfl rfl dX3_setDrum_31 ?_
  refine g_ialdN C j e_2 (by omega) (by decide) dX3_setDrum_32 ?_
  refine g_istore_n C (L' := [(3, .int (sg 2 j)), (0, .ref (ad w 1)), (1, .int (nI j)), (2, .int (nI n))]) rfl (by decide) rfl dX3_setDrum_33 ?_
  refine g_aload_n C 1 rfl rfl dX3_setDrum_34 ?_
  refine g_getR C (j := 0) cls3 e_1 rfl (by decide) fl_X3_9 dX3_setDrum_35 ?_
  refine g_iload_n C 2 rfl rfl dX3_setDrum_38 ?_
  refine g_iload_n C 3 rfl rfl dX3_setDrum_39 ?_
  refine g_iastN C j e_2 (by omega) (by decide) dX3_setDrum_40 ?_
  refine g_sgE (sg' := (us sg 2 (upd (sg 2) j (nI n)))) rfl ?_
  refine g_iload_n C 0 rfl rfl dX3_setDrum_41 ?_
  exact g_iret C E dX3_setDrum_42 rfl (wr_dig (fun q hq => upd_cg (rowC_d hq).symm) (fun q h1 h2 => upd_ne (by omega))) rfl
set_option maxRecDepth 100000 in
set_option maxHeartbeats 400000 in
theorem c_X3_setDrum_bad (w : GW) (tu : Int64) (sg : Sg) (x : Int32) (v : Int32) (h : ¬ ((0 ≤ Int32.toInt64 x ∧ Int32.toInt64 x ≤ 5) ∧ (0 ≤ Int32.toInt64 v ∧ Int32.toInt64 v ≤ 9))) : Kt w yX3_setDrum cX3_setDrum 4 (some .int) 1 [.ref (ad w 1), .int x, .int v] sg tu (some (.int (-2))) sg tu := by
  refine Kt.of2 RX3 rfl [(0, .ref (ad w 1)), (1, .int x), (2, .int v)] (by decide) rfl (Nat.le_of_ble_eq_true rfl) (fun z C E => ?_)
  refine g_iload_n C 1 rfl rfl dX3_setDrum_0 ?_
  refine g_i2l C dX3_setDrum_1 ?_
  refine g_lconst C (v := 0) (by decide) dX3_setDrum_2 ?_
  refine g_ldc2 C cn_X3_43 dX3_setDrum_3 ?_
  refine g_callN1 [] C (c_X4_within w tu sg (Int32.toInt64 x) 0 5 ) mt_X4_within nl_X3_45 st_X4_within (by decide) rfl (Nat.le_of_ble_eq_true rfl) dX3_setDrum_6 ?_
  refine g_eq (L' := [(0, .ref (ad w 1)), (1, .int x), (2, .int v)]) (S' := [.int (bI (0 ≤ (Int32.toInt64 x) ∧ (Int32.toInt64 x) ≤ 5))]) rfl rfl rfl rfl ?_
  refine g_bif_eq C (tgt := 24) (by decide) dX3_setDrum_9 (fun h9 => ?_) (fun h9 => ?_)
  ·
    refine g_bipush C (v := (-2)) (by decide) dX3_setDrum_24 ?_
    exact g_iret C E dX3_setDrum_26 rfl Sq.rf rfl
  ·
    refine g_iload_n C 2 rfl rfl dX3_setDrum_12 ?_
    refine g_i2l C dX3_setDrum_13 ?_
    refine g_lconst C (v := 0) (by decide) dX3_setDrum_14 ?_
    refine g_ldc2 C cn_X3_49 dX3_setDrum_15 ?_
    refine g_callN1 [] C (c_X4_within w tu sg (Int32.toInt64 v) 0 9 ) mt_X4_within nl_X3_45 st_X4_within (by decide) rfl (Nat.le_of_ble_eq_true rfl) dX3_setDrum_18 ?_
    refine g_eq (L' := [(0, .ref (ad w 1)), (1, .int x), (2, .int v)]) (S' := [.int (bI (0 ≤ (Int32.toInt64 v) ∧ (Int32.toInt64 v) ≤ 9))]) rfl rfl rfl rfl ?_
    refine g_bif_ne C (tgt := 27) (by decide) dX3_setDrum_21 (fun h21 => absurd ⟨h9, h21⟩ h) (fun h21 => ?_)
    refine g_bipush C (v := (-2)) (by decide) dX3_setDrum_24 ?_
    exact g_iret C E dX3_setDrum_26 rfl Sq.rf rfl
set_option maxRecDepth 100000 in
set_option maxHeartbeats 400000 in
theorem c_X3_setShift_ok (w : GW) (tu : Int64) (sg : Sg) (n : Nat) (hn : n ≤ 6) : Kt w yX3_setShift cX3_setShift 3 (some .int) 1 [.ref (ad w 1), .int (nI n)] sg tu (some (.int (sg 1 4))) (wrR sg 1 (upd (rowC sg 1) 31 (nI n))) tu := by
  refine Kt.of2 RX3 rfl [(0, .ref (ad w 1)), (1, .int (nI n))] (by decide) rfl (Nat.le_of_ble_eq_true rfl) (fun z C E => ?_)
  refine g_iload_n C 1 rfl rfl dX3_setShift_0 ?_
  refine g_i2l C dX3_setShift_1 ?_
  refine g_lconst C (v := 0) (by decide) dX3_setShift_2 ?_
  refine g_ldc2 C cn_X3_61 dX3_setShift_3 ?_
  refine g_callN1 [] C (c_X4_within_t w tu sg (Int32.toInt64 (nI n)) 0 6 (in_ok (n := 6) (by omega) (by decide))) mt_X4_within nl_X3_45 st_X4_within (by decide) rfl (Nat.le_of_ble_eq_true rfl) dX3_setShift_6 ?_
  refine g_eq (L' := [(0, .ref (ad w 1)), (1, .int (nI n))]) (S' := [.int (nI 1)]) rfl rfl rfl rfl ?_
  refine g_if_ne C (tgt := 15) (by decide) dX3_setShift_9 (fun h9 => ?_) (fun h9 => absurd h9 (by decide))
  refine g_aload_n C 0 rfl rfl dX3_setShift_15 ?_
  refine g_getI C (j := 4) cls3 e_1 rfl (by decide) fl_X3_24 dX3_setShift_16 ?_
  refine g_istore_n C (L' := [(2, .int (sg 1 4)), (0, .ref (ad w 1)), (1, .int (nI n))]) rfl (by decide) rfl dX3_setShift_19 ?_
  refine g_aload_n C 1 rfl rfl dX3_setShift_20 ?_
  refine g_iload_n C 2 rfl rfl dX3_setShift_21 ?_
  refine g_putI C (j := 4) cls3 e_1 rfl (by decide) rfl rfl fl_X3_24 dX3_setShift_22 ?_
  refine g_sgE (sg' := (us sg 1 (upd (sg 1) 4 (nI n)))) rfl ?_
  refine g_iload_n C 0 rfl rfl dX3_setShift_25 ?_
  exact g_iret C E dX3_setShift_26 rfl (wr_fld (by decide) (by decide)) rfl
set_option maxRecDepth 100000 in
set_option maxHeartbeats 400000 in
theorem c_X3_setShift_bad (w : GW) (tu : Int64) (sg : Sg) (v : Int32) (h : ¬ (0 ≤ Int32.toInt64 v ∧ Int32.toInt64 v ≤ 6)) : Kt w yX3_setShift cX3_setShift 3 (some .int) 1 [.ref (ad w 1), .int v] sg tu (some (.int (-2))) sg tu := by
  refine Kt.of2 RX3 rfl [(0, .ref (ad w 1)), (1, .int v)] (by decide) rfl (Nat.le_of_ble_eq_true rfl) (fun z C E => ?_)
  refine g_iload_n C 1 rfl rfl dX3_setShift_0 ?_
  refine g_i2l C dX3_setShift_1 ?_
  refine g_lconst C (v := 0) (by decide) dX3_setShift_2 ?_
  refine g_ldc2 C cn_X3_61 dX3_setShift_3 ?_
  refine g_callN1 [] C (c_X4_within w tu sg (Int32.toInt64 v) 0 6 ) mt_X4_within nl_X3_45 st_X4_within (by decide) rfl (Nat.le_of_ble_eq_true rfl) dX3_setShift_6 ?_
  refine g_eq (L' := [(0, .ref (ad w 1)), (1, .int v)]) (S' := [.int (bI (0 ≤ (Int32.toInt64 v) ∧ (Int32.toInt64 v) ≤ 6))]) rfl rfl rfl rfl ?_
  refine g_bif_ne C (tgt := 15) (by decide) dX3_setShift_9 (fun h9 => absurd h9 h) (fun h9 => ?_)
  refine g_bipush C (v := (-2)) (by decide) dX3_setShift_12 ?_
  exact g_iret C E dX3_setShift_14 rfl Sq.rf rfl
set_option maxRecDepth 100000 in
set_option maxHeartbeats 400000 in
theorem c_X3_setReach_ok (w : GW) (tu : Int64) (sg : Sg) (n : Nat) (hn : n ≤ 12) : Kt w yX3_setReach cX3_setReach 3 (some .int) 1 [.ref (ad w 1), .int (nI n)] sg tu (some (.int (sg 1 5))) (wrR sg 1 (upd (rowC sg 1) 32 (nI n))) tu := by
  refine Kt.of2 RX3 rfl [(0, .ref (ad w 1)), (1, .int (nI n))] (by decide) rfl (Nat.le_of_ble_eq_true rfl) (fun z C E => ?_)
  refine g_iload_n C 1 rfl rfl dX3_setReach_0 ?_
  refine g_i2l C dX3_setReach_1 ?_
  refine g_lconst C (v := 0) (by decide) dX3_setReach_2 ?_
  refine g_ldc2 C cn_X3_63 dX3_setReach_3 ?_
  refine g_callN1 [] C (c_X4_within_t w tu sg (Int32.toInt64 (nI n)) 0 12 (in_ok (n := 12) (by omega) (by decide))) mt_X4_within nl_X3_45 st_X4_within (by decide) rfl (Nat.le_of_ble_eq_true rfl) dX3_setReach_6 ?_
  refine g_eq (L' := [(0, .ref (ad w 1)), (1, .int (nI n))]) (S' := [.int (nI 1)]) rfl rfl rfl rfl ?_
  refine g_if_ne C (tgt := 15) (by decide) dX3_setReach_9 (fun h9 => ?_) (fun h9 => absurd h9 (by decide))
  refine g_aload_n C 0 rfl rfl dX3_setReach_15 ?_
  refine g_getI C (j := 5) cls3 e_1 rfl (by decide) fl_X3_28 dX3_setReach_16 ?_
  refine g_istore_n C (L' := [(2, .int (sg 1 5)), (0, .ref (ad w 1)), (1, .int (nI n))]) rfl (by decide) rfl dX3_setReach_19 ?_
  refine g_aload_n C 1 rfl rfl dX3_setReach_20 ?_
  refine g_iload_n C 2 rfl rfl dX3_setReach_21 ?_
  refine g_putI C (j := 5) cls3 e_1 rfl (by decide) rfl rfl fl_X3_28 dX3_setReach_22 ?_
  refine g_sgE (sg' := (us sg 1 (upd (sg 1) 5 (nI n)))) rfl ?_
  refine g_iload_n C 0 rfl rfl dX3_setReach_25 ?_
  exact g_iret C E dX3_setReach_26 rfl (wr_fld (by decide) (by decide)) rfl
set_option maxRecDepth 100000 in
set_option maxHeartbeats 400000 in
theorem c_X3_setReach_bad (w : GW) (tu : Int64) (sg : Sg) (v : Int32) (h : ¬ (0 ≤ Int32.toInt64 v ∧ Int32.toInt64 v ≤ 12)) : Kt w yX3_setReach cX3_setReach 3 (some .int) 1 [.ref (ad w 1), .int v] sg tu (some (.int (-2))) sg tu := by
  refine Kt.of2 RX3 rfl [(0, .ref (ad w 1)), (1, .int v)] (by decide) rfl (Nat.le_of_ble_eq_true rfl) (fun z C E => ?_)
  refine g_iload_n C 1 rfl rfl dX3_setReach_0 ?_
  refine g_i2l C dX3_setReach_1 ?_
  refine g_lconst C (v := 0) (by decide) dX3_setReach_2 ?_
  refine g_ldc2 C cn_X3_63 dX3_setReach_3 ?_
  refine g_callN1 [] C (c_X4_within w tu sg (Int32.toInt64 v) 0 12 ) mt_X4_within nl_X3_45 st_X4_within (by decide) rfl (Nat.le_of_ble_eq_true rfl) dX3_setReach_6 ?_
  refine g_eq (L' := [(0, .ref (ad w 1)), (1, .int v)]) (S' := [.int (bI (0 ≤ (Int32.toInt64 v) ∧ (Int32.toInt64 v) ≤ 12))]) rfl rfl rfl rfl ?_
  refine g_bif_ne C (tgt := 15) (by decide) dX3_setReach_9 (fun h9 => absurd h9 h) (fun h9 => ?_)
  refine g_bipush C (v := (-2)) (by decide) dX3_setReach_12 ?_
  exact g_iret C E dX3_setReach_14 rfl Sq.rf rfl
set_option maxRecDepth 100000 in
set_option maxHeartbeats 400000 in
theorem c_X3_wearTooth_ok (w : GW) (tu : Int64) (sg : Sg) (j : Nat) (t : Nat) (hj : j < 6) (ht1 : 1 ≤ t) (ht : t ≤ 9) : Kt w yX3_wearTooth cX3_wearTooth 3 (some .int) 1 [.ref (ad w 1), .int (nI j), .int (nI t)] sg tu (some (.int (bcX ((sg 3 j) ^^^ (nI 1 <<< ((nI t) &&& 31)))))) (wrR sg 1 (upd (rowC sg 1) (6 + j) ((sg 3 j) ^^^ (nI 1 <<< ((nI t) &&& 31))))) tu := by
  refine Kt.of2 RX3 rfl [(0, .ref (ad w 1)), (1, .int (nI j)), (2, .int (nI t))] (by decide) rfl (Nat.le_of_ble_eq_true rfl) (fun z C E => ?_)
  refine g_iload_n C 1 rfl rfl dX3_wearTooth_0 ?_
  refine g_i2l C dX3_wearTooth_1 ?_
  refine g_lconst C (v := 0) (by decide) dX3_wearTooth_2 ?_
  refine g_ldc2 C cn_X3_43 dX3_wearTooth_3 ?_
  refine g_callN1 [] C (c_X4_within_t w tu sg (Int32.toInt64 (nI j)) 0 5 (in_ok (n := 5) (by omega) (by decide))) mt_X4_within nl_X3_45 st_X4_within (by decide) rfl (Nat.le_of_ble_eq_true rfl) dX3_wearTooth_6 ?_
  refine g_eq (L' := [(0, .ref (ad w 1)), (1, .int (nI j)), (2, .int (nI t))]) (S' := [.int (nI 1)]) rfl rfl rfl rfl ?_
  refine g_if_eq C (tgt := 24) (by decide) dX3_wearTooth_9 (fun h9 => absurd h9 (by decide)) (fun h9 => ?_)
  refine g_iload_n C 2 rfl rfl dX3_wearTooth_12 ?_
  refine g_i2l C dX3_wearTooth_13 ?_
  refine g_lconst C (v := 1) (by decide) dX3_wearTooth_14 ?_
  refine g_ldc2 C cn_X3_49 dX3_wearTooth_15 ?_
  refine g_callN1 [] C (c_X4_within_t w tu sg (Int32.toInt64 (nI t)) 1 9 (in_ok1 (n := 9) (by omega) (by omega) (by decide))) mt_X4_within nl_X3_45 st_X4_within (by decide) rfl (Nat.le_of_ble_eq_true rfl) dX3_wearTooth_18 ?_
  refine g_eq (L' := [(0, .ref (ad w 1)), (1, .int (nI j)), (2, .int (nI t))]) (S' := [.int (nI 1)]) rfl rfl rfl rfl ?_
  refine g_if_ne C (tgt := 27) (by decide) dX3_wearTooth_21 (fun h21 => ?_) (fun h21 => absurd h21 (by decide))
  refine g_aload_n C 0 rfl rfl dX3_wearTooth_27 ?_
  refine g_getR C (j := 1) cls3 e_1 rfl (by decide) fl_X3_15 dX3_wearTooth_28 ?_
  refine g_iload_n C 1 rfl rfl dX3_wearTooth_31 ?_
  refine g_dup2 C rfl rfl dX3_wearTooth_32 ?_
  refine g_ialdN C j e_3 (by omega) (by decide) dX3_wearTooth_33 ?_
  refine g_iconst C (v := (nI 1)) (by decide) dX3_wearTooth_34 ?_
  refine g_iload_n C 2 rfl rfl dX3_wearTooth_35 ?_
  refine g_ishl C dX3_wearTooth_36 ?_
  refine g_ixor C dX3_wearTooth_37 ?_
  refine g_iastN C j e_3 (by omega) (by decide) dX3_wearTooth_38 ?_
  refine g_sgE (sg' := (us sg 3 (upd (sg 3) j ((sg 3 j) ^^^ ((nI 1) <<< ((nI t) &&& 31)))))) rfl ?_
  refine g_aload_n C 0 rfl rfl dX3_wearTooth_39 ?_
  refine g_getR C (j := 1) cls3 e_1 rfl (by decide) fl_X3_15 dX3_wearTooth_40 ?_
  refine g_iload_n C 1 rfl rfl dX3_wearTooth_43 ?_
  refine g_ialdN C j e_3 (by omega) (by decide) dX3_wearTooth_44 ?_
  refine g_top (y := ((sg 3 j) ^^^ ((nI 1) <<< ((nI t) &&& 31)))) (show upd _ _ _ _ = _ from upd_same) ?_
  refine g_callS1 [] C (c_J6_bitCount_0f7a4 w tu (us sg 3 (upd (sg 3) j ((sg 3 j) ^^^ ((nI 1) <<< ((nI t) &&& 31))))) ((sg 3 j) ^^^ ((nI 1) <<< ((nI t) &&& 31))) ) mt_J6_bitCount_0f7a4 ml_X3_65 st_J6_bitCount_0f7a4 (by decide) rfl (Nat.le_of_ble_eq_true rfl) dX3_wearTooth_45 ?_
  refine g_eq (L' := [(0, .ref (ad w 1)), (1, .int (nI j)), (2, .int (nI t))]) (S' := [.int (bcX ((sg 3 j) ^^^ ((nI 1) <<< ((nI t) &&& 31))))]) rfl rfl rfl rfl ?_
  exact g_iret C E dX3_wearTooth_48 rfl (wr_wrn (fun q hq => upd_cgo (rowC_o hq).symm) (fun q h1 h2 => upd_ne (by omega))) rfl
set_option maxRecDepth 100000 in
set_option maxHeartbeats 400000 in
theorem c_X3_wearTooth_bad (w : GW) (tu : Int64) (sg : Sg) (x : Int32) (v : Int32) (h : ¬ ((0 ≤ Int32.toInt64 x ∧ Int32.toInt64 x ≤ 5) ∧ (1 ≤ Int32.toInt64 v ∧ Int32.toInt64 v ≤ 9))) : Kt w yX3_wearTooth cX3_wearTooth 3 (some .int) 1 [.ref (ad w 1), .int x, .int v] sg tu (some (.int (-2))) sg tu := by
  refine Kt.of2 RX3 rfl [(0, .ref (ad w 1)), (1, .int x), (2, .int v)] (by decide) rfl (Nat.le_of_ble_eq_true rfl) (fun z C E => ?_)
  refine g_iload_n C 1 rfl rfl dX3_wearTooth_0 ?_
  refine g_i2l C dX3_wearTooth_1 ?_
  refine g_lconst C (v := 0) (by decide) dX3_wearTooth_2 ?_
  refine g_ldc2 C cn_X3_43 dX3_wearTooth_3 ?_
  refine g_callN1 [] C (c_X4_within w tu sg (Int32.toInt64 x) 0 5 ) mt_X4_within nl_X3_45 st_X4_within (by decide) rfl (Nat.le_of_ble_eq_true rfl) dX3_wearTooth_6 ?_
  refine g_eq (L' := [(0, .ref (ad w 1)), (1, .int x), (2, .int v)]) (S' := [.int (bI (0 ≤ (Int32.toInt64 x) ∧ (Int32.toInt64 x) ≤ 5))]) rfl rfl rfl rfl ?_
  refine g_bif_eq C (tgt := 24) (by decide) dX3_wearTooth_9 (fun h9 => ?_) (fun h9 => ?_)
  ·
    refine g_bipush C (v := (-2)) (by decide) dX3_wearTooth_24 ?_
    exact g_iret C E dX3_wearTooth_26 rfl Sq.rf rfl
  ·
    refine g_iload_n C 2 rfl rfl dX3_wearTooth_12 ?_
    refine g_i2l C dX3_wearTooth_13 ?_
    refine g_lconst C (v := 1) (by decide) dX3_wearTooth_14 ?_
    refine g_ldc2 C cn_X3_49 dX3_wearTooth_15 ?_
    refine g_callN1 [] C (c_X4_within w tu sg (Int32.toInt64 v) 1 9 ) mt_X4_within nl_X3_45 st_X4_within (by decide) rfl (Nat.le_of_ble_eq_true rfl) dX3_wearTooth_18 ?_
    refine g_eq (L' := [(0, .ref (ad w 1)), (1, .int x), (2, .int v)]) (S' := [.int (bI (1 ≤ (Int32.toInt64 v) ∧ (Int32.toInt64 v) ≤ 9))]) rfl rfl rfl rfl ?_
    refine g_bif_ne C (tgt := 27) (by decide) dX3_wearTooth_21 (fun h21 => absurd ⟨h9, h21⟩ h) (fun h21 => ?_)
    refine g_bipush C (v := (-2)) (by decide) dX3_wearTooth_24 ?_
    exact g_iret C E dX3_wearTooth_26 rfl Sq.rf rfl
