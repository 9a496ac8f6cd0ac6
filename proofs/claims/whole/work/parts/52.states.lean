theorem min_5 : ∀ n, n ≤ 5 → (if nI 5 < nI (n + 1) then nI 5 else nI (n + 1)) = nI (if n < 5 then n + 1 else 5) := by decide +kernel
set_option maxRecDepth 100000 in
set_option maxHeartbeats 400000 in
theorem c_X1_keep_0 (w : GW) (tu : Int64) (sg : Sg) (sz : Nat) (hnx : sg 11 1 = nI 0) (hsz : sg 11 2 = nI sz) (hs5 : sz ≤ 5) : Kt w yX1_keep cX1_keep 2 none 2 [.ref (ad w 11), .ref (ad w 6)] sg tu (none) (us (wrR sg 13 (rowC sg 6)) 11 (upd (upd (sg 11) 1 (nI 1)) 2 (nI (if sz < 5 then sz + 1 else 5)))) tu := by
  refine Kt.of2 RX1 rfl [(0, .ref (ad w 11)), (1, .ref (ad w 6))] (by decide) rfl (Nat.le_of_ble_eq_true rfl) (fun z C E => ?_)
  refine g_aload_n C 0 rfl rfl dX1_keep_0 ?_
  refine g_getR C (j := 0) cls1 e_11 rfl (by decide) fl_X1_11 dX1_keep_1 ?_
  refine g_aload_n C 0 rfl rfl dX1_keep_4 ?_
  refine g_getI C (j := 1) cls1 e_11 rfl (by decide) fl_X1_17 dX1_keep_5 ?_
  refine g_top (y := (nI 0)) hnx ?_
  refine g_aaldN C 0 e_12 (by omega) (by decide) dX1_keep_8 ?_
  refine g_eq (L' := [(0, .ref (ad w 11)), (1, .ref (ad w 6))]) (S' := .ref (ad w 13) :: _) rfl rfl rfl rfl ?_
  refine g_aload_n C 1 rfl rfl dX1_keep_9 ?_
  refine g_callV0 [] C (c_X3_copyFrom_13_6 w tu sg  ) mt_X3_copyFrom e_13 rfl ml_X1_25 im_X3_copyFrom se_X3_copyFrom (by decide) rfl (Nat.le_of_ble_eq_true rfl) dX1_keep_10 ?_
  refine g_eq (sg' := (wrR sg 13 (rowC sg 6))) (L' := [(0, .ref (ad w 11)), (1, .ref (ad w 6))]) (S' := []) rfl rfl rfl rfl ?_
  refine g_aload_n C 0 rfl rfl dX1_keep_13 ?_
  refine g_aload_n C 0 rfl rfl dX1_keep_14 ?_
  refine g_getI C (j := 1) cls1 e_11 rfl (by decide) fl_X1_17 dX1_keep_15 ?_
  refine g_top (y := (nI 0)) (by rw [wrR_n (by omega)]; exact hnx) ?_
  refine g_iconst C (v := (nI 1)) (by decide) dX1_keep_18 ?_
  refine g_iadd C dX1_keep_19 ?_
  refine g_top (y := (nI 1)) (by rw [nI_add, Nat.zero_add]) ?_
  refine g_iconst C (v := (nI 5)) (by decide) dX1_keep_20 ?_
  refine g_irem C (by decide) dX1_keep_21 ?_
  refine g_top (y := (nI 1)) (by decide) ?_
  refine g_putI C (j := 1) cls1 e_11 rfl (by decide) rfl rfl fl_X1_17 dX1_keep_22 ?_
  refine g_sgE (sg' := (us (wrR sg 13 (rowC sg 6)) 11 (upd ((wrR sg 13 (rowC sg 6)) 11) 1 (nI 1)))) rfl ?_
  refine g_aload_n C 0 rfl rfl dX1_keep_25 ?_
  refine g_aload_n C 0 rfl rfl dX1_keep_26 ?_
  refine g_getI C (j := 2) cls1 e_11 rfl (by decide) fl_X1_21 dX1_keep_27 ?_
  refine g_top (y := ((wrR sg 13 (rowC sg 6)) 11 2)) rfl ?_
  refine g_top (y := (nI sz)) (by rw [wrR_n (by omega)]; exact hsz) ?_
  refine g_iconst C (v := (nI 1)) (by decide) dX1_keep_30 ?_
  refine g_iadd C dX1_keep_31 ?_
  refine g_top (y := (nI (sz + 1))) (nI_add sz 1) ?_
  refine g_iconst C (v := (nI 5)) (by decide) dX1_keep_32 ?_
  refine g_mmin C ml_X1_29 st_Lib_Math_min_name ini_J9 co_math_min (by decide) (Nat.le_of_ble_eq_true rfl) dX1_keep_33 ?_
  refine g_top (y := (nI (if sz < 5 then sz + 1 else 5))) (min_5 sz hs5) ?_
  refine g_putI C (j := 2) cls1 e_11 rfl (by decide) rfl rfl fl_X1_21 dX1_keep_36 ?_
  refine g_sgE (sg' := (us (wrR sg 13 (rowC sg 6)) 11 (upd (upd ((wrR sg 13 (rowC sg 6)) 11) 1 (nI 1)) 2 (nI (if sz < 5 then sz + 1 else 5))))) us_us ?_
  exact g_vret C E dX1_keep_39 Sq.rf rfl
set_option maxRecDepth 100000 in
set_option maxHeartbeats 400000 in
theorem c_X1_keep_1 (w : GW) (tu : Int64) (sg : Sg) (sz : Nat) (hnx : sg 11 1 = nI 1) (hsz : sg 11 2 = nI sz) (hs5 : sz ≤ 5) : Kt w yX1_keep cX1_keep 2 none 2 [.ref (ad w 11), .ref (ad w 6)] sg tu (none) (us (wrR sg 18 (rowC sg 6)) 11 (upd (upd (sg 11) 1 (nI 2)) 2 (nI (if sz < 5 then sz + 1 else 5)))) tu := by
  refine Kt.of2 RX1 rfl [(0, .ref (ad w 11)), (1, .ref (ad w 6))] (by decide) rfl (Nat.le_of_ble_eq_true rfl) (fun z C E => ?_)
  refine g_aload_n C 0 rfl rfl dX1_keep_0 ?_
  refine g_getR C (j := 0) cls1 e_11 rfl (by decide) fl_X1_11 dX1_keep_1 ?_
  refine g_aload_n C 0 rfl rfl dX1_keep_4 ?_
  refine g_getI C (j := 1) cls1 e_11 rfl (by decide) fl_X1_17 dX1_keep_5 ?_
  refine g_top (y := (nI 1)) hnx ?_
  refine g_aaldN C 1 e_12 (by omega) (by decide) dX1_keep_8 ?_
  refine g_eq (L' := [(0, .ref (ad w 11)), (1, .ref (ad w 6))]) (S' := .ref (ad w 18) :: _) rfl rfl rfl rfl ?_
  refine g_aload_n C 1 rfl rfl dX1_keep_9 ?_
  refine g_callV0 [] C (c_X3_copyFrom_18_6 w tu sg  ) mt_X3_copyFrom e_18 rfl ml_X1_25 im_X3_copyFrom se_X3_copyFrom (by decide) rfl (Nat.le_of_ble_eq_true rfl) dX1_keep_10 ?_
  refine g_eq (sg' := (wrR sg 18 (rowC sg 6))) (L' := [(0, .ref (ad w 11)), (1, .ref (ad w 6))]) (S' := []) rfl rfl rfl rfl ?_
  refine g_aload_n C 0 rfl rfl dX1_keep_13 ?_
  refine g_aload_n C 0 rfl rfl dX1_keep_14 ?_
  refine g_getI C (j := 1) cls1 e_11 rfl (by decide) fl_X1_17 dX1_keep_15 ?_
  refine g_top (y := (nI 1)) (by rw [wrR_n (by omega)]; exact hnx) ?_
  refine g_iconst C (v := (nI 1)) (by decide) dX1_keep_18 ?_
  refine g_iadd C dX1_keep_19 ?_
  refine g_top (y := (nI 2)) (nI_add 1 1) ?_
  refine g_iconst C (v := (nI 5)) (by decide) dX1_keep_20 ?_
  refine g_irem C (by decide) dX1_keep_21 ?_
  refine g_top (y := (nI 2)) (by decide) ?_
  refine g_putI C (j := 1) cls1 e_11 rfl (by decide) rfl rfl fl_X1_17 dX1_keep_22 ?_
  refine g_sgE (sg' := (us (wrR sg 18 (rowC sg 6)) 11 (upd ((wrR sg 18 (rowC sg 6)) 11) 1 (nI 2)))) rfl ?_
  refine g_aload_n C 0 rfl rfl dX1_keep_25 ?_
  refine g_aload_n C 0 rfl rfl dX1_keep_26 ?_
  refine g_getI C (j := 2) cls1 e_11 rfl (by decide) fl_X1_21 dX1_keep_27 ?_
  refine g_top (y := ((wrR sg 18 (rowC sg 6)) 11 2)) rfl ?_
  refine g_top (y := (nI sz)) (by rw [wrR_n (by omega)]; exact hsz) ?_
  refine g_iconst C (v := (nI 1)) (by decide) dX1_keep_30 ?_
  refine g_iadd C dX1_keep_31 ?_
  refine g_top (y := (nI (sz + 1))) (nI_add sz 1) ?_
  refine g_iconst C (v := (nI 5)) (by decide) dX1_keep_32 ?_
  refine g_mmin C ml_X1_29 st_Lib_Math_min_name ini_J9 co_math_min (by decide) (Nat.le_of_ble_eq_true rfl) dX1_keep_33 ?_
  refine g_top (y := (nI (if sz < 5 then sz + 1 else 5))) (min_5 sz hs5) ?_
  refine g_putI C (j := 2) cls1 e_11 rfl (by decide) rfl rfl fl_X1_21 dX1_keep_36 ?_
  refine g_sgE (sg' := (us (wrR sg 18 (rowC sg 6)) 11 (upd (upd ((wrR sg 18 (rowC sg 6)) 11) 1 (nI 2)) 2 (nI (if sz < 5 then sz + 1 else 5))))) us_us ?_
  exact g_vret C E dX1_keep_39 Sq.rf rfl
set_option maxRecDepth 100000 in
set_option maxHeartbeats 400000 in
theorem c_X1_keep_2 (w : GW) (tu : Int64) (sg : Sg) (sz : Nat) (hnx : sg 11 1 = nI 2) (hsz : sg 11 2 = nI sz) (hs5 : sz ≤ 5) : Kt w yX1_keep cX1_keep 2 none 2 [.ref (ad w 11), .ref (ad w 6)] sg tu (none) (us (wrR sg 23 (rowC sg 6)) 11 (upd (upd (sg 11) 1 (nI 3)) 2 (nI (if sz < 5 then sz + 1 else 5)))) tu := by
  refine Kt.of2 RX1 rfl [(0, .ref (ad w 11)), (1, .ref (ad w 6))] (by decide) rfl (Nat.le_of_ble_eq_true rfl) (fun z C E => ?_)
  refine g_aload_n C 0 rfl rfl dX1_keep_0 ?_
  refine g_getR C (j := 0) cls1 e_11 rfl (by decide) fl_X1_11 dX1_keep_1 ?_
  refine g_aload_n C 0 rfl rfl dX1_keep_4 ?_
  refine g_getI C (j := 1) cls1 e_11 rfl (by decide) fl_X1_17 dX1_keep_5 ?_
  refine g_top (y := (nI 2)) hnx ?_
  refine g_aaldN C 2 e_12 (by omega) (by decide) dX1_keep_8 ?_
  refine g_eq (L' := [(0, .ref (ad w 11)), (1, .ref (ad w 6))]) (S' := .ref (ad w 23) :: _) rfl rfl rfl rfl ?_
  refine g_aload_n C 1 rfl rfl dX1_keep_9 ?_
  refine g_callV0 [] C (c_X3_copyFrom_23_6 w tu sg  ) mt_X3_copyFrom e_23 rfl ml_X1_25 im_X3_copyFrom se_X3_copyFrom (by decide) rfl (Nat.le_of_ble_eq_true rfl) dX1_keep_10 ?_
  refine g_eq (sg' := (wrR sg 23 (rowC sg 6))) (L' := [(0, .ref (ad w 11)), (1, .ref (ad w 6))]) (S' := []) rfl rfl rfl rfl ?_
  refine g_aload_n C 0 rfl rfl dX1_keep_13 ?_
  refine g_aload_n C 0 rfl rfl dX1_keep_14 ?_
  refine g_getI C (j := 1) cls1 e_11 rfl (by decide) fl_X1_17 dX1_keep_15 ?_
  refine g_top (y := (nI 2)) (by rw [wrR_n (by omega)]; exact hnx) ?_
  refine g_iconst C (v := (nI 1)) (by decide) dX1_keep_18 ?_
  refine g_iadd C dX1_keep_19 ?_
  refine g_top (y := (nI 3)) (nI_add 2 1) ?_
  refine g_iconst C (v := (nI 5)) (by decide) dX1_keep_20 ?_
  refine g_irem C (by decide) dX1_keep_21 ?_
  refine g_top (y := (nI 3)) (by decide) ?_
  refine g_putI C (j := 1) cls1 e_11 rfl (by decide) rfl rfl fl_X1_17 dX1_keep_22 ?_
  refine g_sgE (sg' := (us (wrR sg 23 (rowC sg 6)) 11 (upd ((wrR sg 23 (rowC sg 6)) 11) 1 (nI 3)))) rfl ?_
  refine g_aload_n C 0 rfl rfl dX1_keep_25 ?_
  refine g_aload_n C 0 rfl rfl dX1_keep_26 ?_
  refine g_getI C (j := 2) cls1 e_11 rfl (by decide) fl_X1_21 dX1_keep_27 ?_
  refine g_top (y := ((wrR sg 23 (rowC sg 6)) 11 2)) rfl ?_
  refine g_top (y := (nI sz)) (by rw [wrR_n (by omega)]; exact hsz) ?_
  refine g_iconst C (v := (nI 1)) (by decide) dX1_keep_30 ?_
  refine g_iadd C dX1_keep_31 ?_
  refine g_top (y := (nI (sz + 1))) (nI_add sz 1) ?_
  refine g_iconst C (v := (nI 5)) (by decide) dX1_keep_32 ?_
  refine g_mmin C ml_X1_29 st_Lib_Math_min_name ini_J9 co_math_min (by decide) (Nat.le_of_ble_eq_true rfl) dX1_keep_33 ?_
  refine g_top (y := (nI (if sz < 5 then sz + 1 else 5))) (min_5 sz hs5) ?_
  refine g_putI C (j := 2) cls1 e_11 rfl (by decide) rfl rfl fl_X1_21 dX1_keep_36 ?_
  refine g_sgE (sg' := (us (wrR sg 23 (rowC sg 6)) 11 (upd (upd ((wrR sg 23 (rowC sg 6)) 11) 1 (nI 3)) 2 (nI (if sz < 5 then sz + 1 else 5))))) us_us ?_
  exact g_vret C E dX1_keep_39 Sq.rf rfl
set_option maxRecDepth 100000 in
set_option maxHeartbeats 400000 in
theorem c_X1_keep_3 (w : GW) (tu : Int64) (sg : Sg) (sz : Nat) (hnx : sg 11 1 = nI 3) (hsz : sg 11 2 = nI sz) (hs5 : sz ≤ 5) : Kt w yX1_keep cX1_keep 2 none 2 [.ref (ad w 11), .ref (ad w 6)] sg tu (none) (us (wrR sg 28 (rowC sg 6)) 11 (upd (upd (sg 11) 1 (nI 4)) 2 (nI (if sz < 5 then sz + 1 else 5)))) tu := by
  refine Kt.of2 RX1 rfl [(0, .ref (ad w 11)), (1, .ref (ad w 6))] (by decide) rfl (Nat.le_of_ble_eq_true rfl) (fun z C E => ?_)
  refine g_aload_n C 0 rfl rfl dX1_keep_0 ?_
  refine g_getR C (j := 0) cls1 e_11 rfl (by decide) fl_X1_11 dX1_keep_1 ?_
  refine g_aload_n C 0 rfl rfl dX1_keep_4 ?_
  refine g_getI C (j := 1) cls1 e_11 rfl (by decide) fl_X1_17 dX1_keep_5 ?_
  refine g_top (y := (nI 3)) hnx ?_
  refine g_aaldN C 3 e_12 (by omega) (by decide) dX1_keep_8 ?_
  refine g_eq (L' := [(0, .ref (ad w 11)), (1, .ref (ad w 6))]) (S' := .ref (ad w 28) :: _) rfl rfl rfl rfl ?_
  refine g_aload_n C 1 rfl rfl dX1_keep_9 ?_
  refine g_callV0 [] C (c_X3_copyFrom_28_6 w tu sg  ) mt_X3_copyFrom e_28 rfl ml_X1_25 im_X3_copyFrom se_X3_copyFrom (by decide) rfl (Nat.le_of_ble_eq_true rfl) dX1_keep_10 ?_
  refine g_eq (sg' := (wrR sg 28 (rowC sg 6))) (L' := [(0, .ref (ad w 11)), (1, .ref (ad w 6))]) (S' := []) rfl rfl rfl rfl ?_
  refine g_aload_n C 0 rfl rfl dX1_keep_13 ?_
  refine g_aload_n C 0 rfl rfl dX1_keep_14 ?_
  refine g_getI C (j := 1) cls1 e_11 rfl (by decide) fl_X1_17 dX1_keep_15 ?_
  refine g_top (y := (nI 3)) (by rw [wrR_n (by omega)]; exact hnx) ?_
  refine g_iconst C (v := (nI 1)) (by decide) dX1_keep_18 ?_
  refine g_iadd C dX1_keep_19 ?_
  refine g_top (y := (nI 4)) (nI_add 3 1) ?_
  refine g_iconst C (v := (nI 5)) (by decide) dX1_keep_20 ?_
  refine g_irem C (by decide) dX1_keep_21 ?_
  refine g_top (y := (nI 4)) (by decide) ?_
  refine g_putI C (j := 1) cls1 e_11 rfl (by decide) rfl rfl fl_X1_17 dX1_keep_22 ?_
  refine g_sgE (sg' := (us (wrR sg 28 (rowC sg 6)) 11 (upd ((wrR sg 28 (rowC sg 6)) 11) 1 (nI 4)))) rfl ?_
  refine g_aload_n C 0 rfl rfl dX1_keep_25 ?_
  refine g_aload_n C 0 rfl rfl dX1_keep_26 ?_
  refine g_getI C (j := 2) cls1 e_11 rfl (by decide) fl_X1_21 dX1_keep_27 ?_
  refine g_top (y := ((wrR sg 28 (rowC sg 6)) 11 2)) rfl ?_
  refine g_top (y := (nI sz)) (by rw [wrR_n (by omega)]; exact hsz) ?_
  refine g_iconst C (v := (nI 1)) (by decide) dX1_keep_30 ?_
  refine g_iadd C dX1_keep_31 ?_
  refine g_top (y := (nI (sz + 1))) (nI_add sz 1) ?_
  refine g_iconst C (v := (nI 5)) (by decide) dX1_keep_32 ?_
  refine g_mmin C ml_X1_29 st_Lib_Math_min_name ini_J9 co_math_min (by decide) (Nat.le_of_ble_eq_true rfl) dX1_keep_33 ?_
  refine g_top (y := (nI (if sz < 5 then sz + 1 else 5))) (min_5 sz hs5) ?_
  refine g_putI C (j := 2) cls1 e_11 rfl (by decide) rfl rfl fl_X1_21 dX1_keep_36 ?_
  refine g_sgE (sg' := (us (wrR sg 28 (rowC sg 6)) 11 (upd (upd ((wrR sg 28 (rowC sg 6)) 11) 1 (nI 4)) 2 (nI (if sz < 5 then sz + 1 else 5))))) us_us ?_
  exact g_vret C E dX1_keep_39 Sq.rf rfl
set_option maxRecDepth 100000 in
set_option maxHeartbeats 400000 in
theorem c_X1_keep_4 (w : GW) (tu : Int64) (sg : Sg) (sz : Nat) (hnx : sg 11 1 = nI 4) (hsz : sg 11 2 = nI sz) (hs5 : sz ≤ 5) : Kt w yX1_keep cX1_keep 2 none 2 [.ref (ad w 11), .ref (ad w 6)] sg tu (none) (us (wrR sg 33 (rowC sg 6)) 11 (upd (upd (sg 11) 1 (nI 0)) 2 (nI (if sz < 5 then sz + 1 else 5)))) tu := by
  refine Kt.of2 RX1 rfl [(0, .ref (ad w 11)), (1, .ref (ad w 6))] (by decide) rfl (Nat.le_of_ble_eq_true rfl) (fun z C E => ?_)
  refine g_aload_n C 0 rfl rfl dX1_keep_0 ?_
  refine g_getR C (j := 0) cls1 e_11 rfl (by decide) fl_X1_11 dX1_keep_1 ?_
  refine g_aload_n C 0 rfl rfl dX1_keep_4 ?_
  refine g_getI C (j := 1) cls1 e_11 rfl (by decide) fl_X1_17 dX1_keep_5 ?_
  refine g_top (y := (nI 4)) hnx ?_
  refine g_aaldN C 4 e_12 (by omega) (by decide) dX1_keep_8 ?_
  refine g_eq (L' := [(0, .ref (ad w 11)), (1, .ref (ad w 6))]) (S' := .ref (ad w 33) :: _) rfl rfl rfl rfl ?_
  refine g_aload_n C 1 rfl rfl dX1_keep_9 ?_
  refine g_callV0 [] C (c_X3_copyFrom_33_6 w tu sg  ) mt_X3_copyFrom e_33 rfl ml_X1_25 im_X3_copyFrom se_X3_copyFrom (by decide) rfl (Nat.le_of_ble_eq_true rfl) dX1_keep_10 ?_
  refine g_eq (sg' := (wrR sg 33 (rowC sg 6))) (L' := [(0, .ref (ad w 11)), (1, .ref (ad w 6))]) (S' := []) rfl rfl rfl rfl ?_
  refine g_aload_n C 0 rfl rfl dX1_keep_13 ?_
  refine g_aload_n C 0 rfl rfl dX1_keep_14 ?_
  refine g_getI C (j := 1) cls1 e_11 rfl (by decide) fl_X1_17 dX1_keep_15 ?_
  refine g_top (y := (nI 4)) (by rw [wrR_n (by omega)]; exact hnx) ?_
  refine g_iconst C (v := (nI 1)) (by decide) dX1_keep_18 ?_
  refine g_iadd C dX1_keep_19 ?_
  refine g_top (y := (nI 5)) (nI_add 4 1) ?_
  refine g_iconst C (v := (nI 5)) (by decide) dX1_keep_20 ?_
  refine g_irem C (by decide) dX1_keep_21 ?_
  refine g_top (y := (nI 0)) (by decide) ?_
  refine g_putI C (j := 1) cls1 e_11 rfl (by decide) rfl rfl fl_X1_17 dX1_keep_22 ?_
  refine g_sgE (sg' := (us (wrR sg 33 (rowC sg 6)) 11 (upd ((wrR sg 33 (rowC sg 6)) 11) 1 (nI 0)))) rfl ?_
  refine g_aload_n C 0 rfl rfl dX1_keep_25 ?_
  refine g_aload_n C 0 rfl rfl dX1_keep_26 ?_
  refine g_getI C (j := 2) cls1 e_11 rfl (by decide) fl_X1_21 dX1_keep_27 ?_
  refine g_top (y := ((wrR sg 33 (rowC sg 6)) 11 2)) rfl ?_
  refine g_top (y := (nI sz)) (by rw [wrR_n (by omega)]; exact hsz) ?_
  refine g_iconst C (v := (nI 1)) (by decide) dX1_keep_30 ?_
  refine g_iadd C dX1_keep_31 ?_
  refine g_top (y := (nI (sz + 1))) (nI_add sz 1) ?_
  refine g_iconst C (v := (nI 5)) (by decide) dX1_keep_32 ?_
  refine g_mmin C ml_X1_29 st_Lib_Math_min_name ini_J9 co_math_min (by decide) (Nat.le_of_ble_eq_true rfl) dX1_keep_33 ?_
  refine g_top (y := (nI (if sz < 5 then sz + 1 else 5))) (min_5 sz hs5) ?_
  refine g_putI C (j := 2) cls1 e_11 rfl (by decide) rfl rfl fl_X1_21 dX1_keep_36 ?_
  refine g_sgE (sg' := (us (wrR sg 33 (rowC sg 6)) 11 (upd (upd ((wrR sg 33 (rowC sg 6)) 11) 1 (nI 0)) 2 (nI (if sz < 5 then sz + 1 else 5))))) us_us ?_
  exact g_vret C E dX1_keep_39 Sq.rf rfl
