set_option maxRecDepth 100000 in
set_option maxHeartbeats 400000 in
theorem c_X1_giveBackTo_z (w : GW) (tu : Int64) (sg : Sg) (hsz : sg 11 2 = nI 0) : Kt w yX1_giveBackTo cX1_giveBackTo 2 none 0 [.ref (ad w 11), .ref (ad w 1)] sg tu (none) sg tu := by
  refine Kt.of2 RX1 rfl [(0, .ref (ad w 11)), (1, .ref (ad w 1))] (by decide) rfl (Nat.le_of_ble_eq_true rfl) (fun z C E => ?_)
  refine g_aload_n C 0 rfl rfl dX1_giveBackTo_0 ?_
  refine g_getI C (j := 2) cls1 e_11 rfl (by decide) fl_X1_21 dX1_giveBackTo_1 ?_
  refine g_top (y := (nI 0)) hsz ?_
  refine g_if_ne C (tgt := 8) (by decide) dX1_giveBackTo_4 (fun h4 => absurd h4 (by decide)) (fun h4 => ?_)
  exact g_vret C E dX1_giveBackTo_7 Sq.rf rfl
set_option maxRecDepth 100000 in
set_option maxHeartbeats 400000 in
theorem c_X1_giveBackTo_0 (w : GW) (tu : Int64) (sg : Sg) (sz : Nat) (hnx : sg 11 1 = nI 0) (hsz : sg 11 2 = nI (sz + 1)) (hs5 : sz < 5) : Kt w yX1_giveBackTo cX1_giveBackTo 2 none 2 [.ref (ad w 11), .ref (ad w 1)] sg tu (none) (wrR (us sg 11 (upd (upd (sg 11) 1 (nI 4)) 2 (nI sz))) 1 (rowC (us sg 11 (upd (upd (sg 11) 1 (nI 4)) 2 (nI sz))) 33)) tu := by
  refine Kt.of2 RX1 rfl [(0, .ref (ad w 11)), (1, .ref (ad w 1))] (by decide) rfl (Nat.le_of_ble_eq_true rfl) (fun z C E => ?_)
  refine g_aload_n C 0 rfl rfl dX1_giveBackTo_0 ?_
  refine g_getI C (j := 2) cls1 e_11 rfl (by decide) fl_X1_21 dX1_giveBackTo_1 ?_
  refine g_top (y := (nI (sz + 1))) hsz ?_
  refine g_ifN_ne C (sz + 1) (by omega) (tgt := 8) (by decide) dX1_giveBackTo_4 (fun h4 => ?_) (fun h4 => absurd h4 (by omega))
  refine g_aload_n C 0 rfl rfl dX1_giveBackTo_8 ?_
  refine g_aload_n C 0 rfl rfl dX1_giveBackTo_9 ?_
  refine g_getI C (j := 1) cls1 e_11 rfl (by decide) fl_X1_17 dX1_giveBackTo_10 ?_
  refine g_top (y := (nI 0)) hnx ?_
  refine g_iconst C (v := (nI 5)) (by decide) dX1_giveBackTo_13 ?_
  refine g_iadd C dX1_giveBackTo_14 ?_
  refine g_top (y := (nI 5)) (by rw [nI_add, Nat.zero_add]) ?_
  refine g_iconst C (v := (nI 1)) (by decide) dX1_giveBackTo_15 ?_
  refine g_isub C dX1_giveBackTo_16 ?_
  refine g_top (y := (nI 4)) (by decide) ?_
  refine g_iconst C (v := (nI 5)) (by decide) dX1_giveBackTo_17 ?_
  refine g_irem C (by decide) dX1_giveBackTo_18 ?_
  refine g_top (y := (nI 4)) (by first | rfl | decide) ?_
  refine g_putI C (j := 1) cls1 e_11 rfl (by decide) rfl rfl fl_X1_17 dX1_giveBackTo_19 ?_
  refine g_sgE (sg' := (us sg 11 (upd (sg 11) 1 (nI 4)))) rfl ?_
  refine g_aload_n C 0 rfl rfl dX1_giveBackTo_22 ?_
  refine g_dup C rfl dX1_giveBackTo_23 ?_
  refine g_getI C (j := 2) cls1 e_11 rfl (by decide) fl_X1_21 dX1_giveBackTo_24 ?_
  refine g_top (y := (nI (sz + 1))) hsz ?_
  refine g_iconst C (v := (nI 1)) (by decide) dX1_giveBackTo_27 ?_
  refine g_isub C dX1_giveBackTo_28 ?_
  refine g_top (y := (nI sz)) (by first | rfl | exact pk_sub (by omega)) ?_
  refine g_putI C (j := 2) cls1 e_11 rfl (by decide) rfl rfl fl_X1_21 dX1_giveBackTo_29 ?_
  refine g_sgE (sg' := (us sg 11 (upd (upd (sg 11) 1 (nI 4)) 2 (nI sz)))) us_us ?_
  refine g_aload_n C 1 rfl rfl dX1_giveBackTo_32 ?_
  refine g_aload_n C 0 rfl rfl dX1_giveBackTo_33 ?_
  refine g_getR C (j := 0) cls1 e_11 rfl (by decide) fl_X1_11 dX1_giveBackTo_34 ?_
  refine g_aload_n C 0 rfl rfl dX1_giveBackTo_37 ?_
  refine g_getI C (j := 1) cls1 e_11 rfl (by decide) fl_X1_17 dX1_giveBackTo_38 ?_
  refine g_top (y := (nI 4)) rfl ?_
  refine g_aaldN C 4 e_12 (by omega) (by decide) dX1_giveBackTo_41 ?_
  refine g_eq (L' := [(0, .ref (ad w 11)), (1, .ref (ad w 1))]) (S' := .ref (ad w 33) :: _) rfl rfl rfl rfl ?_
  refine g_callV0 [] C (c_X3_copyFrom_1_33 w tu (us sg 11 (upd (upd (sg 11) 1 (nI 4)) 2 (nI sz)))  ) mt_X3_copyFrom e_1 rfl ml_X1_25 im_X3_copyFrom se_X3_copyFrom (by decide) rfl (Nat.le_of_ble_eq_true rfl) dX1_giveBackTo_42 ?_
  refine g_eq (sg' := (wrR (us sg 11 (upd (upd (sg 11) 1 (nI 4)) 2 (nI sz))) 1 (rowC (us sg 11 (upd (upd (sg 11) 1 (nI 4)) 2 (nI sz))) 33))) (L' := [(0, .ref (ad w 11)), (1, .ref (ad w 1))]) (S' := []) rfl rfl rfl rfl ?_
  exact g_vret C E dX1_giveBackTo_45 Sq.rf rfl
set_option maxRecDepth 100000 in
set_option maxHeartbeats 400000 in
theorem c_X1_giveBackTo_1 (w : GW) (tu : Int64) (sg : Sg) (sz : Nat) (hnx : sg 11 1 = nI 1) (hsz : sg 11 2 = nI (sz + 1)) (hs5 : sz < 5) : Kt w yX1_giveBackTo cX1_giveBackTo 2 none 2 [.ref (ad w 11), .ref (ad w 1)] sg tu (none) (wrR (us sg 11 (upd (upd (sg 11) 1 (nI 0)) 2 (nI sz))) 1 (rowC (us sg 11 (upd (upd (sg 11) 1 (nI 0)) 2 (nI sz))) 13)) tu := by
  refine Kt.of2 RX1 rfl [(0, .ref (ad w 11)), (1, .ref (ad w 1))] (by decide) rfl (Nat.le_of_ble_eq_true rfl) (fun z C E => ?_)
  refine g_aload_n C 0 rfl rfl dX1_giveBackTo_0 ?_
  refine g_getI C (j := 2) cls1 e_11 rfl (by decide) fl_X1_21 dX1_giveBackTo_1 ?_
  refine g_top (y := (nI (sz + 1))) hsz ?_
  refine g_ifN_ne C (sz + 1) (by omega) (tgt := 8) (by decide) dX1_giveBackTo_4 (fun h4 => ?_) (fun h4 => absurd h4 (by omega))
  refine g_aload_n C 0 rfl rfl dX1_giveBackTo_8 ?_
  refine g_aload_n C 0 rfl rfl dX1_giveBackTo_9 ?_
  refine g_getI C (j := 1) cls1 e_11 rfl (by decide) fl_X1_17 dX1_giveBackTo_10 ?_
  refine g_top (y := (nI 1)) hnx ?_
  refine g_iconst C (v := (nI 5)) (by decide) dX1_giveBackTo_13 ?_
  refine g_iadd C dX1_giveBackTo_14 ?_
  refine g_top (y := (nI 6)) (nI_add 1 5) ?_
  refine g_iconst C (v := (nI 1)) (by decide) dX1_giveBackTo_15 ?_
  refine g_isub C dX1_giveBackTo_16 ?_
  refine g_top (y := (nI 5)) (by decide) ?_
  refine g_iconst C (v := (nI 5)) (by decide) dX1_giveBackTo_17 ?_
  refine g_irem C (by decide) dX1_giveBackTo_18 ?_
  refine g_top (y := (nI 0)) (by first | rfl | decide) ?_
  refine g_putI C (j := 1) cls1 e_11 rfl (by decide) rfl rfl fl_X1_17 dX1_giveBackTo_19 ?_
  refine g_sgE (sg' := (us sg 11 (upd (sg 11) 1 (nI 0)))) rfl ?_
  refine g_aload_n C 0 rfl rfl dX1_giveBackTo_22 ?_
  refine g_dup C rfl dX1_giveBackTo_23 ?_
  refine g_getI C (j := 2) cls1 e_11 rfl (by decide) fl_X1_21 dX1_giveBackTo_24 ?_
  refine g_top (y := (nI (sz + 1))) hsz ?_
  refine g_iconst C (v := (nI 1)) (by decide) dX1_giveBackTo_27 ?_
  refine g_isub C dX1_giveBackTo_28 ?_
  refine g_top (y := (nI sz)) (by first | rfl | exact pk_sub (by omega)) ?_
  refine g_putI C (j := 2) cls1 e_11 rfl (by decide) rfl rfl fl_X1_21 dX1_giveBackTo_29 ?_
  refine g_sgE (sg' := (us sg 11 (upd (upd (sg 11) 1 (nI 0)) 2 (nI sz)))) us_us ?_
  refine g_aload_n C 1 rfl rfl dX1_giveBackTo_32 ?_
  refine g_aload_n C 0 rfl rfl dX1_giveBackTo_33 ?_
  refine g_getR C (j := 0) cls1 e_11 rfl (by decide) fl_X1_11 dX1_giveBackTo_34 ?_
  refine g_aload_n C 0 rfl rfl dX1_giveBackTo_37 ?_
  refine g_getI C (j := 1) cls1 e_11 rfl (by decide) fl_X1_17 dX1_giveBackTo_38 ?_
  refine g_top (y := (nI 0)) rfl ?_
  refine g_aaldN C 0 e_12 (by omega) (by decide) dX1_giveBackTo_41 ?_
  refine g_eq (L' := [(0, .ref (ad w 11)), (1, .ref (ad w 1))]) (S' := .ref (ad w 13) :: _) rfl rfl rfl rfl ?_
  refine g_callV0 [] C (c_X3_copyFrom_1_13 w tu (us sg 11 (upd (upd (sg 11) 1 (nI 0)) 2 (nI sz)))  ) mt_X3_copyFrom e_1 rfl ml_X1_25 im_X3_copyFrom se_X3_copyFrom (by decide) rfl (Nat.le_of_ble_eq_true rfl) dX1_giveBackTo_42 ?_
  refine g_eq (sg' := (wrR (us sg 11 (upd (upd (sg 11) 1 (nI 0)) 2 (nI sz))) 1 (rowC (us sg 11 (upd (upd (sg 11) 1 (nI 0)) 2 (nI sz))) 13))) (L' := [(0, .ref (ad w 11)), (1, .ref (ad w 1))]) (S' := []) rfl rfl rfl rfl ?_
  exact g_vret C E dX1_giveBackTo_45 Sq.rf rfl
set_option maxRecDepth 100000 in
set_option maxHeartbeats 400000 in
theorem c_X1_giveBackTo_2 (w : GW) (tu : Int64) (sg : Sg) (sz : Nat) (hnx : sg 11 1 = nI 2) (hsz : sg 11 2 = nI (sz + 1)) (hs5 : sz < 5) : Kt w yX1_giveBackTo cX1_giveBackTo 2 none 2 [.ref (ad w 11), .ref (ad w 1)] sg tu (none) (wrR (us sg 11 (upd (upd (sg 11) 1 (nI 1)) 2 (nI sz))) 1 (rowC (us sg 11 (upd (upd (sg 11) 1 (nI 1)) 2 (nI sz))) 18)) tu := by
  refine Kt.of2 RX1 rfl [(0, .ref (ad w 11)), (1, .ref (ad w 1))] (by decide) rfl (Nat.le_of_ble_eq_true rfl) (fun z C E => ?_)
  refine g_aload_n C 0 rfl rfl dX1_giveBackTo_0 ?_
  refine g_getI C (j := 2) cls1 e_11 rfl (by decide) fl_X1_21 dX1_giveBackTo_1 ?_
  refine g_top (y := (nI (sz + 1))) hsz ?_
  refine g_ifN_ne C (sz + 1) (by omega) (tgt := 8) (by decide) dX1_giveBackTo_4 (fun h4 => ?_) (fun h4 => absurd h4 (by omega))
  refine g_aload_n C 0 rfl rfl dX1_giveBackTo_8 ?_
  refine g_aload_n C 0 rfl rfl dX1_giveBackTo_9 ?_
  refine g_getI C (j := 1) cls1 e_11 rfl (by decide) fl_X1_17 dX1_giveBackTo_10 ?_
  refine g_top (y := (nI 2)) hnx ?_
  refine g_iconst C (v := (nI 5)) (by decide) dX1_giveBackTo_13 ?_
  refine g_iadd C dX1_giveBackTo_14 ?_
  refine g_top (y := (nI 7)) (nI_add 2 5) ?_
  refine g_iconst C (v := (nI 1)) (by decide) dX1_giveBackTo_15 ?_
  refine g_isub C dX1_giveBackTo_16 ?_
  refine g_top (y := (nI 6)) (by decide) ?_
  refine g_iconst C (v := (nI 5)) (by decide) dX1_giveBackTo_17 ?_
  refine g_irem C (by decide) dX1_giveBackTo_18 ?_
  refine g_top (y := (nI 1)) (by first | rfl | decide) ?_
  refine g_putI C (j := 1) cls1 e_11 rfl (by decide) rfl rfl fl_X1_17 dX1_giveBackTo_19 ?_
  refine g_sgE (sg' := (us sg 11 (upd (sg 11) 1 (nI 1)))) rfl ?_
  refine g_aload_n C 0 rfl rfl dX1_giveBackTo_22 ?_
  refine g_dup C rfl dX1_giveBackTo_23 ?_
  refine g_getI C (j := 2) cls1 e_11 rfl (by decide) fl_X1_21 dX1_giveBackTo_24 ?_
  refine g_top (y := (nI (sz + 1))) hsz ?_
  refine g_iconst C (v := (nI 1)) (by decide) dX1_giveBackTo_27 ?_
  refine g_isub C dX1_giveBackTo_28 ?_
  refine g_top (y := (nI sz)) (by first | rfl | exact pk_sub (by omega)) ?_
  refine g_putI C (j := 2) cls1 e_11 rfl (by decide) rfl rfl fl_X1_21 dX1_giveBackTo_29 ?_
  refine g_sgE (sg' := (us sg 11 (upd (upd (sg 11) 1 (nI 1)) 2 (nI sz)))) us_us ?_
  refine g_aload_n C 1 rfl rfl dX1_giveBackTo_32 ?_
  refine g_aload_n C 0 rfl rfl dX1_giveBackTo_33 ?_
  refine g_getR C (j := 0) cls1 e_11 rfl (by decide) fl_X1_11 dX1_giveBackTo_34 ?_
  refine g_aload_n C 0 rfl rfl dX1_giveBackTo_37 ?_
  refine g_getI C (j := 1) cls1 e_11 rfl (by decide) fl_X1_17 dX1_giveBackTo_38 ?_
  refine g_top (y := (nI 1)) rfl ?_
  refine g_aaldN C 1 e_12 (by omega) (by decide) dX1_giveBackTo_41 ?_
  refine g_eq (L' := [(0, .ref (ad w 11)), (1, .ref (ad w 1))]) (S' := .ref (ad w 18) :: _) rfl rfl rfl rfl ?_
  refine g_callV0 [] C (c_X3_copyFrom_1_18 w tu (us sg 11 (upd (upd (sg 11) 1 (nI 1)) 2 (nI sz)))  ) mt_X3_copyFrom e_1 rfl ml_X1_25 im_X3_copyFrom se_X3_copyFrom (by decide) rfl (Nat.le_of_ble_eq_true rfl) dX1_giveBackTo_42 ?_
  refine g_eq (sg' := (wrR (us sg 11 (upd (upd (sg 11) 1 (nI 1)) 2 (nI sz))) 1 (rowC (us sg 11 (upd (upd (sg 11) 1 (nI 1)) 2 (nI sz))) 18))) (L' := [(0, .ref (ad w 11)), (1, .ref (ad w 1))]) (S' := []) rfl rfl rfl rfl ?_
  exact g_vret C E dX1_giveBackTo_45 Sq.rf rfl
set_option maxRecDepth 100000 in
set_option maxHeartbeats 400000 in
theorem c_X1_giveBackTo_3 (w : GW) (tu : Int64) (sg : Sg) (sz : Nat) (hnx : sg 11 1 = nI 3) (hsz : sg 11 2 = nI (sz + 1)) (hs5 : sz < 5) : Kt w yX1_giveBackTo cX1_giveBackTo 2 none 2 [.ref (ad w 11), .ref (ad w 1)] sg tu (none) (wrR (us sg 11 (upd (upd (sg 11) 1 (nI 2)) 2 (nI sz))) 1 (rowC (us sg 11 (upd (upd (sg 11) 1 (nI 2)) 2 (nI sz))) 23)) tu := by
  refine Kt.of2 RX1 rfl [(0, .ref (ad w 11)), (1, .ref (ad w 1))] (by decide) rfl (Nat.le_of_ble_eq_true rfl) (fun z C E => ?_)
  refine g_aload_n C 0 rfl rfl dX1_giveBackTo_0 ?_
  refine g_getI C (j := 2) cls1 e_11 rfl (by decide) fl_X1_21 dX1_giveBackTo_1 ?_
  refine g_top (y := (nI (sz + 1))) hsz ?_
  refine g_ifN_ne C (sz + 1) (by omega) (tgt := 8) (by decide) dX1_giveBackTo_4 (fun h4 => ?_) (fun h4 => absurd h4 (by omega))
  refine g_aload_n C 0 rfl rfl dX1_giveBackTo_8 ?_
  refine g_aload_n C 0 rfl rfl dX1_giveBackTo_9 ?_
  refine g_getI C (j := 1) cls1 e_11 rfl (by decide) fl_X1_17 dX1_giveBackTo_10 ?_
  refine g_top (y := (nI 3)) hnx ?_
  refine g_iconst C (v := (nI 5)) (by decide) dX1_giveBackTo_13 ?_
  refine g_iadd C dX1_giveBackTo_14 ?_
  refine g_top (y := (nI 8)) (nI_add 3 5) ?_
  refine g_iconst C (v := (nI 1)) (by decide) dX1_giveBackTo_15 ?_
  refine g_isub C dX1_giveBackTo_16 ?_
  refine g_top (y := (nI 7)) (by decide) ?_
  refine g_iconst C (v := (nI 5)) (by decide) dX1_giveBackTo_17 ?_
  refine g_irem C (by decide) dX1_giveBackTo_18 ?_
  refine g_top (y := (nI 2)) (by first | rfl | decide) ?_
  refine g_putI C (j := 1) cls1 e_11 rfl (by decide) rfl rfl fl_X1_17 dX1_giveBackTo_19 ?_
  refine g_sgE (sg' := (us sg 11 (upd (sg 11) 1 (nI 2)))) rfl ?_
  refine g_aload_n C 0 rfl rfl dX1_giveBackTo_22 ?_
  refine g_dup C rfl dX1_giveBackTo_23 ?_
  refine g_getI C (j := 2) cls1 e_11 rfl (by decide) fl_X1_21 dX1_giveBackTo_24 ?_
  refine g_top (y := (nI (sz + 1))) hsz ?_
  refine g_iconst C (v := (nI 1)) (by decide) dX1_giveBackTo_27 ?_
  refine g_isub C dX1_giveBackTo_28 ?_
  refine g_top (y := (nI sz)) (by first | rfl | exact pk_sub (by omega)) ?_
  refine g_putI C (j := 2) cls1 e_11 rfl (by decide) rfl rfl fl_X1_21 dX1_giveBackTo_29 ?_
  refine g_sgE (sg' := (us sg 11 (upd (upd (sg 11) 1 (nI 2)) 2 (nI sz)))) us_us ?_
  refine g_aload_n C 1 rfl rfl dX1_giveBackTo_32 ?_
  refine g_aload_n C 0 rfl rfl dX1_giveBackTo_33 ?_
  refine g_getR C (j := 0) cls1 e_11 rfl (by decide) fl_X1_11 dX1_giveBackTo_34 ?_
  refine g_aload_n C 0 rfl rfl dX1_giveBackTo_37 ?_
  refine g_getI C (j := 1) cls1 e_11 rfl (by decide) fl_X1_17 dX1_giveBackTo_38 ?_
  refine g_top (y := (nI 2)) rfl ?_
  refine g_aaldN C 2 e_12 (by omega) (by decide) dX1_giveBackTo_41 ?_
  refine g_eq (L' := [(0, .ref (ad w 11)), (1, .ref (ad w 1))]) (S' := .ref (ad w 23) :: _) rfl rfl rfl rfl ?_
  refine g_callV0 [] C (c_X3_copyFrom_1_23 w tu (us sg 11 (upd (upd (sg 11) 1 (nI 2)) 2 (nI sz)))  ) mt_X3_copyFrom e_1 rfl ml_X1_25 im_X3_copyFrom se_X3_copyFrom (by decide) rfl (Nat.le_of_ble_eq_true rfl) dX1_giveBackTo_42 ?_
  refine g_eq (sg' := (wrR (us sg 11 (upd (upd (sg 11) 1 (nI 2)) 2 (nI sz))) 1 (rowC (us sg 11 (upd (upd (sg 11) 1 (nI 2)) 2 (nI sz))) 23))) (L' := [(0, .ref (ad w 11)), (1, .ref (ad w 1))]) (S' := []) rfl rfl rfl rfl ?_
  exact g_vret C E dX1_giveBackTo_45 Sq.rf rfl
set_option maxRecDepth 100000 in
set_option maxHeartbeats 400000 in
theorem c_X1_giveBackTo_4 (w : GW) (tu : Int64) (sg : Sg) (sz : Nat) (hnx : sg 11 1 = nI 4) (hsz : sg 11 2 = nI (sz + 1)) (hs5 : sz < 5) : Kt w yX1_giveBackTo cX1_giveBackTo 2 none 2 [.ref (ad w 11), .ref (ad w 1)] sg tu (none) (wrR (us sg 11 (upd (upd (sg 11) 1 (nI 3)) 2 (nI sz))) 1 (rowC (us sg 11 (upd (upd (sg 11) 1 (nI 3)) 2 (nI sz))) 28)) tu := by
  refine Kt.of2 RX1 rfl [(0, .ref (ad w 11)), (1, .ref (ad w 1))] (by decide) rfl (Nat.le_of_ble_eq_true rfl) (fun z C E => ?_)
  refine g_aload_n C 0 rfl rfl dX1_giveBackTo_0 ?_
  refine g_getI C (j := 2) cls1 e_11 rfl (by decide) fl_X1_21 dX1_giveBackTo_1 ?_
  refine g_top (y := (nI (sz + 1))) hsz ?_
  refine g_ifN_ne C (sz + 1) (by omega) (tgt := 8) (by decide) dX1_giveBackTo_4 (fun h4 => ?_) (fun h4 => absurd h4 (by omega))
  refine g_aload_n C 0 rfl rfl dX1_giveBackTo_8 ?_
  refine g_aload_n C 0 rfl rfl dX1_giveBackTo_9 ?_
  refine g_getI C (j := 1) cls1 e_11 rfl (by decide) fl_X1_17 dX1_giveBackTo_10 ?_
  refine g_top (y := (nI 4)) hnx ?_
  refine g_iconst C (v := (nI 5)) (by decide) dX1_giveBackTo_13 ?_
  refine g_iadd C dX1_giveBackTo_14 ?_
  refine g_top (y := (nI 9)) (nI_add 4 5) ?_
  refine g_iconst C (v := (nI 1)) (by decide) dX1_giveBackTo_15 ?_
  refine g_isub C dX1_giveBackTo_16 ?_
  refine g_top (y := (nI 8)) (by decide) ?_
  refine g_iconst C (v := (nI 5)) (by decide) dX1_giveBackTo_17 ?_
  refine g_irem C (by decide) dX1_giveBackTo_18 ?_
  refine g_top (y := (nI 3)) (by first | rfl | decide) ?_
  refine g_putI C (j := 1) cls1 e_11 rfl (by decide) rfl rfl fl_X1_17 dX1_giveBackTo_19 ?_
  refine g_sgE (sg' := (us sg 11 (upd (sg 11) 1 (nI 3)))) rfl ?_
  refine g_aload_n C 0 rfl rfl dX1_giveBackTo_22 ?_
  refine g_dup C rfl dX1_giveBackTo_23 ?_
  refine g_getI C (j := 2) cls1 e_11 rfl (by decide) fl_X1_21 dX1_giveBackTo_24 ?_
  refine g_top (y := (nI (sz + 1))) hsz ?_
  refine g_iconst C (v := (nI 1)) (by decide) dX1_giveBackTo_27 ?_
  refine g_isub C dX1_giveBackTo_28 ?_
  refine g_top (y := (nI sz)) (by first | rfl | exact pk_sub (by omega)) ?_
  refine g_putI C (j := 2) cls1 e_11 rfl (by decide) rfl rfl fl_X1_21 dX1_giveBackTo_29 ?_
  refine g_sgE (sg' := (us sg 11 (upd (upd (sg 11) 1 (nI 3)) 2 (nI sz)))) us_us ?_
  refine g_aload_n C 1 rfl rfl dX1_giveBackTo_32 ?_
  refine g_aload_n C 0 rfl rfl dX1_giveBackTo_33 ?_
  refine g_getR C (j := 0) cls1 e_11 rfl (by decide) fl_X1_11 dX1_giveBackTo_34 ?_
  refine g_aload_n C 0 rfl rfl dX1_giveBackTo_37 ?_
  refine g_getI C (j := 1) cls1 e_11 rfl (by decide) fl_X1_17 dX1_giveBackTo_38 ?_
  refine g_top (y := (nI 3)) rfl ?_
  refine g_aaldN C 3 e_12 (by omega) (by decide) dX1_giveBackTo_41 ?_
  refine g_eq (L' := [(0, .ref (ad w 11)), (1, .ref (ad w 1))]) (S' := .ref (ad w 28) :: _) rfl rfl rfl rfl ?_
  refine g_callV0 [] C (c_X3_copyFrom_1_28 w tu (us sg 11 (upd (upd (sg 11) 1 (nI 3)) 2 (nI sz)))  ) mt_X3_copyFrom e_1 rfl ml_X1_25 im_X3_copyFrom se_X3_copyFrom (by decide) rfl (Nat.le_of_ble_eq_true rfl) dX1_giveBackTo_42 ?_
  refine g_eq (sg' := (wrR (us sg 11 (upd (upd (sg 11) 1 (nI 3)) 2 (nI sz))) 1 (rowC (us sg 11 (upd (upd (sg 11) 1 (nI 3)) 2 (nI sz))) 28))) (L' := [(0, .ref (ad w 11)), (1, .ref (ad w 1))]) (S' := []) rfl rfl rfl rfl ?_
  exact g_vret C E dX1_giveBackTo_45 Sq.rf rfl
