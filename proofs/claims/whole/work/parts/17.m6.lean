set_option maxRecDepth 100000 in
set_option maxHeartbeats 400000 in
theorem c_X5_turnsOnce_up (w : GW) (tu : Int64) (sg : Sg) (cts : Int32) (g : Nat → Nat) (hok : ROk (sg 45)) (hgi : ∀ i, i < 6 → sg 50 i = nI (g i)) (hg9 : ∀ i, i < 6 → g i ≤ 9) : Kt w yX5_turnsOnce cX5_turnsOnce 5 (some .boolean) 1 [.ref (ad w 44), .int (nI 1), .int cts] sg tu (some (.int (bI (blP true (wN (sg 45)) g (sN (sg 45)) (sN (sg 45) + 5 + reN (sg 45)))))) (us sg 45 (tR true cts g (sg 45))) tu := by
  refine Kt.of2 RX5 rfl [(0, .ref (ad w 44)), (1, .int (nI 1)), (2, .int cts)] (by decide) rfl (Nat.le_of_ble_eq_true rfl) (fun z C E => ?_)
  refine g_aload_n C 0 rfl rfl dX5_turnsOnce_0 ?_
  refine g_getR C (j := 0) cls5 e_44 rfl (by decide) fl_X5_7 dX5_turnsOnce_1 ?_
  refine g_bipush C (v := (nI 31)) (by decide) dX5_turnsOnce_4 ?_
  refine g_ialdN C 31 e_45 (by decide) (by decide) dX5_turnsOnce_6 ?_
  refine g_top (y := (nI (sN (sg 45)))) hok.2.2.2.1.1 ?_
  have hs6 := hok.2.2.2.1.2
  refine g_istore_n C (L' := [(3, .int (nI (sN (sg 45)))), (0, .ref (ad w 44)), (1, .int (nI 1)), (2, .int cts)]) rfl (by decide) rfl dX5_turnsOnce_7 ?_
  refine g_aload_n C 1 rfl rfl dX5_turnsOnce_8 ?_
  refine g_aload_n C 1 rfl rfl dX5_turnsOnce_9 ?_
  refine g_getR C (j := 0) cls5 e_44 rfl (by decide) fl_X5_7 dX5_turnsOnce_10 ?_
  refine g_bipush C (v := (nI 12)) (by decide) dX5_turnsOnce_13 ?_
  refine g_iload_n C 0 rfl rfl dX5_turnsOnce_15 ?_
  refine g_iload_n C 2 rfl rfl dX5_turnsOnce_16 ?_
  refine g_callV1 [] C (c_X5_turnsBy_now_up w tu sg (sN (sg 45)) (wN (sg 45)) g (reN (sg 45)) hs6 hok.2.2.2.2.1 hok.2.2.2.2.2 (fun k hk => (hok.2.2.1 k hk).1) (fun k hk => (hok.2.2.1 k hk).2) hgi hg9) mt_X5_turnsBy e_44 rfl ml_X5_61 im_X5_turnsBy se_X5_turnsBy (by decide) rfl (Nat.le_of_ble_eq_true rfl) dX5_turnsOnce_17 ?_
  refine g_eq (sg' := (us sg 45 (emb 12 (tw true (wN (sg 45)) g (sN (sg 45)) ((sN (sg 45)) + 5 + (reN (sg 45)))) (sg 45)))) (L' := [(3, .int (nI (sN (sg 45)))), (0, .ref (ad w 44)), (1, .int (nI 1)), (2, .int cts)]) (S' := [.int (bI (blP true (wN (sg 45)) g (sN (sg 45)) ((sN (sg 45)) + 5 + (reN (sg 45)))))]) rfl rfl rfl rfl ?_
  refine g_istore C (L' := [(4, .int (bI (blP true (wN (sg 45)) g (sN (sg 45)) ((sN (sg 45)) + 5 + (reN (sg 45)))))), (3, .int (nI (sN (sg 45)))), (0, .ref (ad w 44)), (1, .int (nI 1)), (2, .int cts)]) (by decide) rfl dX5_turnsOnce_20 ?_
  refine g_aload_n C 2 rfl rfl dX5_turnsOnce_22 ?_
  refine g_getR C (j := 0) cls5 e_44 rfl (by decide) fl_X5_7 dX5_turnsOnce_23 ?_
  refine g_bipush C (v := (nI 33)) (by decide) dX5_turnsOnce_26 ?_
  refine g_dup2 C rfl rfl dX5_turnsOnce_28 ?_
  refine g_ialdN C 33 e_45 (by decide) (by decide) dX5_turnsOnce_29 ?_
  refine g_top (y := ((emb 12 (tw true (wN (sg 45)) g (sN (sg 45)) ((sN (sg 45)) + 5 + (reN (sg 45)))) (sg 45)) 33)) rfl ?_
  refine g_top (y := (sg 45 33)) (emb_out (by decide)) ?_
  refine g_iload C 0 rfl dX5_turnsOnce_30 ?_
  refine g_bif_eq C (tgt := 39) (by decide) dX5_turnsOnce_32 (fun h32 => ?_) (fun h32 => ?_)
  ·
    refine g_iconst C (v := (nI 0)) (by decide) dX5_turnsOnce_39 ?_
    refine g_iadd C dX5_turnsOnce_40 ?_
    refine g_top (y := sg 45 33 + bI (blP true (wN (sg 45)) g (sN (sg 45)) (sN (sg 45) + 5 + reN (sg 45)))) (by rw [bI_f h32]; rfl) ?_
    refine g_iastN C 33 e_45 (by decide) (by decide) dX5_turnsOnce_41 ?_
    refine g_sgE (sg' := (us sg 45 (upd (emb 12 (tw true (wN (sg 45)) g (sN (sg 45)) ((sN (sg 45)) + 5 + (reN (sg 45)))) (sg 45)) 33 (sg 45 33 + bI (blP true (wN (sg 45)) g (sN (sg 45)) (sN (sg 45) + 5 + reN (sg 45))))))) us_us ?_
    refine g_aload_n C 2 rfl rfl dX5_turnsOnce_42 ?_
    refine g_getR C (j := 0) cls5 e_44 rfl (by decide) fl_X5_7 dX5_turnsOnce_43 ?_
    refine g_bipush C (v := (nI 24)) (by decide) dX5_turnsOnce_46 ?_
    refine g_iload_n C 1 rfl rfl dX5_turnsOnce_48 ?_
    refine g_iadd C dX5_turnsOnce_49 ?_
    refine g_top (y := (nI (24 + (sN (sg 45))))) (nI_add 24 (sN (sg 45))) ?_
    refine g_aload_n C 2 rfl rfl dX5_turnsOnce_50 ?_
    refine g_getR C (j := 0) cls5 e_44 rfl (by decide) fl_X5_7 dX5_turnsOnce_51 ?_
    refine g_bipush C (v := (nI 24)) (by decide) dX5_turnsOnce_54 ?_
    refine g_iload_n C 1 rfl rfl dX5_turnsOnce_56 ?_
    refine g_iadd C dX5_turnsOnce_57 ?_
    refine g_top (y := (nI (24 + (sN (sg 45))))) (nI_add 24 (sN (sg 45))) ?_
    refine g_ialdN C (24 + (sN (sg 45))) e_45 (by omega) (by decide) dX5_turnsOnce_58 ?_
    refine g_top (y := ((upd (emb 12 (tw true (wN (sg 45)) g (sN (sg 45)) ((sN (sg 45)) + 5 + (reN (sg 45)))) (sg 45)) 33 (sg 45 33 + bI (blP true (wN (sg 45)) g (sN (sg 45)) (sN (sg 45) + 5 + reN (sg 45))))) (24 + (sN (sg 45))))) rfl ?_
    refine g_top (y := (sg 45 (24 + sN (sg 45)))) (by rw [upd_ne (by omega), emb_out (by omega)]) ?_
    refine g_iload_n C 4 rfl rfl dX5_turnsOnce_59 ?_
    refine g_iadd C dX5_turnsOnce_60 ?_
    refine g_bipush C (v := (nI 10)) (by decide) dX5_turnsOnce_61 ?_
    refine g_iadd C dX5_turnsOnce_63 ?_
    refine g_bipush C (v := (nI 10)) (by decide) dX5_turnsOnce_64 ?_
    refine g_irem C (by decide) dX5_turnsOnce_66 ?_
    refine g_top (y := ctI (sg 45 (24 + sN (sg 45))) cts) rfl ?_
    refine g_iastN C (24 + (sN (sg 45))) e_45 (by omega) (by decide) dX5_turnsOnce_67 ?_
    refine g_sgE (sg' := (us sg 45 (upd (upd (emb 12 (tw true (wN (sg 45)) g (sN (sg 45)) ((sN (sg 45)) + 5 + (reN (sg 45)))) (sg 45)) 33 (sg 45 33 + bI (blP true (wN (sg 45)) g (sN (sg 45)) (sN (sg 45) + 5 + reN (sg 45))))) (24 + (sN (sg 45))) (ctI (sg 45 (24 + sN (sg 45))) cts)))) us_us ?_
    refine g_aload_n C 2 rfl rfl dX5_turnsOnce_68 ?_
    refine g_getR C (j := 0) cls5 e_44 rfl (by decide) fl_X5_7 dX5_turnsOnce_69 ?_
    refine g_bipush C (v := (nI 34)) (by decide) dX5_turnsOnce_72 ?_
    refine g_dup2 C rfl rfl dX5_turnsOnce_74 ?_
    refine g_ialdN C 34 e_45 (by decide) (by decide) dX5_turnsOnce_75 ?_
    refine g_top (y := ((upd (upd (emb 12 (tw true (wN (sg 45)) g (sN (sg 45)) ((sN (sg 45)) + 5 + (reN (sg 45)))) (sg 45)) 33 (sg 45 33 + bI (blP true (wN (sg 45)) g (sN (sg 45)) (sN (sg 45) + 5 + reN (sg 45))))) (24 + (sN (sg 45))) (ctI (sg 45 (24 + sN (sg 45))) cts)) 34)) rfl ?_
    refine g_top (y := (sg 45 34)) (by rw [upd_ne (by omega), upd_ne (by decide), emb_out (by decide)]) ?_
    refine g_iconst C (v := (nI 1)) (by decide) dX5_turnsOnce_76 ?_
    refine g_iadd C dX5_turnsOnce_77 ?_
    refine g_iastN C 34 e_45 (by decide) (by decide) dX5_turnsOnce_78 ?_
    refine g_sgE (sg' := (us sg 45 (upd (upd (upd (emb 12 (tw true (wN (sg 45)) g (sN (sg 45)) ((sN (sg 45)) + 5 + (reN (sg 45)))) (sg 45)) 33 (sg 45 33 + bI (blP true (wN (sg 45)) g (sN (sg 45)) (sN (sg 45) + 5 + reN (sg 45))))) (24 + (sN (sg 45))) (ctI (sg 45 (24 + sN (sg 45))) cts)) 34 ((sg 45 34) + (nI 1))))) us_us ?_
    refine g_iload C 0 rfl dX5_turnsOnce_79 ?_
    exact g_zret C E dX5_turnsOnce_81 bI_nar rfl Sq.rf rfl
  ·
    refine g_iconst C (v := (nI 1)) (by decide) dX5_turnsOnce_35 ?_
    refine g_goto C (tgt := 40) (by decide) dX5_turnsOnce_36 ?_
    refine g_iadd C dX5_turnsOnce_40 ?_
    refine g_top (y := sg 45 33 + bI (blP true (wN (sg 45)) g (sN (sg 45)) (sN (sg 45) + 5 + reN (sg 45)))) (by rw [bI_t h32]; rfl) ?_
    refine g_iastN C 33 e_45 (by decide) (by decide) dX5_turnsOnce_41 ?_
    refine g_sgE (sg' := (us sg 45 (upd (emb 12 (tw true (wN (sg 45)) g (sN (sg 45)) ((sN (sg 45)) + 5 + (reN (sg 45)))) (sg 45)) 33 (sg 45 33 + bI (blP true (wN (sg 45)) g (sN (sg 45)) (sN (sg 45) + 5 + reN (sg 45))))))) us_us ?_
    refine g_aload_n C 2 rfl rfl dX5_turnsOnce_42 ?_
    refine g_getR C (j := 0) cls5 e_44 rfl (by decide) fl_X5_7 dX5_turnsOnce_43 ?_
    refine g_bipush C (v := (nI 24)) (by decide) dX5_turnsOnce_46 ?_
    refine g_iload_n C 1 rfl rfl dX5_turnsOnce_48 ?_
    refine g_iadd C dX5_turnsOnce_49 ?_
    refine g_top (y := (nI (24 + (sN (sg 45))))) (nI_add 24 (sN (sg 45))) ?_
    refine g_aload_n C 2 rfl rfl dX5_turnsOnce_50 ?_
    refine g_getR C (j := 0) cls5 e_44 rfl (by decide) fl_X5_7 dX5_turnsOnce_51 ?_
    refine g_bipush C (v := (nI 24)) (by decide) dX5_turnsOnce_54 ?_
    refine g_iload_n C 1 rfl rfl dX5_turnsOnce_56 ?_
    refine g_iadd C dX5_turnsOnce_57 ?_
    refine g_top (y := (nI (24 + (sN (sg 45))))) (nI_add 24 (sN (sg 45))) ?_
    refine g_ialdN C (24 + (sN (sg 45))) e_45 (by omega) (by decide) dX5_turnsOnce_58 ?_
    refine g_top (y := ((upd (emb 12 (tw true (wN (sg 45)) g (sN (sg 45)) ((sN (sg 45)) + 5 + (reN (sg 45)))) (sg 45)) 33 (sg 45 33 + bI (blP true (wN (sg 45)) g (sN (sg 45)) (sN (sg 45) + 5 + reN (sg 45))))) (24 + (sN (sg 45))))) rfl ?_
    refine g_top (y := (sg 45 (24 + sN (sg 45)))) (by rw [upd_ne (by omega), emb_out (by omega)]) ?_
    refine g_iload_n C 4 rfl rfl dX5_turnsOnce_59 ?_
    refine g_iadd C dX5_turnsOnce_60 ?_
    refine g_bipush C (v := (nI 10)) (by decide) dX5_turnsOnce_61 ?_
    refine g_iadd C dX5_turnsOnce_63 ?_
    refine g_bipush C (v := (nI 10)) (by decide) dX5_turnsOnce_64 ?_
    refine g_irem C (by decide) dX5_turnsOnce_66 ?_
    refine g_top (y := ctI (sg 45 (24 + sN (sg 45))) cts) rfl ?_
    refine g_iastN C (24 + (sN (sg 45))) e_45 (by omega) (by decide) dX5_turnsOnce_67 ?_
    refine g_sgE (sg' := (us sg 45 (upd (upd (emb 12 (tw true (wN (sg 45)) g (sN (sg 45)) ((sN (sg 45)) + 5 + (reN (sg 45)))) (sg 45)) 33 (sg 45 33 + bI (blP true (wN (sg 45)) g (sN (sg 45)) (sN (sg 45) + 5 + reN (sg 45))))) (24 + (sN (sg 45))) (ctI (sg 45 (24 + sN (sg 45))) cts)))) us_us ?_
    refine g_aload_n C 2 rfl rfl dX5_turnsOnce_68 ?_
    refine g_getR C (j := 0) cls5 e_44 rfl (by decide) fl_X5_7 dX5_turnsOnce_69 ?_
    refine g_bipush C (v := (nI 34)) (by decide) dX5_turnsOnce_72 ?_
    refine g_dup2 C rfl rfl dX5_turnsOnce_74 ?_
    refine g_ialdN C 34 e_45 (by decide) (by decide) dX5_turnsOnce_75 ?_
    refine g_top (y := ((upd (upd (emb 12 (tw true (wN (sg 45)) g (sN (sg 45)) ((sN (sg 45)) + 5 + (reN (sg 45)))) (sg 45)) 33 (sg 45 33 + bI (blP true (wN (sg 45)) g (sN (sg 45)) (sN (sg 45) + 5 + reN (sg 45))))) (24 + (sN (sg 45))) (ctI (sg 45 (24 + sN (sg 45))) cts)) 34)) rfl ?_
    refine g_top (y := (sg 45 34)) (by rw [upd_ne (by omega), upd_ne (by decide), emb_out (by decide)]) ?_
    refine g_iconst C (v := (nI 1)) (by decide) dX5_turnsOnce_76 ?_
    refine g_iadd C dX5_turnsOnce_77 ?_
    refine g_iastN C 34 e_45 (by decide) (by decide) dX5_turnsOnce_78 ?_
    refine g_sgE (sg' := (us sg 45 (upd (upd (upd (emb 12 (tw true (wN (sg 45)) g (sN (sg 45)) ((sN (sg 45)) + 5 + (reN (sg 45)))) (sg 45)) 33 (sg 45 33 + bI (blP true (wN (sg 45)) g (sN (sg 45)) (sN (sg 45) + 5 + reN (sg 45))))) (24 + (sN (sg 45))) (ctI (sg 45 (24 + sN (sg 45))) cts)) 34 ((sg 45 34) + (nI 1))))) us_us ?_
    refine g_iload C 0 rfl dX5_turnsOnce_79 ?_
    exact g_zret C E dX5_turnsOnce_81 bI_nar rfl Sq.rf rfl
set_option maxRecDepth 100000 in
set_option maxHeartbeats 400000 in
theorem c_X5_turnsOnce_dn (w : GW) (tu : Int64) (sg : Sg) (cts : Int32) (g : Nat → Nat) (hok : ROk (sg 45)) (hgi : ∀ i, i < 6 → sg 50 i = nI (g i)) (hg9 : ∀ i, i < 6 → g i ≤ 9) : Kt w yX5_turnsOnce cX5_turnsOnce 5 (some .boolean) 1 [.ref (ad w 44), .int (-1), .int cts] sg tu (some (.int (bI (blP false (wN (sg 45)) g (sN (sg 45)) (sN (sg 45) + 5 + reN (sg 45)))))) (us sg 45 (tR false cts g (sg 45))) tu := by
  refine Kt.of2 RX5 rfl [(0, .ref (ad w 44)), (1, .int (-1)), (2, .int cts)] (by decide) rfl (Nat.le_of_ble_eq_true rfl) (fun z C E => ?_)
  refine g_aload_n C 0 rfl rfl dX5_turnsOnce_0 ?_
  refine g_getR C (j := 0) cls5 e_44 rfl (by decide) fl_X5_7 dX5_turnsOnce_1 ?_
  refine g_bipush C (v := (nI 31)) (by decide) dX5_turnsOnce_4 ?_
  refine g_ialdN C 31 e_45 (by decide) (by decide) dX5_turnsOnce_6 ?_
  refine g_top (y := (nI (sN (sg 45)))) hok.2.2.2.1.1 ?_
  have hs6 := hok.2.2.2.1.2
  refine g_istore_n C (L' := [(3, .int (nI (sN (sg 45)))), (0, .ref (ad w 44)), (1, .int (-1)), (2, .int cts)]) rfl (by decide) rfl dX5_turnsOnce_7 ?_
  refine g_aload_n C 1 rfl rfl dX5_turnsOnce_8 ?_
  refine g_aload_n C 1 rfl rfl dX5_turnsOnce_9 ?_
  refine g_getR C (j := 0) cls5 e_44 rfl (by decide) fl_X5_7 dX5_turnsOnce_10 ?_
  refine g_bipush C (v := (nI 12)) (by decide) dX5_turnsOnce_13 ?_
  refine g_iload_n C 0 rfl rfl dX5_turnsOnce_15 ?_
  refine g_iload_n C 2 rfl rfl dX5_turnsOnce_16 ?_
  refine g_callV1 [] C (c_X5_turnsBy_now_dn w tu sg (sN (sg 45)) (wN (sg 45)) g (reN (sg 45)) hs6 hok.2.2.2.2.1 hok.2.2.2.2.2 (fun k hk => (hok.2.2.1 k hk).1) (fun k hk => (hok.2.2.1 k hk).2) hgi hg9) mt_X5_turnsBy e_44 rfl ml_X5_61 im_X5_turnsBy se_X5_turnsBy (by decide) rfl (Nat.le_of_ble_eq_true rfl) dX5_turnsOnce_17 ?_
  refine g_eq (sg' := (us sg 45 (emb 12 (tw false (wN (sg 45)) g (sN (sg 45)) ((sN (sg 45)) + 5 + (reN (sg 45)))) (sg 45)))) (L' := [(3, .int (nI (sN (sg 45)))), (0, .ref (ad w 44)), (1, .int (-1)), (2, .int cts)]) (S' := [.int (bI (blP false (wN (sg 45)) g (sN (sg 45)) ((sN (sg 45)) + 5 + (reN (sg 45)))))]) rfl rfl rfl rfl ?_
  refine g_istore C (L' := [(4, .int (bI (blP false (wN (sg 45)) g (sN (sg 45)) ((sN (sg 45)) + 5 + (reN (sg 45)))))), (3, .int (nI (sN (sg 45)))), (0, .ref (ad w 44)), (1, .int (-1)), (2, .int cts)]) (by decide) rfl dX5_turnsOnce_20 ?_
  refine g_aload_n C 2 rfl rfl dX5_turnsOnce_22 ?_
  refine g_getR C (j := 0) cls5 e_44 rfl (by decide) fl_X5_7 dX5_turnsOnce_23 ?_
  refine g_bipush C (v := (nI 33)) (by decide) dX5_turnsOnce_26 ?_
  refine g_dup2 C rfl rfl dX5_turnsOnce_28 ?_
  refine g_ialdN C 33 e_45 (by decide) (by decide) dX5_turnsOnce_29 ?_
  refine g_top (y := ((emb 12 (tw false (wN (sg 45)) g (sN (sg 45)) ((sN (sg 45)) + 5 + (reN (sg 45)))) (sg 45)) 33)) rfl ?_
  refine g_top (y := (sg 45 33)) (emb_out (by decide)) ?_
  refine g_iload C 0 rfl dX5_turnsOnce_30 ?_
  refine g_bif_eq C (tgt := 39) (by decide) dX5_turnsOnce_32 (fun h32 => ?_) (fun h32 => ?_)
  ·
    refine g_iconst C (v := (nI 0)) (by decide) dX5_turnsOnce_39 ?_
    refine g_iadd C dX5_turnsOnce_40 ?_
    refine g_top (y := sg 45 33 + bI (blP false (wN (sg 45)) g (sN (sg 45)) (sN (sg 45) + 5 + reN (sg 45)))) (by rw [bI_f h32]; rfl) ?_
    refine g_iastN C 33 e_45 (by decide) (by decide) dX5_turnsOnce_41 ?_
    refine g_sgE (sg' := (us sg 45 (upd (emb 12 (tw false (wN (sg 45)) g (sN (sg 45)) ((sN (sg 45)) + 5 + (reN (sg 45)))) (sg 45)) 33 (sg 45 33 + bI (blP false (wN (sg 45)) g (sN (sg 45)) (sN (sg 45) + 5 + reN (sg 45))))))) us_us ?_
    refine g_aload_n C 2 rfl rfl dX5_turnsOnce_42 ?_
    refine g_getR C (j := 0) cls5 e_44 rfl (by decide) fl_X5_7 dX5_turnsOnce_43 ?_
    refine g_bipush C (v := (nI 24)) (by decide) dX5_turnsOnce_46 ?_
    refine g_iload_n C 1 rfl rfl dX5_turnsOnce_48 ?_
    refine g_iadd C dX5_turnsOnce_49 ?_
    refine g_top (y := (nI (24 + (sN (sg 45))))) (nI_add 24 (sN (sg 45))) ?_
    refine g_aload_n C 2 rfl rfl dX5_turnsOnce_50 ?_
    refine g_getR C (j := 0) cls5 e_44 rfl (by decide) fl_X5_7 dX5_turnsOnce_51 ?_
    refine g_bipush C (v := (nI 24)) (by decide) dX5_turnsOnce_54 ?_
    refine g_iload_n C 1 rfl rfl dX5_turnsOnce_56 ?_
    refine g_iadd C dX5_turnsOnce_57 ?_
    refine g_top (y := (nI (24 + (sN (sg 45))))) (nI_add 24 (sN (sg 45))) ?_
    refine g_ialdN C (24 + (sN (sg 45))) e_45 (by omega) (by decide) dX5_turnsOnce_58 ?_
    refine g_top (y := ((upd (emb 12 (tw false (wN (sg 45)) g (sN (sg 45)) ((sN (sg 45)) + 5 + (reN (sg 45)))) (sg 45)) 33 (sg 45 33 + bI (blP false (wN (sg 45)) g (sN (sg 45)) (sN (sg 45) + 5 + reN (sg 45))))) (24 + (sN (sg 45))))) rfl ?_
    refine g_top (y := (sg 45 (24 + sN (sg 45)))) (by rw [upd_ne (by omega), emb_out (by omega)]) ?_
    refine g_iload_n C 4 rfl rfl dX5_turnsOnce_59 ?_
    refine g_iadd C dX5_turnsOnce_60 ?_
    refine g_bipush C (v := (nI 10)) (by decide) dX5_turnsOnce_61 ?_
    refine g_iadd C dX5_turnsOnce_63 ?_
    refine g_bipush C (v := (nI 10)) (by decide) dX5_turnsOnce_64 ?_
    refine g_irem C (by decide) dX5_turnsOnce_66 ?_
    refine g_top (y := ctI (sg 45 (24 + sN (sg 45))) cts) rfl ?_
    refine g_iastN C (24 + (sN (sg 45))) e_45 (by omega) (by decide) dX5_turnsOnce_67 ?_
    refine g_sgE (sg' := (us sg 45 (upd (upd (emb 12 (tw false (wN (sg 45)) g (sN (sg 45)) ((sN (sg 45)) + 5 + (reN (sg 45)))) (sg 45)) 33 (sg 45 33 + bI (blP false (wN (sg 45)) g (sN (sg 45)) (sN (sg 45) + 5 + reN (sg 45))))) (24 + (sN (sg 45))) (ctI (sg 45 (24 + sN (sg 45))) cts)))) us_us ?_
    refine g_aload_n C 2 rfl rfl dX5_turnsOnce_68 ?_
    refine g_getR C (j := 0) cls5 e_44 rfl (by decide) fl_X5_7 dX5_turnsOnce_69 ?_
    refine g_bipush C (v := (nI 34)) (by decide) dX5_turnsOnce_72 ?_
    refine g_dup2 C rfl rfl dX5_turnsOnce_74 ?_
    refine g_ialdN C 34 e_45 (by decide) (by decide) dX5_turnsOnce_75 ?_
    refine g_top (y := ((upd (upd (emb 12 (tw false (wN (sg 45)) g (sN (sg 45)) ((sN (sg 45)) + 5 + (reN (sg 45)))) (sg 45)) 33 (sg 45 33 + bI (blP false (wN (sg 45)) g (sN (sg 45)) (sN (sg 45) + 5 + reN (sg 45))))) (24 + (sN (sg 45))) (ctI (sg 45 (24 + sN (sg 45))) cts)) 34)) rfl ?_
    refine g_top (y := (sg 45 34)) (by rw [upd_ne (by omega), upd_ne (by decide), emb_out (by decide)]) ?_
    refine g_iconst C (v := (nI 1)) (by decide) dX5_turnsOnce_76 ?_
    refine g_iadd C dX5_turnsOnce_77 ?_
    refine g_iastN C 34 e_45 (by decide) (by decide) dX5_turnsOnce_78 ?_
    refine g_sgE (sg' := (us sg 45 (upd (upd (upd (emb 12 (tw false (wN (sg 45)) g (sN (sg 45)) ((sN (sg 45)) + 5 + (reN (sg 45)))) (sg 45)) 33 (sg 45 33 + bI (blP false (wN (sg 45)) g (sN (sg 45)) (sN (sg 45) + 5 + reN (sg 45))))) (24 + (sN (sg 45))) (ctI (sg 45 (24 + sN (sg 45))) cts)) 34 ((sg 45 34) + (nI 1))))) us_us ?_
    refine g_iload C 0 rfl dX5_turnsOnce_79 ?_
    exact g_zret C E dX5_turnsOnce_81 bI_nar rfl Sq.rf rfl
  ·
    refine g_iconst C (v := (nI 1)) (by decide) dX5_turnsOnce_35 ?_
    refine g_goto C (tgt := 40) (by decide) dX5_turnsOnce_36 ?_
    refine g_iadd C dX5_turnsOnce_40 ?_
    refine g_top (y := sg 45 33 + bI (blP false (wN (sg 45)) g (sN (sg 45)) (sN (sg 45) + 5 + reN (sg 45)))) (by rw [bI_t h32]; rfl) ?_
    refine g_iastN C 33 e_45 (by decide) (by decide) dX5_turnsOnce_41 ?_
    refine g_sgE (sg' := (us sg 45 (upd (emb 12 (tw false (wN (sg 45)) g (sN (sg 45)) ((sN (sg 45)) + 5 + (reN (sg 45)))) (sg 45)) 33 (sg 45 33 + bI (blP false (wN (sg 45)) g (sN (sg 45)) (sN (sg 45) + 5 + reN (sg 45))))))) us_us ?_
    refine g_aload_n C 2 rfl rfl dX5_turnsOnce_42 ?_
    refine g_getR C (j := 0) cls5 e_44 rfl (by decide) fl_X5_7 dX5_turnsOnce_43 ?_
    refine g_bipush C (v := (nI 24)) (by decide) dX5_turnsOnce_46 ?_
    refine g_iload_n C 1 rfl rfl dX5_turnsOnce_48 ?_
    refine g_iadd C dX5_turnsOnce_49 ?_
    refine g_top (y := (nI (24 + (sN (sg 45))))) (nI_add 24 (sN (sg 45))) ?_
    refine g_aload_n C 2 rfl rfl dX5_turnsOnce_50 ?_
    refine g_getR C (j := 0) cls5 e_44 rfl (by decide) fl_X5_7 dX5_turnsOnce_51 ?_
    refine g_bipush C (v := (nI 24)) (by decide) dX5_turnsOnce_54 ?_
    refine g_iload_n C 1 rfl rfl dX5_turnsOnce_56 ?_
    refine g_iadd C dX5_turnsOnce_57 ?_
    refine g_top (y := (nI (24 + (sN (sg 45))))) (nI_add 24 (sN (sg 45))) ?_
    refine g_ialdN C (24 + (sN (sg 45))) e_45 (by omega) (by decide) dX5_turnsOnce_58 ?_
    refine g_top (y := ((upd (emb 12 (tw false (wN (sg 45)) g (sN (sg 45)) ((sN (sg 45)) + 5 + (reN (sg 45)))) (sg 45)) 33 (sg 45 33 + bI (blP false (wN (sg 45)) g (sN (sg 45)) (sN (sg 45) + 5 + reN (sg 45))))) (24 + (sN (sg 45))))) rfl ?_
    refine g_top (y := (sg 45 (24 + sN (sg 45)))) (by rw [upd_ne (by omega), emb_out (by omega)]) ?_
    refine g_iload_n C 4 rfl rfl dX5_turnsOnce_59 ?_
    refine g_iadd C dX5_turnsOnce_60 ?_
    refine g_bipush C (v := (nI 10)) (by decide) dX5_turnsOnce_61 ?_
    refine g_iadd C dX5_turnsOnce_63 ?_
    refine g_bipush C (v := (nI 10)) (by decide) dX5_turnsOnce_64 ?_
    refine g_irem C (by decide) dX5_turnsOnce_66 ?_
    refine g_top (y := ctI (sg 45 (24 + sN (sg 45))) cts) rfl ?_
    refine g_iastN C (24 + (sN (sg 45))) e_45 (by omega) (by decide) dX5_turnsOnce_67 ?_
    refine g_sgE (sg' := (us sg 45 (upd (upd (emb 12 (tw false (wN (sg 45)) g (sN (sg 45)) ((sN (sg 45)) + 5 + (reN (sg 45)))) (sg 45)) 33 (sg 45 33 + bI (blP false (wN (sg 45)) g (sN (sg 45)) (sN (sg 45) + 5 + reN (sg 45))))) (24 + (sN (sg 45))) (ctI (sg 45 (24 + sN (sg 45))) cts)))) us_us ?_
    refine g_aload_n C 2 rfl rfl dX5_turnsOnce_68 ?_
    refine g_getR C (j := 0) cls5 e_44 rfl (by decide) fl_X5_7 dX5_turnsOnce_69 ?_
    refine g_bipush C (v := (nI 34)) (by decide) dX5_turnsOnce_72 ?_
    refine g_dup2 C rfl rfl dX5_turnsOnce_74 ?_
    refine g_ialdN C 34 e_45 (by decide) (by decide) dX5_turnsOnce_75 ?_
    refine g_top (y := ((upd (upd (emb 12 (tw false (wN (sg 45)) g (sN (sg 45)) ((sN (sg 45)) + 5 + (reN (sg 45)))) (sg 45)) 33 (sg 45 33 + bI (blP false (wN (sg 45)) g (sN (sg 45)) (sN (sg 45) + 5 + reN (sg 45))))) (24 + (sN (sg 45))) (ctI (sg 45 (24 + sN (sg 45))) cts)) 34)) rfl ?_
    refine g_top (y := (sg 45 34)) (by rw [upd_ne (by omega), upd_ne (by decide), emb_out (by decide)]) ?_
    refine g_iconst C (v := (nI 1)) (by decide) dX5_turnsOnce_76 ?_
    refine g_iadd C dX5_turnsOnce_77 ?_
    refine g_iastN C 34 e_45 (by decide) (by decide) dX5_turnsOnce_78 ?_
    refine g_sgE (sg' := (us sg 45 (upd (upd (upd (emb 12 (tw false (wN (sg 45)) g (sN (sg 45)) ((sN (sg 45)) + 5 + (reN (sg 45)))) (sg 45)) 33 (sg 45 33 + bI (blP false (wN (sg 45)) g (sN (sg 45)) (sN (sg 45) + 5 + reN (sg 45))))) (24 + (sN (sg 45))) (ctI (sg 45 (24 + sN (sg 45))) cts)) 34 ((sg 45 34) + (nI 1))))) us_us ?_
    refine g_iload C 0 rfl dX5_turnsOnce_79 ?_
    exact g_zret C E dX5_turnsOnce_81 bI_nar rfl Sq.rf rfl
set_option maxRecDepth 100000 in
set_option maxHeartbeats 400000 in
theorem c_X5_doesTurns_up (w : GW) (tu : Int64) (sg : Sg) (n : Nat) (hn1 : 1 ≤ n) (hn : n ≤ 99) (hok : ROk (sg 45)) : Kt w yX5_doesTurns cX5_doesTurns 5 (some .int) 2 [.ref (ad w 44), .int (nI n), .int (nI 1)] sg tu (some (.int (rgs true (nI 1) (gN (sg 45)) (sg 45) n))) (us (us sg 50 (fun d => whX ((sg 45) (6 + d)) (dN (sg 45) d + 1))) 45 (itR true (nI 1) (gN (sg 45)) n (sg 45))) tu := by
  refine Kt.of2 RX5 rfl [(0, .ref (ad w 44)), (1, .int (nI n)), (2, .int (nI 1))] (by decide) rfl (Nat.le_of_ble_eq_true rfl) (fun z C E => ?_)
  refine g_iload_n C 1 rfl rfl dX5_doesTurns_0 ?_
  refine g_i2l C dX5_doesTurns_1 ?_
  refine g_lconst C (v := 1) (by decide) dX5_doesTurns_2 ?_
  refine g_ldc2 C cn_X5_65 dX5_doesTurns_3 ?_
  refine g_callS1 [] C (c_X5_in_t w tu sg (Int32.toInt64 (nI n)) 1 99 (in_ok1 (n := 99) (by omega) (by omega) (by decide))) mt_X5_in ml_X5_53 st_X5_in (by decide) rfl (Nat.le_of_ble_eq_true rfl) dX5_doesTurns_6 ?_
  refine g_eq (L' := [(0, .ref (ad w 44)), (1, .int (nI n)), (2, .int (nI 1))]) (S' := [.int (nI 1)]) rfl rfl rfl rfl ?_
  refine g_if_ne C (tgt := 15) (by decide) dX5_doesTurns_9 (fun h9 => ?_) (fun h9 => absurd h9 (by decide))
  refine g_aload_n C 0 rfl rfl dX5_doesTurns_15 ?_
  refine g_callV0 [] C (c_X5_laysGives w tu sg  (dN (sg 45)) hok.1) mt_X5_laysGives e_44 rfl ml_X5_67 im_X5_laysGives se_X5_laysGives (by decide) rfl (Nat.le_of_ble_eq_true rfl) dX5_doesTurns_16 ?_
  refine g_eq (sg' := (us sg 50 (fun d => whX ((sg 45) (6 + d)) ((dN (sg 45)) d + 1)))) (L' := [(0, .ref (ad w 44)), (1, .int (nI n)), (2, .int (nI 1))]) (S' := []) rfl rfl rfl rfl ?_
  refine g_iconst C (v := (nI 0)) (by decide) dX5_doesTurns_19 ?_
  refine g_istore_n C (L' := [(3, .int (nI 0)), (0, .ref (ad w 44)), (1, .int (nI n)), (2, .int (nI 1))]) rfl (by decide) rfl dX5_doesTurns_20 ?_
  refine g_iconst C (v := (nI 0)) (by decide) dX5_doesTurns_21 ?_
  refine g_istore C (L' := [(4, .int (nI 0)), (3, .int (nI 0)), (0, .ref (ad w 44)), (1, .int (nI n)), (2, .int (nI 1))]) (by decide) rfl dX5_doesTurns_22 ?_
  have lp : ∀ (nf i : Nat) (m : Int32), n < i + nf → i ≤ n → (m = rgs true (nI 1) (gN (sg 45)) (sg 45) i) → G z w 5 (us (us sg 50 (fun d => whX ((sg 45) (6 + d)) (dN (sg 45) d + 1))) 45 (itR true (nI 1) (gN (sg 45)) i (sg 45))) tu 24 [(4, .int (nI i)), (3, .int m), (0, .ref (ad w 44)), (1, .int (nI n)), (2, .int (nI 1))] [] := by
    intro nf
    induction nf with
    | zero => intro i m h1 h2 hI; exact absurd h1 (by omega)
    | succ nf ihlp =>
      intro i m h1 h2 hI
      refine g_iload C 0 rfl dX5_doesTurns_24 ?_
      refine g_iload_n C 3 rfl rfl dX5_doesTurns_26 ?_
      refine g_icmpN_ge C i n (by omega) (by omega) (tgt := 53) (by decide) dX5_doesTurns_27 (fun h27 => ?_) (fun h27 => ?_)
      ·
        have hiN : n = i := by omega
        subst hiN
        refine g_iload_n C 1 rfl rfl dX5_doesTurns_53 ?_
        exact g_iret C E dX5_doesTurns_54 hI Sq.rf rfl
      ·
        refine g_iload_n C 1 rfl rfl dX5_doesTurns_30 ?_
        refine g_aload_n C 2 rfl rfl dX5_doesTurns_31 ?_
        refine g_iload_n C 4 rfl rfl dX5_doesTurns_32 ?_
        refine g_iload_n C 4 rfl rfl dX5_doesTurns_33 ?_
        refine g_callV1 [.int m] C (c_X5_turnsOnce_up w tu (us (us sg 50 (fun d => whX ((sg 45) (6 + d)) (dN (sg 45) d + 1))) 45 (itR true (nI 1) (gN (sg 45)) i (sg 45))) (nI 1) (gN (sg 45)) (itR_ok hok (fun _ h => (gN_ok hok h).2) i) (fun d h => (gN_ok hok h).1) (fun _ h => (gN_ok hok h).2)) mt_X5_turnsOnce e_44 rfl ml_X5_70 im_X5_turnsOnce se_X5_turnsOnce (by decide) rfl (Nat.le_of_ble_eq_true rfl) dX5_doesTurns_34 ?_
        refine g_eq (sg' := (us (us (us sg 50 (fun d => whX ((sg 45) (6 + d)) (dN (sg 45) d + 1))) 45 (itR true (nI 1) (gN (sg 45)) i (sg 45))) 45 (tR true (nI 1) (gN (sg 45)) (itR true (nI 1) (gN (sg 45)) i (sg 45))))) (L' := [(4, .int (nI i)), (3, .int m), (0, .ref (ad w 44)), (1, .int (nI n)), (2, .int (nI 1))]) (S' := [.int (bI (blP true (wN (itR true (nI 1) (gN (sg 45)) i (sg 45))) (gN (sg 45)) (sN (itR true (nI 1) (gN (sg 45)) i (sg 45))) (sN (itR true (nI 1) (gN (sg 45)) i (sg 45)) + 5 + reN (itR true (nI 1) (gN (sg 45)) i (sg 45))))), .int m]) rfl rfl rfl rfl ?_
        refine g_bif_eq C (tgt := 44) (by decide) dX5_doesTurns_37 (fun h37 => ?_) (fun h37 => ?_)
        ·
          refine g_iconst C (v := (nI 0)) (by decide) dX5_doesTurns_44 ?_
          refine g_iadd C dX5_doesTurns_45 ?_
          refine g_istore_n C (L' := [(3, .int (m + (nI 0))), (4, .int (nI i)), (0, .ref (ad w 44)), (1, .int (nI n)), (2, .int (nI 1))]) rfl (by decide) rfl dX5_doesTurns_46 ?_
          refine g_iinc C (n := 1) (v := (nI (i + 1))) (L' := [(4, .int (nI (i + 1))), (3, .int (m + (nI 0))), (0, .ref (ad w 44)), (1, .int (nI n)), (2, .int (nI 1))]) 1 rfl (nI_add i 1) (by decide) rfl dX5_doesTurns_47 ?_
          refine g_goto C (tgt := 24) (by decide) dX5_doesTurns_50 ?_
          refine g_sub (L' := [(4, .int (nI (i + 1))), (3, .int (m + (nI 0))), (0, .ref (ad w 44)), (1, .int (nI n)), (2, .int (nI 1))]) [0, 1, 2, 3, 4] rfl ?_
          refine g_sgE (sg' := (us (us sg 50 (fun d => whX ((sg 45) (6 + d)) (dN (sg 45) d + 1))) 45 (itR true (nI 1) (gN (sg 45)) (i + 1) (sg 45)))) us_us ?_
          exact ihlp (i + 1) (m + (nI 0)) (by omega) (by omega) (by rw [hI]; show _ = rgs true (nI 1) (gN (sg 45)) (sg 45) i + _; rw [bI_f h37]; rfl)
        ·
          refine g_iconst C (v := (nI 1)) (by decide) dX5_doesTurns_40 ?_
          refine g_goto C (tgt := 45) (by decide) dX5_doesTurns_41 ?_
          refine g_iadd C dX5_doesTurns_45 ?_
          refine g_istore_n C (L' := [(3, .int (m + (nI 1))), (4, .int (nI i)), (0, .ref (ad w 44)), (1, .int (nI n)), (2, .int (nI 1))]) rfl (by decide) rfl dX5_doesTurns_46 ?_
          refine g_iinc C (n := 1) (v := (nI (i + 1))) (L' := [(4, .int (nI (i + 1))), (3, .int (m + (nI 1))), (0, .ref (ad w 44)), (1, .int (nI n)), (2, .int (nI 1))]) 1 rfl (nI_add i 1) (by decide) rfl dX5_doesTurns_47 ?_
          refine g_goto C (tgt := 24) (by decide) dX5_doesTurns_50 ?_
          refine g_sub (L' := [(4, .int (nI (i + 1))), (3, .int (m + (nI 1))), (0, .ref (ad w 44)), (1, .int (nI n)), (2, .int (nI 1))]) [0, 1, 2, 3, 4] rfl ?_
          refine g_sgE (sg' := (us (us sg 50 (fun d => whX ((sg 45) (6 + d)) (dN (sg 45) d + 1))) 45 (itR true (nI 1) (gN (sg 45)) (i + 1) (sg 45)))) us_us ?_
          exact ihlp (i + 1) (m + (nI 1)) (by omega) (by omega) (by rw [hI]; show _ = rgs true (nI 1) (gN (sg 45)) (sg 45) i + _; rw [bI_t h37]; rfl)
  refine g_sgE (sg' := (us (us sg 50 (fun d => whX ((sg 45) (6 + d)) (dN (sg 45) d + 1))) 45 (itR true (nI 1) (gN (sg 45)) 0 (sg 45)))) (us_id (sg := us sg 50 _) (k := 45)).symm ?_
  exact lp (n + 1) 0 (nI 0) (by omega) (by omega) rfl
set_option maxRecDepth 100000 in
set_option maxHeartbeats 400000 in
theorem c_X5_doesTurns_up_bad (w : GW) (tu : Int64) (sg : Sg) (v : Int32) (h : ¬ (1 ≤ Int32.toInt64 v ∧ Int32.toInt64 v ≤ 99)) : Kt w yX5_doesTurns cX5_doesTurns 5 (some .int) 1 [.ref (ad w 44), .int v, .int (nI 1)] sg tu (some (.int (-2))) sg tu := by
  refine Kt.of2 RX5 rfl [(0, .ref (ad w 44)), (1, .int v), (2, .int (nI 1))] (by decide) rfl (Nat.le_of_ble_eq_true rfl) (fun z C E => ?_)
  refine g_iload_n C 1 rfl rfl dX5_doesTurns_0 ?_
  refine g_i2l C dX5_doesTurns_1 ?_
  refine g_lconst C (v := 1) (by decide) dX5_doesTurns_2 ?_
  refine g_ldc2 C cn_X5_65 dX5_doesTurns_3 ?_
  refine g_callS1 [] C (c_X5_in w tu sg (Int32.toInt64 v) 1 99 ) mt_X5_in ml_X5_53 st_X5_in (by decide) rfl (Nat.le_of_ble_eq_true rfl) dX5_doesTurns_6 ?_
  refine g_eq (L' := [(0, .ref (ad w 44)), (1, .int v), (2, .int (nI 1))]) (S' := [.int (bI (1 ≤ (Int32.toInt64 v) ∧ (Int32.toInt64 v) ≤ 99))]) rfl rfl rfl rfl ?_
  refine g_bif_ne C (tgt := 15) (by decide) dX5_doesTurns_9 (fun h9 => absurd h9 h) (fun h9 => ?_)
  refine g_bipush C (v := (-2)) (by decide) dX5_doesTurns_12 ?_
  exact g_iret C E dX5_doesTurns_14 rfl Sq.rf rfl
set_option maxRecDepth 100000 in
set_option maxHeartbeats 400000 in
theorem c_X5_doesTurns_dn (w : GW) (tu : Int64) (sg : Sg) (n : Nat) (hn1 : 1 ≤ n) (hn : n ≤ 99) (hok : ROk (sg 45)) : Kt w yX5_doesTurns cX5_doesTurns 5 (some .int) 2 [.ref (ad w 44), .int (nI n), .int (-1)] sg tu (some (.int (rgs false (-1) (gN (sg 45)) (sg 45) n))) (us (us sg 50 (fun d => whX ((sg 45) (6 + d)) (dN (sg 45) d + 1))) 45 (itR false (-1) (gN (sg 45)) n (sg 45))) tu := by
  refine Kt.of2 RX5 rfl [(0, .ref (ad w 44)), (1, .int (nI n)), (2, .int (-1))] (by decide) rfl (Nat.le_of_ble_eq_true rfl) (fun z C E => ?_)
  refine g_iload_n C 1 rfl rfl dX5_doesTurns_0 ?_
  refine g_i2l C dX5_doesTurns_1 ?_
  refine g_lconst C (v := 1) (by decide) dX5_doesTurns_2 ?_
  refine g_ldc2 C cn_X5_65 dX5_doesTurns_3 ?_
  refine g_callS1 [] C (c_X5_in_t w tu sg (Int32.toInt64 (nI n)) 1 99 (in_ok1 (n := 99) (by omega) (by omega) (by decide))) mt_X5_in ml_X5_53 st_X5_in (by decide) rfl (Nat.le_of_ble_eq_true rfl) dX5_doesTurns_6 ?_
  refine g_eq (L' := [(0, .ref (ad w 44)), (1, .int (nI n)), (2, .int (-1))]) (S' := [.int (nI 1)]) rfl rfl rfl rfl ?_
  refine g_if_ne C (tgt := 15) (by decide) dX5_doesTurns_9 (fun h9 => ?_) (fun h9 => absurd h9 (by decide))
  refine g_aload_n C 0 rfl rfl dX5_doesTurns_15 ?_
  refine g_callV0 [] C (c_X5_laysGives w tu sg  (dN (sg 45)) hok.1) mt_X5_laysGives e_44 rfl ml_X5_67 im_X5_laysGives se_X5_laysGives (by decide) rfl (Nat.le_of_ble_eq_true rfl) dX5_doesTurns_16 ?_
  refine g_eq (sg' := (us sg 50 (fun d => whX ((sg 45) (6 + d)) ((dN (sg 45)) d + 1)))) (L' := [(0, .ref (ad w 44)), (1, .int (nI n)), (2, .int (-1))]) (S' := []) rfl rfl rfl rfl ?_
  refine g_iconst C (v := (nI 0)) (by decide) dX5_doesTurns_19 ?_
  refine g_istore_n C (L' := [(3, .int (nI 0)), (0, .ref (ad w 44)), (1, .int (nI n)), (2, .int (-1))]) rfl (by decide) rfl dX5_doesTurns_20 ?_
  refine g_iconst C (v := (nI 0)) (by decide) dX5_doesTurns_21 ?_
  refine g_istore C (L' := [(4, .int (nI 0)), (3, .int (nI 0)), (0, .ref (ad w 44)), (1, .int (nI n)), (2, .int (-1))]) (by decide) rfl dX5_doesTurns_22 ?_
  have lp : ∀ (nf i : Nat) (m : Int32), n < i + nf → i ≤ n → (m = rgs false (-1) (gN (sg 45)) (sg 45) i) → G z w 5 (us (us sg 50 (fun d => whX ((sg 45) (6 + d)) (dN (sg 45) d + 1))) 45 (itR false (-1) (gN (sg 45)) i (sg 45))) tu 24 [(4, .int (nI i)), (3, .int m), (0, .ref (ad w 44)), (1, .int (nI n)), (2, .int (-1))] [] := by
    intro nf
    induction nf with
    | zero => intro i m h1 h2 hI; exact absurd h1 (by omega)
    | succ nf ihlp =>
      intro i m h1 h2 hI
      refine g_iload C 0 rfl dX5_doesTurns_24 ?_
      refine g_iload_n C 3 rfl rfl dX5_doesTurns_26 ?_
      refine g_icmpN_ge C i n (by omega) (by omega) (tgt := 53) (by decide) dX5_doesTurns_27 (fun h27 => ?_) (fun h27 => ?_)
      ·
        have hiN : n = i := by omega
        subst hiN
        refine g_iload_n C 1 rfl rfl dX5_doesTurns_53 ?_
        exact g_iret C E dX5_doesTurns_54 hI Sq.rf rfl
      ·
        refine g_iload_n C 1 rfl rfl dX5_doesTurns_30 ?_
        refine g_aload_n C 2 rfl rfl dX5_doesTurns_31 ?_
        refine g_iload_n C 4 rfl rfl dX5_doesTurns_32 ?_
        refine g_iload_n C 4 rfl rfl dX5_doesTurns_33 ?_
        refine g_callV1 [.int m] C (c_X5_turnsOnce_dn w tu (us (us sg 50 (fun d => whX ((sg 45) (6 + d)) (dN (sg 45) d + 1))) 45 (itR false (-1) (gN (sg 45)) i (sg 45))) (-1) (gN (sg 45)) (itR_ok hok (fun _ h => (gN_ok hok h).2) i) (fun d h => (gN_ok hok h).1) (fun _ h => (gN_ok hok h).2)) mt_X5_turnsOnce e_44 rfl ml_X5_70 im_X5_turnsOnce se_X5_turnsOnce (by decide) rfl (Nat.le_of_ble_eq_true rfl) dX5_doesTurns_34 ?_
        refine g_eq (sg' := (us (us (us sg 50 (fun d => whX ((sg 45) (6 + d)) (dN (sg 45) d + 1))) 45 (itR false (-1) (gN (sg 45)) i (sg 45))) 45 (tR false (-1) (gN (sg 45)) (itR false (-1) (gN (sg 45)) i (sg 45))))) (L' := [(4, .int (nI i)), (3, .int m), (0, .ref (ad w 44)), (1, .int (nI n)), (2, .int (-1))]) (S' := [.int (bI (blP false (wN (itR false (-1) (gN (sg 45)) i (sg 45))) (gN (sg 45)) (sN (itR false (-1) (gN (sg 45)) i (sg 45))) (sN (itR false (-1) (gN (sg 45)) i (sg 45)) + 5 + reN (itR false (-1) (gN (sg 45)) i (sg 45))))), .int m]) rfl rfl rfl rfl ?_
        refine g_bif_eq C (tgt := 44) (by decide) dX5_doesTurns_37 (fun h37 => ?_) (fun h37 => ?_)
        ·
          refine g_iconst C (v := (nI 0)) (by decide) dX5_doesTurns_44 ?_
          refine g_iadd C dX5_doesTurns_45 ?_
          refine g_istore_n C (L' := [(3, .int (m + (nI 0))), (4, .int (nI i)), (0, .ref (ad w 44)), (1, .int (nI n)), (2, .int (-1))]) rfl (by decide) rfl dX5_doesTurns_46 ?_
          refine g_iinc C (n := 1) (v := (nI (i + 1))) (L' := [(4, .int (nI (i + 1))), (3, .int (m + (nI 0))), (0, .ref (ad w 44)), (1, .int (nI n)), (2, .int (-1))]) 1 rfl (nI_add i 1) (by decide) rfl dX5_doesTurns_47 ?_
          refine g_goto C (tgt := 24) (by decide) dX5_doesTurns_50 ?_
          refine g_sub (L' := [(4, .int (nI (i + 1))), (3, .int (m + (nI 0))), (0, .ref (ad w 44)), (1, .int (nI n)), (2, .int (-1))]) [0, 1, 2, 3, 4] rfl ?_
          refine g_sgE (sg' := (us (us sg 50 (fun d => whX ((sg 45) (6 + d)) (dN (sg 45) d + 1))) 45 (itR false (-1) (gN (sg 45)) (i + 1) (sg 45)))) us_us ?_
          exact ihlp (i + 1) (m + (nI 0)) (by omega) (by omega) (by rw [hI]; show _ = rgs false (-1) (gN (sg 45)) (sg 45) i + _; rw [bI_f h37]; rfl)
        ·
          refine g_iconst C (v := (nI 1)) (by decide) dX5_doesTurns_40 ?_
          refine g_goto C (tgt := 45) (by decide) dX5_doesTurns_41 ?_
          refine g_iadd C dX5_doesTurns_45 ?_
          refine g_istore_n C (L' := [(3, .int (m + (nI 1))), (4, .int (nI i)), (0, .ref (ad w 44)), (1, .int (nI n)), (2, .int (-1))]) rfl (by decide) rfl dX5_doesTurns_46 ?_
          refine g_iinc C (n := 1) (v := (nI (i + 1))) (L' := [(4, .int (nI (i + 1))), (3, .int (m + (nI 1))), (0, .ref (ad w 44)), (1, .int (nI n)), (2, .int (-1))]) 1 rfl (nI_add i 1) (by decide) rfl dX5_doesTurns_47 ?_
          refine g_goto C (tgt := 24) (by decide) dX5_doesTurns_50 ?_
          refine g_sub (L' := [(4, .int (nI (i + 1))), (3, .int (m + (nI 1))), (0, .ref (ad w 44)), (1, .int (nI n)), (2, .int (-1))]) [0, 1, 2, 3, 4] rfl ?_
          refine g_sgE (sg' := (us (us sg 50 (fun d => whX ((sg 45) (6 + d)) (dN (sg 45) d + 1))) 45 (itR false (-1) (gN (sg 45)) (i + 1) (sg 45)))) us_us ?_
          exact ihlp (i + 1) (m + (nI 1)) (by omega) (by omega) (by rw [hI]; show _ = rgs false (-1) (gN (sg 45)) (sg 45) i + _; rw [bI_t h37]; rfl)
  refine g_sgE (sg' := (us (us sg 50 (fun d => whX ((sg 45) (6 + d)) (dN (sg 45) d + 1))) 45 (itR false (-1) (gN (sg 45)) 0 (sg 45)))) (us_id (sg := us sg 50 _) (k := 45)).symm ?_
  exact lp (n + 1) 0 (nI 0) (by omega) (by omega) rfl
set_option maxRecDepth 100000 in
set_option maxHeartbeats 400000 in
theorem c_X5_doesTurns_dn_bad (w : GW) (tu : Int64) (sg : Sg) (v : Int32) (h : ¬ (1 ≤ Int32.toInt64 v ∧ Int32.toInt64 v ≤ 99)) : Kt w yX5_doesTurns cX5_doesTurns 5 (some .int) 1 [.ref (ad w 44), .int v, .int (-1)] sg tu (some (.int (-2))) sg tu := by
  refine Kt.of2 RX5 rfl [(0, .ref (ad w 44)), (1, .int v), (2, .int (-1))] (by decide) rfl (Nat.le_of_ble_eq_true rfl) (fun z C E => ?_)
  refine g_iload_n C 1 rfl rfl dX5_doesTurns_0 ?_
  refine g_i2l C dX5_doesTurns_1 ?_
  refine g_lconst C (v := 1) (by decide) dX5_doesTurns_2 ?_
  refine g_ldc2 C cn_X5_65 dX5_doesTurns_3 ?_
  refine g_callS1 [] C (c_X5_in w tu sg (Int32.toInt64 v) 1 99 ) mt_X5_in ml_X5_53 st_X5_in (by decide) rfl (Nat.le_of_ble_eq_true rfl) dX5_doesTurns_6 ?_
  refine g_eq (L' := [(0, .ref (ad w 44)), (1, .int v), (2, .int (-1))]) (S' := [.int (bI (1 ≤ (Int32.toInt64 v) ∧ (Int32.toInt64 v) ≤ 99))]) rfl rfl rfl rfl ?_
  refine g_bif_ne C (tgt := 15) (by decide) dX5_doesTurns_9 (fun h9 => absurd h9 h) (fun h9 => ?_)
  refine g_bipush C (v := (-2)) (by decide) dX5_doesTurns_12 ?_
  exact g_iret C E dX5_doesTurns_14 rfl Sq.rf rfl
