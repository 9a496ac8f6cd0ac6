def dcL (cI cB cO : ClassId) (t : Nat → Nat) : va_W := [(t 0, .inr (4, [.ref (t 1), .ref (t 6), .ref (t 11), .ref (t 38), .ref (t 40), .int 0, .int 0, .int 0])), (t 1, .inr (3, [.ref (t 2), .ref (t 3), .ref (t 4), .ref (t 5), .int 0, .int 12, .int 0, .int 0])), (t 2, .inl (cI, 6, .inl (fun _ => 0))), (t 3, .inl (cI, 6, .inl (fun _ => 0))), (t 4, .inl (cI, 12, .inl (fun _ => 0))), (t 5, .inl (cI, 7, .inl (fun _ => 0))), (t 6, .inr (3, [.ref (t 7), .ref (t 8), .ref (t 9), .ref (t 10), .int 0, .int 12, .int 0, .int 0])), (t 7, .inl (cI, 6, .inl (fun _ => 0))), (t 8, .inl (cI, 6, .inl (fun _ => 0))), (t 9, .inl (cI, 12, .inl (fun _ => 0))), (t 10, .inl (cI, 7, .inl (fun _ => 0))), (t 11, .inr (1, [.ref (t 12), .int 0, .int 0])), (t 12, .inl (cO, 5, .inr (.inr (.inr (.inr (fun j => some (t (13 + 5 * j)))))))), (t 13, .inr (3, [.ref (t 14), .ref (t 15), .ref (t 16), .ref (t 17), .int 0, .int 12, .int 0, .int 0])), (t 14, .inl (cI, 6, .inl (fun _ => 0))), (t 15, .inl (cI, 6, .inl (fun _ => 0))), (t 16, .inl (cI, 12, .inl (fun _ => 0))), (t 17, .inl (cI, 7, .inl (fun _ => 0))), (t 18, .inr (3, [.ref (t 19), .ref (t 20), .ref (t 21), .ref (t 22), .int 0, .int 12, .int 0, .int 0])), (t 19, .inl (cI, 6, .inl (fun _ => 0))), (t 20, .inl (cI, 6, .inl (fun _ => 0))), (t 21, .inl (cI, 12, .inl (fun _ => 0))), (t 22, .inl (cI, 7, .inl (fun _ => 0))), (t 23, .inr (3, [.ref (t 24), .ref (t 25), .ref (t 26), .ref (t 27), .int 0, .int 12, .int 0, .int 0])), (t 24, .inl (cI, 6, .inl (fun _ => 0))), (t 25, .inl (cI, 6, .inl (fun _ => 0))), (t 26, .inl (cI, 12, .inl (fun _ => 0))), (t 27, .inl (cI, 7, .inl (fun _ => 0))), (t 28, .inr (3, [.ref (t 29), .ref (t 30), .ref (t 31), .ref (t 32), .int 0, .int 12, .int 0, .int 0])), (t 29, .inl (cI, 6, .inl (fun _ => 0))), (t 30, .inl (cI, 6, .inl (fun _ => 0))), (t 31, .inl (cI, 12, .inl (fun _ => 0))), (t 32, .inl (cI, 7, .inl (fun _ => 0))), (t 33, .inr (3, [.ref (t 34), .ref (t 35), .ref (t 36), .ref (t 37), .int 0, .int 12, .int 0, .int 0])), (t 34, .inl (cI, 6, .inl (fun _ => 0))), (t 35, .inl (cI, 6, .inl (fun _ => 0))), (t 36, .inl (cI, 12, .inl (fun _ => 0))), (t 37, .inl (cI, 7, .inl (fun _ => 0))), (t 38, .inr (2, [.ref (t 39), .int 0])), (t 39, .inl (cB, 120, .inl (fun _ => 0))), (t 40, .inr (0, [.ref (t 41), .ref (t 42), .ref (t 43), .int 0, .int 0, .int 0])), (t 41, .inl (cI, 60, .inl (fun _ => 0))), (t 42, .inl (cI, 60, .inl (fun _ => 0))), (t 43, .inl (cI, 60, .inl (fun _ => 0)))]
def DcS (cI cB cO : ClassId) (q : Nat) (w : va_W) : Prop := ∃ t : Nat → Nat, t 0 = q ∧ w = dcL cI cB cO t
set_option maxRecDepth 100000 in
set_option maxHeartbeats 1000000 in
theorem i_X4 (l : Launch) (D : va_G) (cI cB cO : ClassId) : Ic l D cI cB cO yX4_init cX4_init 1 3 43 589 4 fs4 (DcS cI cB cO) := by
  refine Ic.of RX4 rfl rfl (by decide) (by decide) (fun z A h0 C Nm M F E => ?_)
  refine j_ws (ws' := [(h0, .inr (4, [.null, .null, .null, .null, .null, .int 0, .int 0, .int 0]))]) rfl ?_
  refine j_aload C 0 rfl rfl dX4_init_0 ?_
  refine j_obj C (F 1 (by decide)) ml_X4_1 (Nat.le_of_ble_eq_true rfl) dX4_init_1 ?_
  refine j_aload C 0 rfl rfl dX4_init_4 ?_
  refine j_new C (fs := fs3) cls3 (M _ _ (by decide) (by decide)) kl_X4_7 ki_X3 ini_X3 (fun j hj => by rcases (show j = 0 ∨ j = 1 ∨ j = 2 ∨ j = 3 ∨ j = 4 ∨ j = 5 ∨ j = 6 ∨ j = 7 by omega) with rfl | rfl | rfl | rfl | rfl | rfl | rfl | rfl <;> rfl) dX4_init_5 (fun q1 => ?_)
  refine j_dup C rfl dX4_init_8 ?_
  refine j_initN C (r := ((h0, .inr (4, [.null, .null, .null, .null, .null, .int 0, .int 0, .int 0])) :: ([]))) (i_X3 l D cI cB cO) mt_X3_init rfl nl_X4_9 im_X3_init (F 2 (by decide)) (M _ _ (by decide) (by decide)) (Nat.le_of_ble_eq_true rfl) dX4_init_9 (fun wt1 hwt1 => ?_)
  obtain ⟨t1, ht1, rfl⟩ := hwt1
  subst ht1
  refine j_ws (ws' := ((h0, .inr (4, [.null, .null, .null, .null, .null, .int 0, .int 0, .int 0])) :: (wkL cI t1))) rfl ?_
  refine j_putF C Nm cls4 (k := 0) (v := .ref (t1 0)) (by decide) fl_X4_10 rfl rfl (cls4.2.2.1 0 (by decide)) rfl rfl (Nat.le_of_ble_eq_true rfl) dX4_init_12 ?_
  refine j_ws (ws' := ((h0, .inr (4, [.ref (t1 0), .null, .null, .null, .null, .int 0, .int 0, .int 0])) :: (wkL cI t1))) rfl ?_
  refine j_aload C 0 rfl rfl dX4_init_15 ?_
  refine j_new C (fs := fs3) cls3 (M _ _ (by decide) (by decide)) kl_X4_7 ki_X3 ini_X3 (fun j hj => by rcases (show j = 0 ∨ j = 1 ∨ j = 2 ∨ j = 3 ∨ j = 4 ∨ j = 5 ∨ j = 6 ∨ j = 7 by omega) with rfl | rfl | rfl | rfl | rfl | rfl | rfl | rfl <;> rfl) dX4_init_16 (fun q6 => ?_)
  refine j_dup C rfl dX4_init_19 ?_
  refine j_initN C (r := ((h0, .inr (4, [.ref (t1 0), .null, .null, .null, .null, .int 0, .int 0, .int 0])) :: (wkL cI t1))) (i_X3 l D cI cB cO) mt_X3_init rfl nl_X4_9 im_X3_init (F 2 (by decide)) (M _ _ (by decide) (by decide)) (Nat.le_of_ble_eq_true rfl) dX4_init_20 (fun wt6 hwt6 => ?_)
  obtain ⟨t6, ht6, rfl⟩ := hwt6
  subst ht6
  refine j_ws (ws' := ((h0, .inr (4, [.ref (t1 0), .null, .null, .null, .null, .int 0, .int 0, .int 0])) :: (wkL cI t1 ++ wkL cI t6))) rfl ?_
  refine j_putF C Nm cls4 (k := 1) (v := .ref (t6 0)) (by decide) fl_X4_16 rfl rfl (cls4.2.2.1 1 (by decide)) rfl rfl (Nat.le_of_ble_eq_true rfl) dX4_init_23 ?_
  refine j_ws (ws' := ((h0, .inr (4, [.ref (t1 0), .ref (t6 0), .null, .null, .null, .int 0, .int 0, .int 0])) :: (wkL cI t1 ++ wkL cI t6))) rfl ?_
  refine j_aload C 0 rfl rfl dX4_init_26 ?_
  refine j_new C (fs := fs1) cls1 (M _ _ (by decide) (by decide)) kl_X4_19 ki_X1 ini_X1 (fun j hj => by rcases (show j = 0 ∨ j = 1 ∨ j = 2 by omega) with rfl | rfl | rfl <;> rfl) dX4_init_27 (fun q11 => ?_)
  refine j_dup C rfl dX4_init_30 ?_
  refine j_init C (r := ((h0, .inr (4, [.ref (t1 0), .ref (t6 0), .null, .null, .null, .int 0, .int 0, .int 0])) :: (wkL cI t1 ++ wkL cI t6))) (i_X1 l D cI cB cO) mt_X1_init rfl ml_X4_21 im_X1_init (F 3 (by decide)) (M _ _ (by decide) (by decide)) (Nat.le_of_ble_eq_true rfl) dX4_init_31 (fun wt11 hwt11 => ?_)
  obtain ⟨t11, ht11, rfl⟩ := hwt11
  subst ht11
  refine j_ws (ws' := ((h0, .inr (4, [.ref (t1 0), .ref (t6 0), .null, .null, .null, .int 0, .int 0, .int 0])) :: (wkL cI t1 ++ wkL cI t6 ++ stL cI cO t11))) rfl ?_
  refine j_putF C Nm cls4 (k := 2) (v := .ref (t11 0)) (by decide) fl_X4_22 rfl rfl (cls4.2.2.1 2 (by decide)) rfl rfl (Nat.le_of_ble_eq_true rfl) dX4_init_34 ?_
  refine j_ws (ws' := ((h0, .inr (4, [.ref (t1 0), .ref (t6 0), .ref (t11 0), .null, .null, .int 0, .int 0, .int 0])) :: (wkL cI t1 ++ wkL cI t6 ++ stL cI cO t11))) rfl ?_
  refine j_aload C 0 rfl rfl dX4_init_37 ?_
  refine j_new C (fs := fs2) cls2 (M _ _ (by decide) (by decide)) kl_X4_26 ki_X2 ini_X2 (fun j hj => by rcases (show j = 0 ∨ j = 1 by omega) with rfl | rfl <;> rfl) dX4_init_38 (fun q38 => ?_)
  refine j_dup C rfl dX4_init_41 ?_
  refine j_initN C (r := ((h0, .inr (4, [.ref (t1 0), .ref (t6 0), .ref (t11 0), .null, .null, .int 0, .int 0, .int 0])) :: (wkL cI t1 ++ wkL cI t6 ++ stL cI cO t11))) (i_X2 l D cI cB cO) mt_X2_init rfl nl_X4_28 im_X2_init (F 2 (by decide)) (M _ _ (by decide) (by decide)) (Nat.le_of_ble_eq_true rfl) dX4_init_42 (fun wt38 hwt38 => ?_)
  obtain ⟨t38, ht38, rfl⟩ := hwt38
  subst ht38
  refine j_ws (ws' := ((h0, .inr (4, [.ref (t1 0), .ref (t6 0), .ref (t11 0), .null, .null, .int 0, .int 0, .int 0])) :: (wkL cI t1 ++ wkL cI t6 ++ stL cI cO t11 ++ txL cB t38))) rfl ?_
  refine j_putF C Nm cls4 (k := 3) (v := .ref (t38 0)) (by decide) fl_X4_29 rfl rfl (cls4.2.2.1 3 (by decide)) rfl rfl (Nat.le_of_ble_eq_true rfl) dX4_init_45 ?_
  refine j_ws (ws' := ((h0, .inr (4, [.ref (t1 0), .ref (t6 0), .ref (t11 0), .ref (t38 0), .null, .int 0, .int 0, .int 0])) :: (wkL cI t1 ++ wkL cI t6 ++ stL cI cO t11 ++ txL cB t38))) rfl ?_
  refine j_aload C 0 rfl rfl dX4_init_48 ?_
  refine j_new C (fs := fs0) cls0 (M _ _ (by decide) (by decide)) kl_X4_33 ki_X0 ini_X0 (fun j hj => by rcases (show j = 0 ∨ j = 1 ∨ j = 2 ∨ j = 3 ∨ j = 4 ∨ j = 5 by omega) with rfl | rfl | rfl | rfl | rfl | rfl <;> rfl) dX4_init_49 (fun q40 => ?_)
  refine j_dup C rfl dX4_init_52 ?_
  refine j_initN C (r := ((h0, .inr (4, [.ref (t1 0), .ref (t6 0), .ref (t11 0), .ref (t38 0), .null, .int 0, .int 0, .int 0])) :: (wkL cI t1 ++ wkL cI t6 ++ stL cI cO t11 ++ txL cB t38))) (i_X0 l D cI cB cO) mt_X0_init rfl nl_X4_35 im_X0_init (F 2 (by decide)) (M _ _ (by decide) (by decide)) (Nat.le_of_ble_eq_true rfl) dX4_init_53 (fun wt40 hwt40 => ?_)
  obtain ⟨t40, ht40, rfl⟩ := hwt40
  subst ht40
  refine j_ws (ws' := ((h0, .inr (4, [.ref (t1 0), .ref (t6 0), .ref (t11 0), .ref (t38 0), .null, .int 0, .int 0, .int 0])) :: (wkL cI t1 ++ wkL cI t6 ++ stL cI cO t11 ++ txL cB t38 ++ orL cI t40))) rfl ?_
  refine j_putF C Nm cls4 (k := 4) (v := .ref (t40 0)) (by decide) fl_X4_36 rfl rfl (cls4.2.2.1 4 (by decide)) rfl rfl (Nat.le_of_ble_eq_true rfl) dX4_init_56 ?_
  refine j_ws (ws' := ((h0, .inr (4, [.ref (t1 0), .ref (t6 0), .ref (t11 0), .ref (t38 0), .ref (t40 0), .int 0, .int 0, .int 0])) :: (wkL cI t1 ++ wkL cI t6 ++ stL cI cO t11 ++ txL cB t38 ++ orL cI t40))) rfl ?_
  refine j_ring (q0 := 12) (a := t11 1) (g := fun j => some (([h0, t1 0, t1 1, t1 2, t1 3, t1 4, t6 0, t6 1, t6 2, t6 3, t6 4, t11 0, t11 1, t11 2, t11 3, t11 4, t11 5, t11 6, t11 7, t11 8, t11 9, t11 10, t11 11, t11 12, t11 13, t11 14, t11 15, t11 16, t11 17, t11 18, t11 19, t11 20, t11 21, t11 22, t11 23, t11 24, t11 25, t11 26, t38 0, t38 1, t40 0, t40 1, t40 2, t40 3] : List Nat).getD (13 + 5 * j) 0)) rfl (fun j hj => by rcases (show j = 0 ∨ j = 1 ∨ j = 2 ∨ j = 3 ∨ j = 4 by omega) with rfl | rfl | rfl | rfl | rfl <;> rfl) ?_
  refine j_vret C E (by decide) (by decide) ?_ dX4_init_59
  exact ⟨fun n => ([h0, t1 0, t1 1, t1 2, t1 3, t1 4, t6 0, t6 1, t6 2, t6 3, t6 4, t11 0, t11 1, t11 2, t11 3, t11 4, t11 5, t11 6, t11 7, t11 8, t11 9, t11 10, t11 11, t11 12, t11 13, t11 14, t11 15, t11 16, t11 17, t11 18, t11 19, t11 20, t11 21, t11 22, t11 23, t11 24, t11 25, t11 26, t38 0, t38 1, t40 0, t40 1, t40 2, t40 3] : List Nat).getD n 0, rfl, rfl⟩
