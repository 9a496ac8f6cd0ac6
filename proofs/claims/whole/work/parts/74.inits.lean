theorem kl_L_7 : Cond.classLink RL 7 RX4 ∈ TG := TG_in 58 (by decide +kernel) rfl
theorem ki_X4 : Cond.instantiable RX4 8 ∈ TG := TG_in 59 (by decide +kernel) rfl
theorem kl_X4_7 : Cond.classLink RX4 7 RX3 ∈ TG := TG_in 66 (by decide +kernel) rfl
theorem ki_X3 : Cond.instantiable RX3 8 ∈ TG := TG_in 67 (by decide +kernel) rfl
theorem ka_int : Cond.arrayClass .int ∈ TG := TG_in 99 (by decide +kernel) rfl
theorem kl_X4_19 : Cond.classLink RX4 19 RX1 ∈ TG := TG_in 100 (by decide +kernel) rfl
theorem ki_X1 : Cond.instantiable RX1 3 ∈ TG := TG_in 101 (by decide +kernel) rfl
theorem kl_X1_9 : Cond.classLink RX1 9 RX3 ∈ TG := TG_in 106 (by decide +kernel) rfl
theorem kl_X4_26 : Cond.classLink RX4 26 RX2 ∈ TG := TG_in 120 (by decide +kernel) rfl
theorem ki_X2 : Cond.instantiable RX2 2 ∈ TG := TG_in 121 (by decide +kernel) rfl
theorem ka_byte : Cond.arrayClass .byte ∈ TG := TG_in 135 (by decide +kernel) rfl
theorem kl_X4_33 : Cond.classLink RX4 33 RX0 ∈ TG := TG_in 136 (by decide +kernel) rfl
theorem ki_X0 : Cond.instantiable RX0 6 ∈ TG := TG_in 137 (by decide +kernel) rfl
theorem kl_L_10 : Cond.classLink RL 10 RX5 ∈ TG := TG_in 512 (by decide +kernel) rfl
theorem ki_X5 : Cond.instantiable RX5 16 ∈ TG := TG_in 513 (by decide +kernel) rfl
def wkL (cI : ClassId) (t : Nat → Nat) : va_W := [(t 0, .inr (3, [.ref (t 1), .ref (t 2), .ref (t 3), .ref (t 4), .int 0, .int 12, .int 0, .int 0])), (t 1, .inl (cI, 6, .inl (fun _ => 0))), (t 2, .inl (cI, 6, .inl (fun _ => 0))), (t 3, .inl (cI, 12, .inl (fun _ => 0))), (t 4, .inl (cI, 7, .inl (fun _ => 0)))]
def WkS (cI : ClassId) (q : Nat) (w : va_W) : Prop := ∃ t : Nat → Nat, t 0 = q ∧ w = wkL cI t
def txL (cB : ClassId) (t : Nat → Nat) : va_W := [(t 0, .inr (2, [.ref (t 1), .int 0])), (t 1, .inl (cB, 120, .inl (fun _ => 0)))]
def TxS (cB : ClassId) (q : Nat) (w : va_W) : Prop := ∃ t : Nat → Nat, t 0 = q ∧ w = txL cB t
def orL (cI : ClassId) (t : Nat → Nat) : va_W := [(t 0, .inr (0, [.ref (t 1), .ref (t 2), .ref (t 3), .int 0, .int 0, .int 0])), (t 1, .inl (cI, 60, .inl (fun _ => 0))), (t 2, .inl (cI, 60, .inl (fun _ => 0))), (t 3, .inl (cI, 60, .inl (fun _ => 0)))]
def OrS (cI : ClassId) (q : Nat) (w : va_W) : Prop := ∃ t : Nat → Nat, t 0 = q ∧ w = orL cI t
def stL (cI cO : ClassId) (t : Nat → Nat) : va_W := [(t 0, .inr (1, [.ref (t 1), .int 0, .int 0])), (t 1, .inl (cO, 5, .inr (.inr (.inr (.inr (fun j => some (t (2 + 5 * j)))))))), (t 2, .inr (3, [.ref (t 3), .ref (t 4), .ref (t 5), .ref (t 6), .int 0, .int 12, .int 0, .int 0])), (t 3, .inl (cI, 6, .inl (fun _ => 0))), (t 4, .inl (cI, 6, .inl (fun _ => 0))), (t 5, .inl (cI, 12, .inl (fun _ => 0))), (t 6, .inl (cI, 7, .inl (fun _ => 0))), (t 7, .inr (3, [.ref (t 8), .ref (t 9), .ref (t 10), .ref (t 11), .int 0, .int 12, .int 0, .int 0])), (t 8, .inl (cI, 6, .inl (fun _ => 0))), (t 9, .inl (cI, 6, .inl (fun _ => 0))), (t 10, .inl (cI, 12, .inl (fun _ => 0))), (t 11, .inl (cI, 7, .inl (fun _ => 0))), (t 12, .inr (3, [.ref (t 13), .ref (t 14), .ref (t 15), .ref (t 16), .int 0, .int 12, .int 0, .int 0])), (t 13, .inl (cI, 6, .inl (fun _ => 0))), (t 14, .inl (cI, 6, .inl (fun _ => 0))), (t 15, .inl (cI, 12, .inl (fun _ => 0))), (t 16, .inl (cI, 7, .inl (fun _ => 0))), (t 17, .inr (3, [.ref (t 18), .ref (t 19), .ref (t 20), .ref (t 21), .int 0, .int 12, .int 0, .int 0])), (t 18, .inl (cI, 6, .inl (fun _ => 0))), (t 19, .inl (cI, 6, .inl (fun _ => 0))), (t 20, .inl (cI, 12, .inl (fun _ => 0))), (t 21, .inl (cI, 7, .inl (fun _ => 0))), (t 22, .inr (3, [.ref (t 23), .ref (t 24), .ref (t 25), .ref (t 26), .int 0, .int 12, .int 0, .int 0])), (t 23, .inl (cI, 6, .inl (fun _ => 0))), (t 24, .inl (cI, 6, .inl (fun _ => 0))), (t 25, .inl (cI, 12, .inl (fun _ => 0))), (t 26, .inl (cI, 7, .inl (fun _ => 0)))]
def StS (cI cO : ClassId) (q : Nat) (w : va_W) : Prop := ∃ t : Nat → Nat, t 0 = q ∧ w = stL cI cO t
def mdL (cI : ClassId) (t : Nat → Nat) : va_W := [(t 0, .inr (5, [.ref (t 1), .ref (t 2), .ref (t 3), .int 0, .ref (t 4), .ref (t 5), .int 0, .ref (t 6), .ref (t 7), .ref (t 8), .ref (t 9), .ref (t 10), .int 0, .int 0, .int 0, .long 0])), (t 1, .inl (cI, 35, .inl (upd (fun _ => 0) 32 12))), (t 2, .inl (cI, 35, .inl (fun _ => 0))), (t 3, .inl (cI, 175, .inl (fun _ => 0))), (t 4, .inl (cI, 3, .inl (fun _ => 0))), (t 5, .inl (cI, 120, .inl (fun _ => 0))), (t 6, .inl (cI, 6, .inl (fun _ => 0))), (t 7, .inl (cI, 12, .inl (fun _ => 0))), (t 8, .inl (cI, 7, .inl (fun _ => 0))), (t 9, .inl (cI, 60, .inl (fun _ => 0))), (t 10, .inl (cI, 120, .inl (fun _ => 0)))]
def MdS (cI : ClassId) (q : Nat) (w : va_W) : Prop := ∃ t : Nat → Nat, t 0 = q ∧ w = mdL cI t
def fs0 : List Value := [.null, .null, .null, .int 0, .int 0, .int 0]
def fs1 : List Value := [.null, .int 0, .int 0]
def fs2 : List Value := [.null, .int 0]
def fs3 : List Value := [.null, .null, .null, .null, .int 0, .int 0, .int 0, .int 0]
def fs4 : List Value := [.null, .null, .null, .null, .null, .int 0, .int 0, .int 0]
def fs5 : List Value := [.null, .null, .null, .int 0, .null, .null, .int 0, .null, .null, .null, .null, .null, .int 0, .int 0, .int 0, .long 0]
set_option maxRecDepth 100000 in
set_option maxHeartbeats 1000000 in
theorem i_X3 (l : Launch) (D : va_G) (cI cB cO : ClassId) : Ic l D cI cB cO yX3_init cX3_init 1 1 4 31 3 fs3 (WkS cI) := by
  refine Ic.of RX3 rfl rfl (by decide) (by decide) (fun z A h0 C Nm M F E => ?_)
  refine j_ws (ws' := [(h0, .inr (3, [.null, .null, .null, .null, .int 0, .int 0, .int 0, .int 0]))]) rfl ?_
  refine j_aload C 0 rfl rfl dX3_init_0 ?_
  refine j_obj C (F 1 (by decide)) ml_X3_3 (Nat.le_of_ble_eq_true rfl) dX3_init_1 ?_
  refine j_aload C 0 rfl rfl dX3_init_4 ?_
  refine j_bipush C (v := nI 6) (by decide) dX3_init_5 ?_
  refine j_newI C (N := 6) rfl (by decide) (M _ _ (by decide) (by decide)) ka_int dX3_init_7 (fun q1 => ?_)
  refine j_ws (ws' := [(h0, .inr (3, [.null, .null, .null, .null, .int 0, .int 0, .int 0, .int 0])), (q1, .inl (cI, 6, .inl (fun _ => 0)))]) rfl ?_
  refine j_putF C Nm cls3 (k := 0) (v := .ref q1) (by decide) fl_X3_9 rfl rfl (cls3.2.2.1 0 (by decide)) rfl rfl (Nat.le_of_ble_eq_true rfl) dX3_init_9 ?_
  refine j_ws (ws' := [(h0, .inr (3, [.ref q1, .null, .null, .null, .int 0, .int 0, .int 0, .int 0])), (q1, .inl (cI, 6, .inl (fun _ => 0)))]) rfl ?_
  refine j_aload C 0 rfl rfl dX3_init_12 ?_
  refine j_bipush C (v := nI 6) (by decide) dX3_init_13 ?_
  refine j_newI C (N := 6) rfl (by decide) (M _ _ (by decide) (by decide)) ka_int dX3_init_15 (fun q2 => ?_)
  refine j_ws (ws' := [(h0, .inr (3, [.ref q1, .null, .null, .null, .int 0, .int 0, .int 0, .int 0])), (q1, .inl (cI, 6, .inl (fun _ => 0))), (q2, .inl (cI, 6, .inl (fun _ => 0)))]) rfl ?_
  refine j_putF C Nm cls3 (k := 1) (v := .ref q2) (by decide) fl_X3_15 rfl rfl (cls3.2.2.1 1 (by decide)) rfl rfl (Nat.le_of_ble_eq_true rfl) dX3_init_17 ?_
  refine j_ws (ws' := [(h0, .inr (3, [.ref q1, .ref q2, .null, .null, .int 0, .int 0, .int 0, .int 0])), (q1, .inl (cI, 6, .inl (fun _ => 0))), (q2, .inl (cI, 6, .inl (fun _ => 0)))]) rfl ?_
  refine j_aload C 0 rfl rfl dX3_init_20 ?_
  refine j_bipush C (v := nI 12) (by decide) dX3_init_21 ?_
  refine j_newI C (N := 12) rfl (by decide) (M _ _ (by decide) (by decide)) ka_int dX3_init_23 (fun q3 => ?_)
  refine j_ws (ws' := [(h0, .inr (3, [.ref q1, .ref q2, .null, .null, .int 0, .int 0, .int 0, .int 0])), (q1, .inl (cI, 6, .inl (fun _ => 0))), (q2, .inl (cI, 6, .inl (fun _ => 0))), (q3, .inl (cI, 12, .inl (fun _ => 0)))]) rfl ?_
  refine j_putF C Nm cls3 (k := 2) (v := .ref q3) (by decide) fl_X3_18 rfl rfl (cls3.2.2.1 2 (by decide)) rfl rfl (Nat.le_of_ble_eq_true rfl) dX3_init_25 ?_
  refine j_ws (ws' := [(h0, .inr (3, [.ref q1, .ref q2, .ref q3, .null, .int 0, .int 0, .int 0, .int 0])), (q1, .inl (cI, 6, .inl (fun _ => 0))), (q2, .inl (cI, 6, .inl (fun _ => 0))), (q3, .inl (cI, 12, .inl (fun _ => 0)))]) rfl ?_
  refine j_aload C 0 rfl rfl dX3_init_28 ?_
  refine j_bipush C (v := nI 7) (by decide) dX3_init_29 ?_
  refine j_newI C (N := 7) rfl (by decide) (M _ _ (by decide) (by decide)) ka_int dX3_init_31 (fun q4 => ?_)
  refine j_ws (ws' := [(h0, .inr (3, [.ref q1, .ref q2, .ref q3, .null, .int 0, .int 0, .int 0, .int 0])), (q1, .inl (cI, 6, .inl (fun _ => 0))), (q2, .inl (cI, 6, .inl (fun _ => 0))), (q3, .inl (cI, 12, .inl (fun _ => 0))), (q4, .inl (cI, 7, .inl (fun _ => 0)))]) rfl ?_
  refine j_putF C Nm cls3 (k := 3) (v := .ref q4) (by decide) fl_X3_21 rfl rfl (cls3.2.2.1 3 (by decide)) rfl rfl (Nat.le_of_ble_eq_true rfl) dX3_init_33 ?_
  refine j_ws (ws' := [(h0, .inr (3, [.ref q1, .ref q2, .ref q3, .ref q4, .int 0, .int 0, .int 0, .int 0])), (q1, .inl (cI, 6, .inl (fun _ => 0))), (q2, .inl (cI, 6, .inl (fun _ => 0))), (q3, .inl (cI, 12, .inl (fun _ => 0))), (q4, .inl (cI, 7, .inl (fun _ => 0)))]) rfl ?_
  refine j_aload C 0 rfl rfl dX3_init_36 ?_
  refine j_iconst C (v := nI 0) (by decide) dX3_init_37 ?_
  refine j_put C cls3 (k := 4) (v := .int (nI 0)) (by decide) fl_X3_24 rfl (cls3.2.2.1 4 (by decide)) rfl rfl (Nat.le_of_ble_eq_true rfl) dX3_init_38 ?_
  refine j_ws (ws' := [(h0, .inr (3, [.ref q1, .ref q2, .ref q3, .ref q4, .int 0, .int 0, .int 0, .int 0])), (q1, .inl (cI, 6, .inl (fun _ => 0))), (q2, .inl (cI, 6, .inl (fun _ => 0))), (q3, .inl (cI, 12, .inl (fun _ => 0))), (q4, .inl (cI, 7, .inl (fun _ => 0)))]) rfl ?_
  refine j_aload C 0 rfl rfl dX3_init_41 ?_
  refine j_bipush C (v := nI 12) (by decide) dX3_init_42 ?_
  refine j_put C cls3 (k := 5) (v := .int (nI 12)) (by decide) fl_X3_28 rfl (cls3.2.2.1 5 (by decide)) rfl rfl (Nat.le_of_ble_eq_true rfl) dX3_init_44 ?_
  refine j_ws (ws' := [(h0, .inr (3, [.ref q1, .ref q2, .ref q3, .ref q4, .int 0, .int 12, .int 0, .int 0])), (q1, .inl (cI, 6, .inl (fun _ => 0))), (q2, .inl (cI, 6, .inl (fun _ => 0))), (q3, .inl (cI, 12, .inl (fun _ => 0))), (q4, .inl (cI, 7, .inl (fun _ => 0)))]) rfl ?_
  refine j_aload C 0 rfl rfl dX3_init_47 ?_
  refine j_iconst C (v := nI 0) (by decide) dX3_init_48 ?_
  refine j_put C cls3 (k := 6) (v := .int (nI 0)) (by decide) fl_X3_31 rfl (cls3.2.2.1 6 (by decide)) rfl rfl (Nat.le_of_ble_eq_true rfl) dX3_init_49 ?_
  refine j_ws (ws' := [(h0, .inr (3, [.ref q1, .ref q2, .ref q3, .ref q4, .int 0, .int 12, .int 0, .int 0])), (q1, .inl (cI, 6, .inl (fun _ => 0))), (q2, .inl (cI, 6, .inl (fun _ => 0))), (q3, .inl (cI, 12, .inl (fun _ => 0))), (q4, .inl (cI, 7, .inl (fun _ => 0)))]) rfl ?_
  refine j_aload C 0 rfl rfl dX3_init_52 ?_
  refine j_iconst C (v := nI 0) (by decide) dX3_init_53 ?_
  refine j_put C cls3 (k := 7) (v := .int (nI 0)) (by decide) fl_X3_34 rfl (cls3.2.2.1 7 (by decide)) rfl rfl (Nat.le_of_ble_eq_true rfl) dX3_init_54 ?_
  refine j_ws (ws' := [(h0, .inr (3, [.ref q1, .ref q2, .ref q3, .ref q4, .int 0, .int 12, .int 0, .int 0])), (q1, .inl (cI, 6, .inl (fun _ => 0))), (q2, .inl (cI, 6, .inl (fun _ => 0))), (q3, .inl (cI, 12, .inl (fun _ => 0))), (q4, .inl (cI, 7, .inl (fun _ => 0)))]) rfl ?_
  refine j_vret C E (by decide) (by decide) ?_ dX3_init_57
  exact ⟨fun n => ([h0, q1, q2, q3, q4] : List Nat).getD n 0, rfl, rfl⟩
set_option maxRecDepth 100000 in
set_option maxHeartbeats 1000000 in
theorem i_X2 (l : Launch) (D : va_G) (cI cB cO : ClassId) : Ic l D cI cB cO yX2_init cX2_init 1 1 1 120 2 fs2 (TxS cB) := by
  refine Ic.of RX2 rfl rfl (by decide) (by decide) (fun z A h0 C Nm M F E => ?_)
  refine j_ws (ws' := [(h0, .inr (2, [.null, .int 0]))]) rfl ?_
  refine j_aload C 0 rfl rfl dX2_init_0 ?_
  refine j_obj C (F 1 (by decide)) ml_X2_3 (Nat.le_of_ble_eq_true rfl) dX2_init_1 ?_
  refine j_aload C 0 rfl rfl dX2_init_4 ?_
  refine j_bipush C (v := nI 120) (by decide) dX2_init_5 ?_
  refine j_newB C (N := 120) rfl (by decide) (M _ _ (by decide) (by decide)) ka_byte dX2_init_7 (fun q1 => ?_)
  refine j_ws (ws' := [(h0, .inr (2, [.null, .int 0])), (q1, .inl (cB, 120, .inl (fun _ => 0)))]) rfl ?_
  refine j_putF C Nm cls2 (k := 0) (v := .ref q1) (by decide) fl_X2_9 rfl rfl (cls2.2.2.1 0 (by decide)) rfl rfl (Nat.le_of_ble_eq_true rfl) dX2_init_9 ?_
  refine j_ws (ws' := [(h0, .inr (2, [.ref q1, .int 0])), (q1, .inl (cB, 120, .inl (fun _ => 0)))]) rfl ?_
  refine j_aload C 0 rfl rfl dX2_init_12 ?_
  refine j_iconst C (v := nI 0) (by decide) dX2_init_13 ?_
  refine j_put C cls2 (k := 1) (v := .int (nI 0)) (by decide) fl_X2_15 rfl (cls2.2.2.1 1 (by decide)) rfl rfl (Nat.le_of_ble_eq_true rfl) dX2_init_14 ?_
  refine j_ws (ws' := [(h0, .inr (2, [.ref q1, .int 0])), (q1, .inl (cB, 120, .inl (fun _ => 0)))]) rfl ?_
  refine j_vret C E (by decide) (by decide) ?_ dX2_init_17
  exact ⟨fun n => ([h0, q1] : List Nat).getD n 0, rfl, rfl⟩
set_option maxRecDepth 100000 in
set_option maxHeartbeats 1000000 in
theorem i_X0 (l : Launch) (D : va_G) (cI cB cO : ClassId) : Ic l D cI cB cO yX0_init cX0_init 1 1 3 180 0 fs0 (OrS cI) := by
  refine Ic.of RX0 rfl rfl (by decide) (by decide) (fun z A h0 C Nm M F E => ?_)
  refine j_ws (ws' := [(h0, .inr (0, [.null, .null, .null, .int 0, .int 0, .int 0]))]) rfl ?_
  refine j_aload C 0 rfl rfl dX0_init_0 ?_
  refine j_obj C (F 1 (by decide)) ml_X0_3 (Nat.le_of_ble_eq_true rfl) dX0_init_1 ?_
  refine j_aload C 0 rfl rfl dX0_init_4 ?_
  refine j_bipush C (v := nI 60) (by decide) dX0_init_5 ?_
  refine j_newI C (N := 60) rfl (by decide) (M _ _ (by decide) (by decide)) ka_int dX0_init_7 (fun q1 => ?_)
  refine j_ws (ws' := [(h0, .inr (0, [.null, .null, .null, .int 0, .int 0, .int 0])), (q1, .inl (cI, 60, .inl (fun _ => 0)))]) rfl ?_
  refine j_putF C Nm cls0 (k := 0) (v := .ref q1) (by decide) fl_X0_9 rfl rfl (cls0.2.2.1 0 (by decide)) rfl rfl (Nat.le_of_ble_eq_true rfl) dX0_init_9 ?_
  refine j_ws (ws' := [(h0, .inr (0, [.ref q1, .null, .null, .int 0, .int 0, .int 0])), (q1, .inl (cI, 60, .inl (fun _ => 0)))]) rfl ?_
  refine j_aload C 0 rfl rfl dX0_init_12 ?_
  refine j_bipush C (v := nI 60) (by decide) dX0_init_13 ?_
  refine j_newI C (N := 60) rfl (by decide) (M _ _ (by decide) (by decide)) ka_int dX0_init_15 (fun q2 => ?_)
  refine j_ws (ws' := [(h0, .inr (0, [.ref q1, .null, .null, .int 0, .int 0, .int 0])), (q1, .inl (cI, 60, .inl (fun _ => 0))), (q2, .inl (cI, 60, .inl (fun _ => 0)))]) rfl ?_
  refine j_putF C Nm cls0 (k := 1) (v := .ref q2) (by decide) fl_X0_15 rfl rfl (cls0.2.2.1 1 (by decide)) rfl rfl (Nat.le_of_ble_eq_true rfl) dX0_init_17 ?_
  refine j_ws (ws' := [(h0, .inr (0, [.ref q1, .ref q2, .null, .int 0, .int 0, .int 0])), (q1, .inl (cI, 60, .inl (fun _ => 0))), (q2, .inl (cI, 60, .inl (fun _ => 0)))]) rfl ?_
  refine j_aload C 0 rfl rfl dX0_init_20 ?_
  refine j_bipush C (v := nI 60) (by decide) dX0_init_21 ?_
  refine j_newI C (N := 60) rfl (by decide) (M _ _ (by decide) (by decide)) ka_int dX0_init_23 (fun q3 => ?_)
  refine j_ws (ws' := [(h0, .inr (0, [.ref q1, .ref q2, .null, .int 0, .int 0, .int 0])), (q1, .inl (cI, 60, .inl (fun _ => 0))), (q2, .inl (cI, 60, .inl (fun _ => 0))), (q3, .inl (cI, 60, .inl (fun _ => 0)))]) rfl ?_
  refine j_putF C Nm cls0 (k := 2) (v := .ref q3) (by decide) fl_X0_18 rfl rfl (cls0.2.2.1 2 (by decide)) rfl rfl (Nat.le_of_ble_eq_true rfl) dX0_init_25 ?_
  refine j_ws (ws' := [(h0, .inr (0, [.ref q1, .ref q2, .ref q3, .int 0, .int 0, .int 0])), (q1, .inl (cI, 60, .inl (fun _ => 0))), (q2, .inl (cI, 60, .inl (fun _ => 0))), (q3, .inl (cI, 60, .inl (fun _ => 0)))]) rfl ?_
  refine j_aload C 0 rfl rfl dX0_init_28 ?_
  refine j_iconst C (v := nI 0) (by decide) dX0_init_29 ?_
  refine j_put C cls0 (k := 3) (v := .int (nI 0)) (by decide) fl_X0_21 rfl (cls0.2.2.1 3 (by decide)) rfl rfl (Nat.le_of_ble_eq_true rfl) dX0_init_30 ?_
  refine j_ws (ws' := [(h0, .inr (0, [.ref q1, .ref q2, .ref q3, .int 0, .int 0, .int 0])), (q1, .inl (cI, 60, .inl (fun _ => 0))), (q2, .inl (cI, 60, .inl (fun _ => 0))), (q3, .inl (cI, 60, .inl (fun _ => 0)))]) rfl ?_
  refine j_vret C E (by decide) (by decide) ?_ dX0_init_33
  exact ⟨fun n => ([h0, q1, q2, q3] : List Nat).getD n 0, rfl, rfl⟩
set_option maxRecDepth 100000 in
set_option maxHeartbeats 1000000 in
theorem i_X5 (l : Launch) (D : va_G) (cI cB cO : ClassId) : Ic l D cI cB cO yX5_init cX5_init 1 1 10 573 5 fs5 (MdS cI) := by
  refine Ic.of RX5 rfl rfl (by decide) (by decide) (fun z A h0 C Nm M F E => ?_)
  refine j_ws (ws' := [(h0, .inr (5, [.null, .null, .null, .int 0, .null, .null, .int 0, .null, .null, .null, .null, .null, .int 0, .int 0, .int 0, .long 0]))]) rfl ?_
  refine j_aload C 0 rfl rfl dX5_init_0 ?_
  refine j_obj C (F 1 (by decide)) ml_X5_1 (Nat.le_of_ble_eq_true rfl) dX5_init_1 ?_
  refine j_aload C 0 rfl rfl dX5_init_4 ?_
  refine j_bipush C (v := nI 35) (by decide) dX5_init_5 ?_
  refine j_newI C (N := 35) rfl (by decide) (M _ _ (by decide) (by decide)) ka_int dX5_init_7 (fun q1 => ?_)
  refine j_ws (ws' := [(h0, .inr (5, [.null, .null, .null, .int 0, .null, .null, .int 0, .null, .null, .null, .null, .null, .int 0, .int 0, .int 0, .long 0])), (q1, .inl (cI, 35, .inl (fun _ => 0)))]) rfl ?_
  refine j_putF C Nm cls5 (k := 0) (v := .ref q1) (by decide) fl_X5_7 rfl rfl (cls5.2.2.1 0 (by decide)) rfl rfl (Nat.le_of_ble_eq_true rfl) dX5_init_9 ?_
  refine j_ws (ws' := [(h0, .inr (5, [.ref q1, .null, .null, .int 0, .null, .null, .int 0, .null, .null, .null, .null, .null, .int 0, .int 0, .int 0, .long 0])), (q1, .inl (cI, 35, .inl (fun _ => 0)))]) rfl ?_
  refine j_aload C 0 rfl rfl dX5_init_12 ?_
  refine j_bipush C (v := nI 35) (by decide) dX5_init_13 ?_
  refine j_newI C (N := 35) rfl (by decide) (M _ _ (by decide) (by decide)) ka_int dX5_init_15 (fun q2 => ?_)
  refine j_ws (ws' := [(h0, .inr (5, [.ref q1, .null, .null, .int 0, .null, .null, .int 0, .null, .null, .null, .null, .null, .int 0, .int 0, .int 0, .long 0])), (q1, .inl (cI, 35, .inl (fun _ => 0))), (q2, .inl (cI, 35, .inl (fun _ => 0)))]) rfl ?_
  refine j_putF C Nm cls5 (k := 1) (v := .ref q2) (by decide) fl_X5_13 rfl rfl (cls5.2.2.1 1 (by decide)) rfl rfl (Nat.le_of_ble_eq_true rfl) dX5_init_17 ?_
  refine j_ws (ws' := [(h0, .inr (5, [.ref q1, .ref q2, .null, .int 0, .null, .null, .int 0, .null, .null, .null, .null, .null, .int 0, .int 0, .int 0, .long 0])), (q1, .inl (cI, 35, .inl (fun _ => 0))), (q2, .inl (cI, 35, .inl (fun _ => 0)))]) rfl ?_
  refine j_aload C 0 rfl rfl dX5_init_20 ?_
  refine j_sipush C (v := nI 175) (by decide) dX5_init_21 ?_
  refine j_newI C (N := 175) rfl (by decide) (M _ _ (by decide) (by decide)) ka_int dX5_init_24 (fun q3 => ?_)
  refine j_ws (ws' := [(h0, .inr (5, [.ref q1, .ref q2, .null, .int 0, .null, .null, .int 0, .null, .null, .null, .null, .null, .int 0, .int 0, .int 0, .long 0])), (q1, .inl (cI, 35, .inl (fun _ => 0))), (q2, .inl (cI, 35, .inl (fun _ => 0))), (q3, .inl (cI, 175, .inl (fun _ => 0)))]) rfl ?_
  refine j_putF C Nm cls5 (k := 2) (v := .ref q3) (by decide) fl_X5_16 rfl rfl (cls5.2.2.1 2 (by decide)) rfl rfl (Nat.le_of_ble_eq_true rfl) dX5_init_26 ?_
  refine j_ws (ws' := [(h0, .inr (5, [.ref q1, .ref q2, .ref q3, .int 0, .null, .null, .int 0, .null, .null, .null, .null, .null, .int 0, .int 0, .int 0, .long 0])), (q1, .inl (cI, 35, .inl (fun _ => 0))), (q2, .inl (cI, 35, .inl (fun _ => 0))), (q3, .inl (cI, 175, .inl (fun _ => 0)))]) rfl ?_
  refine j_aload C 0 rfl rfl dX5_init_29 ?_
  refine j_iconst C (v := nI 3) (by decide) dX5_init_30 ?_
  refine j_newI C (N := 3) rfl (by decide) (M _ _ (by decide) (by decide)) ka_int dX5_init_31 (fun q4 => ?_)
  refine j_ws (ws' := [(h0, .inr (5, [.ref q1, .ref q2, .ref q3, .int 0, .null, .null, .int 0, .null, .null, .null, .null, .null, .int 0, .int 0, .int 0, .long 0])), (q1, .inl (cI, 35, .inl (fun _ => 0))), (q2, .inl (cI, 35, .inl (fun _ => 0))), (q3, .inl (cI, 175, .inl (fun _ => 0))), (q4, .inl (cI, 3, .inl (fun _ => 0)))]) rfl ?_
  refine j_putF C Nm cls5 (k := 4) (v := .ref q4) (by decide) fl_X5_19 rfl rfl (cls5.2.2.1 4 (by decide)) rfl rfl (Nat.le_of_ble_eq_true rfl) dX5_init_33 ?_
  refine j_ws (ws' := [(h0, .inr (5, [.ref q1, .ref q2, .ref q3, .int 0, .ref q4, .null, .int 0, .null, .null, .null, .null, .null, .int 0, .int 0, .int 0, .long 0])), (q1, .inl (cI, 35, .inl (fun _ => 0))), (q2, .inl (cI, 35, .inl (fun _ => 0))), (q3, .inl (cI, 175, .inl (fun _ => 0))), (q4, .inl (cI, 3, .inl (fun _ => 0)))]) rfl ?_
  refine j_aload C 0 rfl rfl dX5_init_36 ?_
  refine j_bipush C (v := nI 120) (by decide) dX5_init_37 ?_
  refine j_newI C (N := 120) rfl (by decide) (M _ _ (by decide) (by decide)) ka_int dX5_init_39 (fun q5 => ?_)
  refine j_ws (ws' := [(h0, .inr (5, [.ref q1, .ref q2, .ref q3, .int 0, .ref q4, .null, .int 0, .null, .null, .null, .null, .null, .int 0, .int 0, .int 0, .long 0])), (q1, .inl (cI, 35, .inl (fun _ => 0))), (q2, .inl (cI, 35, .inl (fun _ => 0))), (q3, .inl (cI, 175, .inl (fun _ => 0))), (q4, .inl (cI, 3, .inl (fun _ => 0))), (q5, .inl (cI, 120, .inl (fun _ => 0)))]) rfl ?_
  refine j_putF C Nm cls5 (k := 5) (v := .ref q5) (by decide) fl_X5_22 rfl rfl (cls5.2.2.1 5 (by decide)) rfl rfl (Nat.le_of_ble_eq_true rfl) dX5_init_41 ?_
  refine j_ws (ws' := [(h0, .inr (5, [.ref q1, .ref q2, .ref q3, .int 0, .ref q4, .ref q5, .int 0, .null, .null, .null, .null, .null, .int 0, .int 0, .int 0, .long 0])), (q1, .inl (cI, 35, .inl (fun _ => 0))), (q2, .inl (cI, 35, .inl (fun _ => 0))), (q3, .inl (cI, 175, .inl (fun _ => 0))), (q4, .inl (cI, 3, .inl (fun _ => 0))), (q5, .inl (cI, 120, .inl (fun _ => 0)))]) rfl ?_
  refine j_aload C 0 rfl rfl dX5_init_44 ?_
  refine j_bipush C (v := nI 6) (by decide) dX5_init_45 ?_
  refine j_newI C (N := 6) rfl (by decide) (M _ _ (by decide) (by decide)) ka_int dX5_init_47 (fun q6 => ?_)
  refine j_ws (ws' := [(h0, .inr (5, [.ref q1, .ref q2, .ref q3, .int 0, .ref q4, .ref q5, .int 0, .null, .null, .null, .null, .null, .int 0, .int 0, .int 0, .long 0])), (q1, .inl (cI, 35, .inl (fun _ => 0))), (q2, .inl (cI, 35, .inl (fun _ => 0))), (q3, .inl (cI, 175, .inl (fun _ => 0))), (q4, .inl (cI, 3, .inl (fun _ => 0))), (q5, .inl (cI, 120, .inl (fun _ => 0))), (q6, .inl (cI, 6, .inl (fun _ => 0)))]) rfl ?_
  refine j_putF C Nm cls5 (k := 7) (v := .ref q6) (by decide) fl_X5_25 rfl rfl (cls5.2.2.1 7 (by decide)) rfl rfl (Nat.le_of_ble_eq_true rfl) dX5_init_49 ?_
  refine j_ws (ws' := [(h0, .inr (5, [.ref q1, .ref q2, .ref q3, .int 0, .ref q4, .ref q5, .int 0, .ref q6, .null, .null, .null, .null, .int 0, .int 0, .int 0, .long 0])), (q1, .inl (cI, 35, .inl (fun _ => 0))), (q2, .inl (cI, 35, .inl (fun _ => 0))), (q3, .inl (cI, 175, .inl (fun _ => 0))), (q4, .inl (cI, 3, .inl (fun _ => 0))), (q5, .inl (cI, 120, .inl (fun _ => 0))), (q6, .inl (cI, 6, .inl (fun _ => 0)))]) rfl ?_
  refine j_aload C 0 rfl rfl dX5_init_52 ?_
  refine j_bipush C (v := nI 12) (by decide) dX5_init_53 ?_
  refine j_newI C (N := 12) rfl (by decide) (M _ _ (by decide) (by decide)) ka_int dX5_init_55 (fun q7 => ?_)
  refine j_ws (ws' := [(h0, .inr (5, [.ref q1, .ref q2, .ref q3, .int 0, .ref q4, .ref q5, .int 0, .ref q6, .null, .null, .null, .null, .int 0, .int 0, .int 0, .long 0])), (q1, .inl (cI, 35, .inl (fun _ => 0))), (q2, .inl (cI, 35, .inl (fun _ => 0))), (q3, .inl (cI, 175, .inl (fun _ => 0))), (q4, .inl (cI, 3, .inl (fun _ => 0))), (q5, .inl (cI, 120, .inl (fun _ => 0))), (q6, .inl (cI, 6, .inl (fun _ => 0))), (q7, .inl (cI, 12, .inl (fun _ => 0)))]) rfl ?_
  refine j_putF C Nm cls5 (k := 8) (v := .ref q7) (by decide) fl_X5_28 rfl rfl (cls5.2.2.1 8 (by decide)) rfl rfl (Nat.le_of_ble_eq_true rfl) dX5_init_57 ?_
  refine j_ws (ws' := [(h0, .inr (5, [.ref q1, .ref q2, .ref q3, .int 0, .ref q4, .ref q5, .int 0, .ref q6, .ref q7, .null, .null, .null, .int 0, .int 0, .int 0, .long 0])), (q1, .inl (cI, 35, .inl (fun _ => 0))), (q2, .inl (cI, 35, .inl (fun _ => 0))), (q3, .inl (cI, 175, .inl (fun _ => 0))), (q4, .inl (cI, 3, .inl (fun _ => 0))), (q5, .inl (cI, 120, .inl (fun _ => 0))), (q6, .inl (cI, 6, .inl (fun _ => 0))), (q7, .inl (cI, 12, .inl (fun _ => 0)))]) rfl ?_
  refine j_aload C 0 rfl rfl dX5_init_60 ?_
  refine j_bipush C (v := nI 7) (by decide) dX5_init_61 ?_
  refine j_newI C (N := 7) rfl (by decide) (M _ _ (by decide) (by decide)) ka_int dX5_init_63 (fun q8 => ?_)
  refine j_ws (ws' := [(h0, .inr (5, [.ref q1, .ref q2, .ref q3, .int 0, .ref q4, .ref q5, .int 0, .ref q6, .ref q7, .null, .null, .null, .int 0, .int 0, .int 0, .long 0])), (q1, .inl (cI, 35, .inl (fun _ => 0))), (q2, .inl (cI, 35, .inl (fun _ => 0))), (q3, .inl (cI, 175, .inl (fun _ => 0))), (q4, .inl (cI, 3, .inl (fun _ => 0))), (q5, .inl (cI, 120, .inl (fun _ => 0))), (q6, .inl (cI, 6, .inl (fun _ => 0))), (q7, .inl (cI, 12, .inl (fun _ => 0))), (q8, .inl (cI, 7, .inl (fun _ => 0)))]) rfl ?_
  refine j_putF C Nm cls5 (k := 9) (v := .ref q8) (by decide) fl_X5_31 rfl rfl (cls5.2.2.1 9 (by decide)) rfl rfl (Nat.le_of_ble_eq_true rfl) dX5_init_65 ?_
  refine j_ws (ws' := [(h0, .inr (5, [.ref q1, .ref q2, .ref q3, .int 0, .ref q4, .ref q5, .int 0, .ref q6, .ref q7, .ref q8, .null, .null, .int 0, .int 0, .int 0, .long 0])), (q1, .inl (cI, 35, .inl (fun _ => 0))), (q2, .inl (cI, 35, .inl (fun _ => 0))), (q3, .inl (cI, 175, .inl (fun _ => 0))), (q4, .inl (cI, 3, .inl (fun _ => 0))), (q5, .inl (cI, 120, .inl (fun _ => 0))), (q6, .inl (cI, 6, .inl (fun _ => 0))), (q7, .inl (cI, 12, .inl (fun _ => 0))), (q8, .inl (cI, 7, .inl (fun _ => 0)))]) rfl ?_
  refine j_aload C 0 rfl rfl dX5_init_68 ?_
  refine j_bipush C (v := nI 60) (by decide) dX5_init_69 ?_
  refine j_newI C (N := 60) rfl (by decide) (M _ _ (by decide) (by decide)) ka_int dX5_init_71 (fun q9 => ?_)
  refine j_ws (ws' := [(h0, .inr (5, [.ref q1, .ref q2, .ref q3, .int 0, .ref q4, .ref q5, .int 0, .ref q6, .ref q7, .ref q8, .null, .null, .int 0, .int 0, .int 0, .long 0])), (q1, .inl (cI, 35, .inl (fun _ => 0))), (q2, .inl (cI, 35, .inl (fun _ => 0))), (q3, .inl (cI, 175, .inl (fun _ => 0))), (q4, .inl (cI, 3, .inl (fun _ => 0))), (q5, .inl (cI, 120, .inl (fun _ => 0))), (q6, .inl (cI, 6, .inl (fun _ => 0))), (q7, .inl (cI, 12, .inl (fun _ => 0))), (q8, .inl (cI, 7, .inl (fun _ => 0))), (q9, .inl (cI, 60, .inl (fun _ => 0)))]) rfl ?_
  refine j_putF C Nm cls5 (k := 10) (v := .ref q9) (by decide) fl_X5_34 rfl rfl (cls5.2.2.1 10 (by decide)) rfl rfl (Nat.le_of_ble_eq_true rfl) dX5_init_73 ?_
  refine j_ws (ws' := [(h0, .inr (5, [.ref q1, .ref q2, .ref q3, .int 0, .ref q4, .ref q5, .int 0, .ref q6, .ref q7, .ref q8, .ref q9, .null, .int 0, .int 0, .int 0, .long 0])), (q1, .inl (cI, 35, .inl (fun _ => 0))), (q2, .inl (cI, 35, .inl (fun _ => 0))), (q3, .inl (cI, 175, .inl (fun _ => 0))), (q4, .inl (cI, 3, .inl (fun _ => 0))), (q5, .inl (cI, 120, .inl (fun _ => 0))), (q6, .inl (cI, 6, .inl (fun _ => 0))), (q7, .inl (cI, 12, .inl (fun _ => 0))), (q8, .inl (cI, 7, .inl (fun _ => 0))), (q9, .inl (cI, 60, .inl (fun _ => 0)))]) rfl ?_
  refine j_aload C 0 rfl rfl dX5_init_76 ?_
  refine j_bipush C (v := nI 120) (by decide) dX5_init_77 ?_
  refine j_newI C (N := 120) rfl (by decide) (M _ _ (by decide) (by decide)) ka_int dX5_init_79 (fun q10 => ?_)
  refine j_ws (ws' := [(h0, .inr (5, [.ref q1, .ref q2, .ref q3, .int 0, .ref q4, .ref q5, .int 0, .ref q6, .ref q7, .ref q8, .ref q9, .null, .int 0, .int 0, .int 0, .long 0])), (q1, .inl (cI, 35, .inl (fun _ => 0))), (q2, .inl (cI, 35, .inl (fun _ => 0))), (q3, .inl (cI, 175, .inl (fun _ => 0))), (q4, .inl (cI, 3, .inl (fun _ => 0))), (q5, .inl (cI, 120, .inl (fun _ => 0))), (q6, .inl (cI, 6, .inl (fun _ => 0))), (q7, .inl (cI, 12, .inl (fun _ => 0))), (q8, .inl (cI, 7, .inl (fun _ => 0))), (q9, .inl (cI, 60, .inl (fun _ => 0))), (q10, .inl (cI, 120, .inl (fun _ => 0)))]) rfl ?_
  refine j_putF C Nm cls5 (k := 11) (v := .ref q10) (by decide) fl_X5_37 rfl rfl (cls5.2.2.1 11 (by decide)) rfl rfl (Nat.le_of_ble_eq_true rfl) dX5_init_81 ?_
  refine j_ws (ws' := [(h0, .inr (5, [.ref q1, .ref q2, .ref q3, .int 0, .ref q4, .ref q5, .int 0, .ref q6, .ref q7, .ref q8, .ref q9, .ref q10, .int 0, .int 0, .int 0, .long 0])), (q1, .inl (cI, 35, .inl (fun _ => 0))), (q2, .inl (cI, 35, .inl (fun _ => 0))), (q3, .inl (cI, 175, .inl (fun _ => 0))), (q4, .inl (cI, 3, .inl (fun _ => 0))), (q5, .inl (cI, 120, .inl (fun _ => 0))), (q6, .inl (cI, 6, .inl (fun _ => 0))), (q7, .inl (cI, 12, .inl (fun _ => 0))), (q8, .inl (cI, 7, .inl (fun _ => 0))), (q9, .inl (cI, 60, .inl (fun _ => 0))), (q10, .inl (cI, 120, .inl (fun _ => 0)))]) rfl ?_
  refine j_aload C 0 rfl rfl dX5_init_84 ?_
  refine j_get C cls5 (k := 0) (v := .ref q1) (by decide) fl_X5_7 rfl dX5_init_85 ?_
  refine j_bipush C (v := nI 32) (by decide) dX5_init_88 ?_
  refine j_bipush C (v := nI 12) (by decide) dX5_init_90 ?_
  refine j_iast C (q0 := 1) rfl (vp_in_nI (by decide) (by decide)) dX5_init_92 ?_
  refine j_ws (ws' := [(h0, .inr (5, [.ref q1, .ref q2, .ref q3, .int 0, .ref q4, .ref q5, .int 0, .ref q6, .ref q7, .ref q8, .ref q9, .ref q10, .int 0, .int 0, .int 0, .long 0])), (q1, .inl (cI, 35, .inl (upd (fun _ => 0) 32 12))), (q2, .inl (cI, 35, .inl (fun _ => 0))), (q3, .inl (cI, 175, .inl (fun _ => 0))), (q4, .inl (cI, 3, .inl (fun _ => 0))), (q5, .inl (cI, 120, .inl (fun _ => 0))), (q6, .inl (cI, 6, .inl (fun _ => 0))), (q7, .inl (cI, 12, .inl (fun _ => 0))), (q8, .inl (cI, 7, .inl (fun _ => 0))), (q9, .inl (cI, 60, .inl (fun _ => 0))), (q10, .inl (cI, 120, .inl (fun _ => 0)))]) rfl ?_
  refine j_vret C E (by decide) (by decide) ?_ dX5_init_93
  exact ⟨fun n => ([h0, q1, q2, q3, q4, q5, q6, q7, q8, q9, q10] : List Nat).getD n 0, rfl, rfl⟩
set_option maxRecDepth 100000 in
set_option maxHeartbeats 1000000 in
theorem i_X1 (l : Launch) (D : va_G) (cI cB cO : ClassId) : Ic l D cI cB cO yX1_init cX1_init 2 2 26 200 1 fs1 (StS cI cO) := by
  refine Ic.of RX1 rfl rfl (by decide) (by decide) (fun z A h0 C Nm M F E => ?_)
  refine j_ws (ws' := [(h0, .inr (1, [.null, .int 0, .int 0]))]) rfl ?_
  refine j_aload C 0 rfl rfl dX1_init_0 ?_
  refine j_obj C (F 1 (by decide)) ml_X1_3 (Nat.le_of_ble_eq_true rfl) dX1_init_1 ?_
  refine j_aload C 0 rfl rfl dX1_init_4 ?_
  refine j_iconst C (v := nI 5) (by decide) dX1_init_5 ?_
  refine j_newR C (N := 5) rfl (by decide) (M _ _ (by decide) (by decide)) kl_X1_9 dX1_init_6 (fun r1 => ?_)
  refine j_ws (ws' := [(h0, .inr (1, [.null, .int 0, .int 0])), (r1, .inl (cO, 5, .inr (.inr (.inr (.inr (fun _ => none))))))]) rfl ?_
  refine j_putF C Nm cls1 (k := 0) (v := .ref r1) (by decide) fl_X1_11 rfl rfl (cls1.2.2.1 0 (by decide)) rfl rfl (Nat.le_of_ble_eq_true rfl) dX1_init_9 ?_
  refine j_ws (ws' := [(h0, .inr (1, [.ref r1, .int 0, .int 0])), (r1, .inl (cO, 5, .inr (.inr (.inr (.inr (fun _ => none))))))]) rfl ?_
  refine j_aload C 0 rfl rfl dX1_init_12 ?_
  refine j_iconst C (v := nI 0) (by decide) dX1_init_13 ?_
  refine j_put C cls1 (k := 1) (v := .int (nI 0)) (by decide) fl_X1_17 rfl (cls1.2.2.1 1 (by decide)) rfl rfl (Nat.le_of_ble_eq_true rfl) dX1_init_14 ?_
  refine j_ws (ws' := [(h0, .inr (1, [.ref r1, .int 0, .int 0])), (r1, .inl (cO, 5, .inr (.inr (.inr (.inr (fun _ => none))))))]) rfl ?_
  refine j_aload C 0 rfl rfl dX1_init_17 ?_
  refine j_iconst C (v := nI 0) (by decide) dX1_init_18 ?_
  refine j_put C cls1 (k := 2) (v := .int (nI 0)) (by decide) fl_X1_21 rfl (cls1.2.2.1 2 (by decide)) rfl rfl (Nat.le_of_ble_eq_true rfl) dX1_init_19 ?_
  refine j_ws (ws' := [(h0, .inr (1, [.ref r1, .int 0, .int 0])), (r1, .inl (cO, 5, .inr (.inr (.inr (.inr (fun _ => none))))))]) rfl ?_
  refine j_iconst C (v := nI 0) (by decide) dX1_init_22 ?_
  refine j_istore C (L' := [(1, .int (nI 0)), (0, .ref h0)]) rfl (by decide) rfl dX1_init_23 ?_
  refine j_iload C 0 rfl rfl dX1_init_24 ?_
  refine j_iconst C (v := nI 5) (by decide) dX1_init_25 ?_
  refine j_ge_f C (tgt := 48) (by decide) (by decide) dX1_init_26 ?_
  refine j_aload C 1 rfl rfl dX1_init_29 ?_
  refine j_get C cls1 (k := 0) (v := .ref r1) (by decide) fl_X1_11 rfl dX1_init_30 ?_
  refine j_iload C 0 rfl rfl dX1_init_33 ?_
  refine j_new C (fs := fs3) cls3 (M _ _ (by decide) (by decide)) kl_X1_9 ki_X3 ini_X3 (fun j hj => by rcases (show j = 0 ∨ j = 1 ∨ j = 2 ∨ j = 3 ∨ j = 4 ∨ j = 5 ∨ j = 6 ∨ j = 7 by omega) with rfl | rfl | rfl | rfl | rfl | rfl | rfl | rfl <;> rfl) dX1_init_34 (fun q0 => ?_)
  refine j_dup C rfl dX1_init_37 ?_
  refine j_initN C (r := [(h0, .inr (1, [.ref r1, .int 0, .int 0])), (r1, .inl (cO, 5, .inr (.inr (.inr (.inr (fun _ => none))))))]) (i_X3 l D cI cB cO) mt_X3_init rfl nl_X1_24 im_X3_init (F 2 (by decide)) (M _ _ (by decide) (by decide)) (Nat.le_of_ble_eq_true rfl) dX1_init_38 (fun w0 hw0 => ?_)
  obtain ⟨t0, ht0, rfl⟩ := hw0
  subst ht0
  refine j_ws (ws' := [(h0, .inr (1, [.ref r1, .int 0, .int 0])), (r1, .inl (cO, 5, .inr (.inr (.inr (.inr (fun _ => none)))))), ((t0 0), .inr (3, [.ref ((t0 1)), .ref ((t0 2)), .ref ((t0 3)), .ref ((t0 4)), .int 0, .int 12, .int 0, .int 0])), ((t0 1), .inl (cI, 6, .inl (fun _ => 0))), ((t0 2), .inl (cI, 6, .inl (fun _ => 0))), ((t0 3), .inl (cI, 12, .inl (fun _ => 0))), ((t0 4), .inl (cI, 7, .inl (fun _ => 0)))]) rfl ?_
  refine j_aast C (q0 := 1) (qk := 2) rfl rfl (vp_in_nI (by decide) (by decide)) dX1_init_41 ?_
  refine j_ws (ws' := [(h0, .inr (1, [.ref r1, .int 0, .int 0])), (r1, .inl (cO, 5, .inr (.inr (.inr (.inr (va_up (fun _ => none) (nI 0).toNatClampNeg (some ((t0 0))))))))), ((t0 0), .inr (3, [.ref ((t0 1)), .ref ((t0 2)), .ref ((t0 3)), .ref ((t0 4)), .int 0, .int 12, .int 0, .int 0])), ((t0 1), .inl (cI, 6, .inl (fun _ => 0))), ((t0 2), .inl (cI, 6, .inl (fun _ => 0))), ((t0 3), .inl (cI, 12, .inl (fun _ => 0))), ((t0 4), .inl (cI, 7, .inl (fun _ => 0)))]) rfl ?_
  refine j_iinc C (k := 0) (v := nI 1) (L' := [(1, .int (nI 1)), (0, .ref h0)]) rfl (by decide) (by decide) rfl dX1_init_42 ?_
  refine j_goto C (tgt := 24) (by decide) dX1_init_45 ?_
  refine j_iload C 0 rfl rfl dX1_init_24 ?_
  refine j_iconst C (v := nI 5) (by decide) dX1_init_25 ?_
  refine j_ge_f C (tgt := 48) (by decide) (by decide) dX1_init_26 ?_
  refine j_aload C 1 rfl rfl dX1_init_29 ?_
  refine j_get C cls1 (k := 0) (v := .ref r1) (by decide) fl_X1_11 rfl dX1_init_30 ?_
  refine j_iload C 0 rfl rfl dX1_init_33 ?_
  refine j_new C (fs := fs3) cls3 (M _ _ (by decide) (by decide)) kl_X1_9 ki_X3 ini_X3 (fun j hj => by rcases (show j = 0 ∨ j = 1 ∨ j = 2 ∨ j = 3 ∨ j = 4 ∨ j = 5 ∨ j = 6 ∨ j = 7 by omega) with rfl | rfl | rfl | rfl | rfl | rfl | rfl | rfl <;> rfl) dX1_init_34 (fun q1 => ?_)
  refine j_dup C rfl dX1_init_37 ?_
  refine j_initN C (r := [(h0, .inr (1, [.ref r1, .int 0, .int 0])), (r1, .inl (cO, 5, .inr (.inr (.inr (.inr (va_up (fun _ => none) (nI 0).toNatClampNeg (some ((t0 0))))))))), ((t0 0), .inr (3, [.ref ((t0 1)), .ref ((t0 2)), .ref ((t0 3)), .ref ((t0 4)), .int 0, .int 12, .int 0, .int 0])), ((t0 1), .inl (cI, 6, .inl (fun _ => 0))), ((t0 2), .inl (cI, 6, .inl (fun _ => 0))), ((t0 3), .inl (cI, 12, .inl (fun _ => 0))), ((t0 4), .inl (cI, 7, .inl (fun _ => 0)))]) (i_X3 l D cI cB cO) mt_X3_init rfl nl_X1_24 im_X3_init (F 2 (by decide)) (M _ _ (by decide) (by decide)) (Nat.le_of_ble_eq_true rfl) dX1_init_38 (fun w1 hw1 => ?_)
  obtain ⟨t1, ht1, rfl⟩ := hw1
  subst ht1
  refine j_ws (ws' := [(h0, .inr (1, [.ref r1, .int 0, .int 0])), (r1, .inl (cO, 5, .inr (.inr (.inr (.inr (va_up (fun _ => none) (nI 0).toNatClampNeg (some ((t0 0))))))))), ((t0 0), .inr (3, [.ref ((t0 1)), .ref ((t0 2)), .ref ((t0 3)), .ref ((t0 4)), .int 0, .int 12, .int 0, .int 0])), ((t0 1), .inl (cI, 6, .inl (fun _ => 0))), ((t0 2), .inl (cI, 6, .inl (fun _ => 0))), ((t0 3), .inl (cI, 12, .inl (fun _ => 0))), ((t0 4), .inl (cI, 7, .inl (fun _ => 0))), ((t1 0), .inr (3, [.ref ((t1 1)), .ref ((t1 2)), .ref ((t1 3)), .ref ((t1 4)), .int 0, .int 12, .int 0, .int 0])), ((t1 1), .inl (cI, 6, .inl (fun _ => 0))), ((t1 2), .inl (cI, 6, .inl (fun _ => 0))), ((t1 3), .inl (cI, 12, .inl (fun _ => 0))), ((t1 4), .inl (cI, 7, .inl (fun _ => 0)))]) rfl ?_
  refine j_aast C (q0 := 1) (qk := 7) rfl rfl (vp_in_nI (by decide) (by decide)) dX1_init_41 ?_
  refine j_ws (ws' := [(h0, .inr (1, [.ref r1, .int 0, .int 0])), (r1, .inl (cO, 5, .inr (.inr (.inr (.inr (va_up (va_up (fun _ => none) (nI 0).toNatClampNeg (some ((t0 0)))) (nI 1).toNatClampNeg (some ((t1 0))))))))), ((t0 0), .inr (3, [.ref ((t0 1)), .ref ((t0 2)), .ref ((t0 3)), .ref ((t0 4)), .int 0, .int 12, .int 0, .int 0])), ((t0 1), .inl (cI, 6, .inl (fun _ => 0))), ((t0 2), .inl (cI, 6, .inl (fun _ => 0))), ((t0 3), .inl (cI, 12, .inl (fun _ => 0))), ((t0 4), .inl (cI, 7, .inl (fun _ => 0))), ((t1 0), .inr (3, [.ref ((t1 1)), .ref ((t1 2)), .ref ((t1 3)), .ref ((t1 4)), .int 0, .int 12, .int 0, .int 0])), ((t1 1), .inl (cI, 6, .inl (fun _ => 0))), ((t1 2), .inl (cI, 6, .inl (fun _ => 0))), ((t1 3), .inl (cI, 12, .inl (fun _ => 0))), ((t1 4), .inl (cI, 7, .inl (fun _ => 0)))]) rfl ?_
  refine j_iinc C (k := 0) (v := nI 2) (L' := [(1, .int (nI 2)), (0, .ref h0)]) rfl (by decide) (by decide) rfl dX1_init_42 ?_
  refine j_goto C (tgt := 24) (by decide) dX1_init_45 ?_
  refine j_iload C 0 rfl rfl dX1_init_24 ?_
  refine j_iconst C (v := nI 5) (by decide) dX1_init_25 ?_
  refine j_ge_f C (tgt := 48) (by decide) (by decide) dX1_init_26 ?_
  refine j_aload C 1 rfl rfl dX1_init_29 ?_
  refine j_get C cls1 (k := 0) (v := .ref r1) (by decide) fl_X1_11 rfl dX1_init_30 ?_
  refine j_iload C 0 rfl rfl dX1_init_33 ?_
  refine j_new C (fs := fs3) cls3 (M _ _ (by decide) (by decide)) kl_X1_9 ki_X3 ini_X3 (fun j hj => by rcases (show j = 0 ∨ j = 1 ∨ j = 2 ∨ j = 3 ∨ j = 4 ∨ j = 5 ∨ j = 6 ∨ j = 7 by omega) with rfl | rfl | rfl | rfl | rfl | rfl | rfl | rfl <;> rfl) dX1_init_34 (fun q2 => ?_)
  refine j_dup C rfl dX1_init_37 ?_
  refine j_initN C (r := [(h0, .inr (1, [.ref r1, .int 0, .int 0])), (r1, .inl (cO, 5, .inr (.inr (.inr (.inr (va_up (va_up (fun _ => none) (nI 0).toNatClampNeg (some ((t0 0)))) (nI 1).toNatClampNeg (some ((t1 0))))))))), ((t0 0), .inr (3, [.ref ((t0 1)), .ref ((t0 2)), .ref ((t0 3)), .ref ((t0 4)), .int 0, .int 12, .int 0, .int 0])), ((t0 1), .inl (cI, 6, .inl (fun _ => 0))), ((t0 2), .inl (cI, 6, .inl (fun _ => 0))), ((t0 3), .inl (cI, 12, .inl (fun _ => 0))), ((t0 4), .inl (cI, 7, .inl (fun _ => 0))), ((t1 0), .inr (3, [.ref ((t1 1)), .ref ((t1 2)), .ref ((t1 3)), .ref ((t1 4)), .int 0, .int 12, .int 0, .int 0])), ((t1 1), .inl (cI, 6, .inl (fun _ => 0))), ((t1 2), .inl (cI, 6, .inl (fun _ => 0))), ((t1 3), .inl (cI, 12, .inl (fun _ => 0))), ((t1 4), .inl (cI, 7, .inl (fun _ => 0)))]) (i_X3 l D cI cB cO) mt_X3_init rfl nl_X1_24 im_X3_init (F 2 (by decide)) (M _ _ (by decide) (by decide)) (Nat.le_of_ble_eq_true rfl) dX1_init_38 (fun w2 hw2 => ?_)
  obtain ⟨t2, ht2, rfl⟩ := hw2
  subst ht2
  refine j_ws (ws' := [(h0, .inr (1, [.ref r1, .int 0, .int 0])), (r1, .inl (cO, 5, .inr (.inr (.inr (.inr (va_up (va_up (fun _ => none) (nI 0).toNatClampNeg (some ((t0 0)))) (nI 1).toNatClampNeg (some ((t1 0))))))))), ((t0 0), .inr (3, [.ref ((t0 1)), .ref ((t0 2)), .ref ((t0 3)), .ref ((t0 4)), .int 0, .int 12, .int 0, .int 0])), ((t0 1), .inl (cI, 6, .inl (fun _ => 0))), ((t0 2), .inl (cI, 6, .inl (fun _ => 0))), ((t0 3), .inl (cI, 12, .inl (fun _ => 0))), ((t0 4), .inl (cI, 7, .inl (fun _ => 0))), ((t1 0), .inr (3, [.ref ((t1 1)), .ref ((t1 2)), .ref ((t1 3)), .ref ((t1 4)), .int 0, .int 12, .int 0, .int 0])), ((t1 1), .inl (cI, 6, .inl (fun _ => 0))), ((t1 2), .inl (cI, 6, .inl (fun _ => 0))), ((t1 3), .inl (cI, 12, .inl (fun _ => 0))), ((t1 4), .inl (cI, 7, .inl (fun _ => 0))), ((t2 0), .inr (3, [.ref ((t2 1)), .ref ((t2 2)), .ref ((t2 3)), .ref ((t2 4)), .int 0, .int 12, .int 0, .int 0])), ((t2 1), .inl (cI, 6, .inl (fun _ => 0))), ((t2 2), .inl (cI, 6, .inl (fun _ => 0))), ((t2 3), .inl (cI, 12, .inl (fun _ => 0))), ((t2 4), .inl (cI, 7, .inl (fun _ => 0)))]) rfl ?_
  refine j_aast C (q0 := 1) (qk := 12) rfl rfl (vp_in_nI (by decide) (by decide)) dX1_init_41 ?_
  refine j_ws (ws' := [(h0, .inr (1, [.ref r1, .int 0, .int 0])), (r1, .inl (cO, 5, .inr (.inr (.inr (.inr (va_up (va_up (va_up (fun _ => none) (nI 0).toNatClampNeg (some ((t0 0)))) (nI 1).toNatClampNeg (some ((t1 0)))) (nI 2).toNatClampNeg (some ((t2 0))))))))), ((t0 0), .inr (3, [.ref ((t0 1)), .ref ((t0 2)), .ref ((t0 3)), .ref ((t0 4)), .int 0, .int 12, .int 0, .int 0])), ((t0 1), .inl (cI, 6, .inl (fun _ => 0))), ((t0 2), .inl (cI, 6, .inl (fun _ => 0))), ((t0 3), .inl (cI, 12, .inl (fun _ => 0))), ((t0 4), .inl (cI, 7, .inl (fun _ => 0))), ((t1 0), .inr (3, [.ref ((t1 1)), .ref ((t1 2)), .ref ((t1 3)), .ref ((t1 4)), .int 0, .int 12, .int 0, .int 0])), ((t1 1), .inl (cI, 6, .inl (fun _ => 0))), ((t1 2), .inl (cI, 6, .inl (fun _ => 0))), ((t1 3), .inl (cI, 12, .inl (fun _ => 0))), ((t1 4), .inl (cI, 7, .inl (fun _ => 0))), ((t2 0), .inr (3, [.ref ((t2 1)), .ref ((t2 2)), .ref ((t2 3)), .ref ((t2 4)), .int 0, .int 12, .int 0, .int 0])), ((t2 1), .inl (cI, 6, .inl (fun _ => 0))), ((t2 2), .inl (cI, 6, .inl (fun _ => 0))), ((t2 3), .inl (cI, 12, .inl (fun _ => 0))), ((t2 4), .inl (cI, 7, .inl (fun _ => 0)))]) rfl ?_
  refine j_iinc C (k := 0) (v := nI 3) (L' := [(1, .int (nI 3)), (0, .ref h0)]) rfl (by decide) (by decide) rfl dX1_init_42 ?_
  refine j_goto C (tgt := 24) (by decide) dX1_init_45 ?_
  refine j_iload C 0 rfl rfl dX1_init_24 ?_
  refine j_iconst C (v := nI 5) (by decide) dX1_init_25 ?_
  refine j_ge_f C (tgt := 48) (by decide) (by decide) dX1_init_26 ?_
  refine j_aload C 1 rfl rfl dX1_init_29 ?_
  refine j_get C cls1 (k := 0) (v := .ref r1) (by decide) fl_X1_11 rfl dX1_init_30 ?_
  refine j_iload C 0 rfl rfl dX1_init_33 ?_
  refine j_new C (fs := fs3) cls3 (M _ _ (by decide) (by decide)) kl_X1_9 ki_X3 ini_X3 (fun j hj => by rcases (show j = 0 ∨ j = 1 ∨ j = 2 ∨ j = 3 ∨ j = 4 ∨ j = 5 ∨ j = 6 ∨ j = 7 by omega) with rfl | rfl | rfl | rfl | rfl | rfl | rfl | rfl <;> rfl) dX1_init_34 (fun q3 => ?_)
  refine j_dup C rfl dX1_init_37 ?_
  refine j_initN C (r := [(h0, .inr (1, [.ref r1, .int 0, .int 0])), (r1, .inl (cO, 5, .inr (.inr (.inr (.inr (va_up (va_up (va_up (fun _ => none) (nI 0).toNatClampNeg (some ((t0 0)))) (nI 1).toNatClampNeg (some ((t1 0)))) (nI 2).toNatClampNeg (some ((t2 0))))))))), ((t0 0), .inr (3, [.ref ((t0 1)), .ref ((t0 2)), .ref ((t0 3)), .ref ((t0 4)), .int 0, .int 12, .int 0, .int 0])), ((t0 1), .inl (cI, 6, .inl (fun _ => 0))), ((t0 2), .inl (cI, 6, .inl (fun _ => 0))), ((t0 3), .inl (cI, 12, .inl (fun _ => 0))), ((t0 4), .inl (cI, 7, .inl (fun _ => 0))), ((t1 0), .inr (3, [.ref ((t1 1)), .ref ((t1 2)), .ref ((t1 3)), .ref ((t1 4)), .int 0, .int 12, .int 0, .int 0])), ((t1 1), .inl (cI, 6, .inl (fun _ => 0))), ((t1 2), .inl (cI, 6, .inl (fun _ => 0))), ((t1 3), .inl (cI, 12, .inl (fun _ => 0))), ((t1 4), .inl (cI, 7, .inl (fun _ => 0))), ((t2 0), .inr (3, [.ref ((t2 1)), .ref ((t2 2)), .ref ((t2 3)), .ref ((t2 4)), .int 0, .int 12, .int 0, .int 0])), ((t2 1), .inl (cI, 6, .inl (fun _ => 0))), ((t2 2), .inl (cI, 6, .inl (fun _ => 0))), ((t2 3), .inl (cI, 12, .inl (fun _ => 0))), ((t2 4), .inl (cI, 7, .inl (fun _ => 0)))]) (i_X3 l D cI cB cO) mt_X3_init rfl nl_X1_24 im_X3_init (F 2 (by decide)) (M _ _ (by decide) (by decide)) (Nat.le_of_ble_eq_true rfl) dX1_init_38 (fun w3 hw3 => ?_)
  obtain ⟨t3, ht3, rfl⟩ := hw3
  subst ht3
  refine j_ws (ws' := [(h0, .inr (1, [.ref r1, .int 0, .int 0])), (r1, .inl (cO, 5, .inr (.inr (.inr (.inr (va_up (va_up (va_up (fun _ => none) (nI 0).toNatClampNeg (some ((t0 0)))) (nI 1).toNatClampNeg (some ((t1 0)))) (nI 2).toNatClampNeg (some ((t2 0))))))))), ((t0 0), .inr (3, [.ref ((t0 1)), .ref ((t0 2)), .ref ((t0 3)), .ref ((t0 4)), .int 0, .int 12, .int 0, .int 0])), ((t0 1), .inl (cI, 6, .inl (fun _ => 0))), ((t0 2), .inl (cI, 6, .inl (fun _ => 0))), ((t0 3), .inl (cI, 12, .inl (fun _ => 0))), ((t0 4), .inl (cI, 7, .inl (fun _ => 0))), ((t1 0), .inr (3, [.ref ((t1 1)), .ref ((t1 2)), .ref ((t1 3)), .ref ((t1 4)), .int 0, .int 12, .int 0, .int 0])), ((t1 1), .inl (cI, 6, .inl (fun _ => 0))), ((t1 2), .inl (cI, 6, .inl (fun _ => 0))), ((t1 3), .inl (cI, 12, .inl (fun _ => 0))), ((t1 4), .inl (cI, 7, .inl (fun _ => 0))), ((t2 0), .inr (3, [.ref ((t2 1)), .ref ((t2 2)), .ref ((t2 3)), .ref ((t2 4)), .int 0, .int 12, .int 0, .int 0])), ((t2 1), .inl (cI, 6, .inl (fun _ => 0))), ((t2 2), .inl (cI, 6, .inl (fun _ => 0))), ((t2 3), .inl (cI, 12, .inl (fun _ => 0))), ((t2 4), .inl (cI, 7, .inl (fun _ => 0))), ((t3 0), .inr (3, [.ref ((t3 1)), .ref ((t3 2)), .ref ((t3 3)), .ref ((t3 4)), .int 0, .int 12, .int 0, .int 0])), ((t3 1), .inl (cI, 6, .inl (fun _ => 0))), ((t3 2), .inl (cI, 6, .inl (fun _ => 0))), ((t3 3), .inl (cI, 12, .inl (fun _ => 0))), ((t3 4), .inl (cI, 7, .inl (fun _ => 0)))]) rfl ?_
  refine j_aast C (q0 := 1) (qk := 17) rfl rfl (vp_in_nI (by decide) (by decide)) dX1_init_41 ?_
  refine j_ws (ws' := [(h0, .inr (1, [.ref r1, .int 0, .int 0])), (r1, .inl (cO, 5, .inr (.inr (.inr (.inr (va_up (va_up (va_up (va_up (fun _ => none) (nI 0).toNatClampNeg (some ((t0 0)))) (nI 1).toNatClampNeg (some ((t1 0)))) (nI 2).toNatClampNeg (some ((t2 0)))) (nI 3).toNatClampNeg (some ((t3 0))))))))), ((t0 0), .inr (3, [.ref ((t0 1)), .ref ((t0 2)), .ref ((t0 3)), .ref ((t0 4)), .int 0, .int 12, .int 0, .int 0])), ((t0 1), .inl (cI, 6, .inl (fun _ => 0))), ((t0 2), .inl (cI, 6, .inl (fun _ => 0))), ((t0 3), .inl (cI, 12, .inl (fun _ => 0))), ((t0 4), .inl (cI, 7, .inl (fun _ => 0))), ((t1 0), .inr (3, [.ref ((t1 1)), .ref ((t1 2)), .ref ((t1 3)), .ref ((t1 4)), .int 0, .int 12, .int 0, .int 0])), ((t1 1), .inl (cI, 6, .inl (fun _ => 0))), ((t1 2), .inl (cI, 6, .inl (fun _ => 0))), ((t1 3), .inl (cI, 12, .inl (fun _ => 0))), ((t1 4), .inl (cI, 7, .inl (fun _ => 0))), ((t2 0), .inr (3, [.ref ((t2 1)), .ref ((t2 2)), .ref ((t2 3)), .ref ((t2 4)), .int 0, .int 12, .int 0, .int 0])), ((t2 1), .inl (cI, 6, .inl (fun _ => 0))), ((t2 2), .inl (cI, 6, .inl (fun _ => 0))), ((t2 3), .inl (cI, 12, .inl (fun _ => 0))), ((t2 4), .inl (cI, 7, .inl (fun _ => 0))), ((t3 0), .inr (3, [.ref ((t3 1)), .ref ((t3 2)), .ref ((t3 3)), .ref ((t3 4)), .int 0, .int 12, .int 0, .int 0])), ((t3 1), .inl (cI, 6, .inl (fun _ => 0))), ((t3 2), .inl (cI, 6, .inl (fun _ => 0))), ((t3 3), .inl (cI, 12, .inl (fun _ => 0))), ((t3 4), .inl (cI, 7, .inl (fun _ => 0)))]) rfl ?_
  refine j_iinc C (k := 0) (v := nI 4) (L' := [(1, .int (nI 4)), (0, .ref h0)]) rfl (by decide) (by decide) rfl dX1_init_42 ?_
  refine j_goto C (tgt := 24) (by decide) dX1_init_45 ?_
  refine j_iload C 0 rfl rfl dX1_init_24 ?_
  refine j_iconst C (v := nI 5) (by decide) dX1_init_25 ?_
  refine j_ge_f C (tgt := 48) (by decide) (by decide) dX1_init_26 ?_
  refine j_aload C 1 rfl rfl dX1_init_29 ?_
  refine j_get C cls1 (k := 0) (v := .ref r1) (by decide) fl_X1_11 rfl dX1_init_30 ?_
  refine j_iload C 0 rfl rfl dX1_init_33 ?_
  refine j_new C (fs := fs3) cls3 (M _ _ (by decide) (by decide)) kl_X1_9 ki_X3 ini_X3 (fun j hj => by rcases (show j = 0 ∨ j = 1 ∨ j = 2 ∨ j = 3 ∨ j = 4 ∨ j = 5 ∨ j = 6 ∨ j = 7 by omega) with rfl | rfl | rfl | rfl | rfl | rfl | rfl | rfl <;> rfl) dX1_init_34 (fun q4 => ?_)
  refine j_dup C rfl dX1_init_37 ?_
  refine j_initN C (r := [(h0, .inr (1, [.ref r1, .int 0, .int 0])), (r1, .inl (cO, 5, .inr (.inr (.inr (.inr (va_up (va_up (va_up (va_up (fun _ => none) (nI 0).toNatClampNeg (some ((t0 0)))) (nI 1).toNatClampNeg (some ((t1 0)))) (nI 2).toNatClampNeg (some ((t2 0)))) (nI 3).toNatClampNeg (some ((t3 0))))))))), ((t0 0), .inr (3, [.ref ((t0 1)), .ref ((t0 2)), .ref ((t0 3)), .ref ((t0 4)), .int 0, .int 12, .int 0, .int 0])), ((t0 1), .inl (cI, 6, .inl (fun _ => 0))), ((t0 2), .inl (cI, 6, .inl (fun _ => 0))), ((t0 3), .inl (cI, 12, .inl (fun _ => 0))), ((t0 4), .inl (cI, 7, .inl (fun _ => 0))), ((t1 0), .inr (3, [.ref ((t1 1)), .ref ((t1 2)), .ref ((t1 3)), .ref ((t1 4)), .int 0, .int 12, .int 0, .int 0])), ((t1 1), .inl (cI, 6, .inl (fun _ => 0))), ((t1 2), .inl (cI, 6, .inl (fun _ => 0))), ((t1 3), .inl (cI, 12, .inl (fun _ => 0))), ((t1 4), .inl (cI, 7, .inl (fun _ => 0))), ((t2 0), .inr (3, [.ref ((t2 1)), .ref ((t2 2)), .ref ((t2 3)), .ref ((t2 4)), .int 0, .int 12, .int 0, .int 0])), ((t2 1), .inl (cI, 6, .inl (fun _ => 0))), ((t2 2), .inl (cI, 6, .inl (fun _ => 0))), ((t2 3), .inl (cI, 12, .inl (fun _ => 0))), ((t2 4), .inl (cI, 7, .inl (fun _ => 0))), ((t3 0), .inr (3, [.ref ((t3 1)), .ref ((t3 2)), .ref ((t3 3)), .ref ((t3 4)), .int 0, .int 12, .int 0, .int 0])), ((t3 1), .inl (cI, 6, .inl (fun _ => 0))), ((t3 2), .inl (cI, 6, .inl (fun _ => 0))), ((t3 3), .inl (cI, 12, .inl (fun _ => 0))), ((t3 4), .inl (cI, 7, .inl (fun _ => 0)))]) (i_X3 l D cI cB cO) mt_X3_init rfl nl_X1_24 im_X3_init (F 2 (by decide)) (M _ _ (by decide) (by decide)) (Nat.le_of_ble_eq_true rfl) dX1_init_38 (fun w4 hw4 => ?_)
  obtain ⟨t4, ht4, rfl⟩ := hw4
  subst ht4
  refine j_ws (ws' := [(h0, .inr (1, [.ref r1, .int 0, .int 0])), (r1, .inl (cO, 5, .inr (.inr (.inr (.inr (va_up (va_up (va_up (va_up (fun _ => none) (nI 0).toNatClampNeg (some ((t0 0)))) (nI 1).toNatClampNeg (some ((t1 0)))) (nI 2).toNatClampNeg (some ((t2 0)))) (nI 3).toNatClampNeg (some ((t3 0))))))))), ((t0 0), .inr (3, [.ref ((t0 1)), .ref ((t0 2)), .ref ((t0 3)), .ref ((t0 4)), .int 0, .int 12, .int 0, .int 0])), ((t0 1), .inl (cI, 6, .inl (fun _ => 0))), ((t0 2), .inl (cI, 6, .inl (fun _ => 0))), ((t0 3), .inl (cI, 12, .inl (fun _ => 0))), ((t0 4), .inl (cI, 7, .inl (fun _ => 0))), ((t1 0), .inr (3, [.ref ((t1 1)), .ref ((t1 2)), .ref ((t1 3)), .ref ((t1 4)), .int 0, .int 12, .int 0, .int 0])), ((t1 1), .inl (cI, 6, .inl (fun _ => 0))), ((t1 2), .inl (cI, 6, .inl (fun _ => 0))), ((t1 3), .inl (cI, 12, .inl (fun _ => 0))), ((t1 4), .inl (cI, 7, .inl (fun _ => 0))), ((t2 0), .inr (3, [.ref ((t2 1)), .ref ((t2 2)), .ref ((t2 3)), .ref ((t2 4)), .int 0, .int 12, .int 0, .int 0])), ((t2 1), .inl (cI, 6, .inl (fun _ => 0))), ((t2 2), .inl (cI, 6, .inl (fun _ => 0))), ((t2 3), .inl (cI, 12, .inl (fun _ => 0))), ((t2 4), .inl (cI, 7, .inl (fun _ => 0))), ((t3 0), .inr (3, [.ref ((t3 1)), .ref ((t3 2)), .ref ((t3 3)), .ref ((t3 4)), .int 0, .int 12, .int 0, .int 0])), ((t3 1), .inl (cI, 6, .inl (fun _ => 0))), ((t3 2), .inl (cI, 6, .inl (fun _ => 0))), ((t3 3), .inl (cI, 12, .inl (fun _ => 0))), ((t3 4), .inl (cI, 7, .inl (fun _ => 0))), ((t4 0), .inr (3, [.ref ((t4 1)), .ref ((t4 2)), .ref ((t4 3)), .ref ((t4 4)), .int 0, .int 12, .int 0, .int 0])), ((t4 1), .inl (cI, 6, .inl (fun _ => 0))), ((t4 2), .inl (cI, 6, .inl (fun _ => 0))), ((t4 3), .inl (cI, 12, .inl (fun _ => 0))), ((t4 4), .inl (cI, 7, .inl (fun _ => 0)))]) rfl ?_
  refine j_aast C (q0 := 1) (qk := 22) rfl rfl (vp_in_nI (by decide) (by decide)) dX1_init_41 ?_
  refine j_ws (ws' := [(h0, .inr (1, [.ref r1, .int 0, .int 0])), (r1, .inl (cO, 5, .inr (.inr (.inr (.inr (va_up (va_up (va_up (va_up (va_up (fun _ => none) (nI 0).toNatClampNeg (some ((t0 0)))) (nI 1).toNatClampNeg (some ((t1 0)))) (nI 2).toNatClampNeg (some ((t2 0)))) (nI 3).toNatClampNeg (some ((t3 0)))) (nI 4).toNatClampNeg (some ((t4 0))))))))), ((t0 0), .inr (3, [.ref ((t0 1)), .ref ((t0 2)), .ref ((t0 3)), .ref ((t0 4)), .int 0, .int 12, .int 0, .int 0])), ((t0 1), .inl (cI, 6, .inl (fun _ => 0))), ((t0 2), .inl (cI, 6, .inl (fun _ => 0))), ((t0 3), .inl (cI, 12, .inl (fun _ => 0))), ((t0 4), .inl (cI, 7, .inl (fun _ => 0))), ((t1 0), .inr (3, [.ref ((t1 1)), .ref ((t1 2)), .ref ((t1 3)), .ref ((t1 4)), .int 0, .int 12, .int 0, .int 0])), ((t1 1), .inl (cI, 6, .inl (fun _ => 0))), ((t1 2), .inl (cI, 6, .inl (fun _ => 0))), ((t1 3), .inl (cI, 12, .inl (fun _ => 0))), ((t1 4), .inl (cI, 7, .inl (fun _ => 0))), ((t2 0), .inr (3, [.ref ((t2 1)), .ref ((t2 2)), .ref ((t2 3)), .ref ((t2 4)), .int 0, .int 12, .int 0, .int 0])), ((t2 1), .inl (cI, 6, .inl (fun _ => 0))), ((t2 2), .inl (cI, 6, .inl (fun _ => 0))), ((t2 3), .inl (cI, 12, .inl (fun _ => 0))), ((t2 4), .inl (cI, 7, .inl (fun _ => 0))), ((t3 0), .inr (3, [.ref ((t3 1)), .ref ((t3 2)), .ref ((t3 3)), .ref ((t3 4)), .int 0, .int 12, .int 0, .int 0])), ((t3 1), .inl (cI, 6, .inl (fun _ => 0))), ((t3 2), .inl (cI, 6, .inl (fun _ => 0))), ((t3 3), .inl (cI, 12, .inl (fun _ => 0))), ((t3 4), .inl (cI, 7, .inl (fun _ => 0))), ((t4 0), .inr (3, [.ref ((t4 1)), .ref ((t4 2)), .ref ((t4 3)), .ref ((t4 4)), .int 0, .int 12, .int 0, .int 0])), ((t4 1), .inl (cI, 6, .inl (fun _ => 0))), ((t4 2), .inl (cI, 6, .inl (fun _ => 0))), ((t4 3), .inl (cI, 12, .inl (fun _ => 0))), ((t4 4), .inl (cI, 7, .inl (fun _ => 0)))]) rfl ?_
  refine j_iinc C (k := 0) (v := nI 5) (L' := [(1, .int (nI 5)), (0, .ref h0)]) rfl (by decide) (by decide) rfl dX1_init_42 ?_
  refine j_goto C (tgt := 24) (by decide) dX1_init_45 ?_
  refine j_iload C 0 rfl rfl dX1_init_24 ?_
  refine j_iconst C (v := nI 5) (by decide) dX1_init_25 ?_
  refine j_ge_t C (tgt := 48) (by decide) (by decide) dX1_init_26 ?_
  refine j_ring (q0 := 1) (g := fun j => some (([h0, r1, t0 0, t0 1, t0 2, t0 3, t0 4, t1 0, t1 1, t1 2, t1 3, t1 4, t2 0, t2 1, t2 2, t2 3, t2 4, t3 0, t3 1, t3 2, t3 3, t3 4, t4 0, t4 1, t4 2, t4 3, t4 4] : List Nat).getD (2 + 5 * j) 0)) rfl (fun j hj => by rcases (show j = 0 ∨ j = 1 ∨ j = 2 ∨ j = 3 ∨ j = 4 by omega) with rfl | rfl | rfl | rfl | rfl <;> rfl) ?_
  refine j_vret C E (by decide) (by decide) ?_ dX1_init_48
  exact ⟨fun n => ([h0, r1, t0 0, t0 1, t0 2, t0 3, t0 4, t1 0, t1 1, t1 2, t1 3, t1 4, t2 0, t2 1, t2 2, t2 3, t2 4, t3 0, t3 1, t3 2, t3 3, t3 4, t4 0, t4 1, t4 2, t4 3, t4 4] : List Nat).getD n 0, rfl, rfl⟩
