/-- the first o orders done on a row -/
def rnO (tx : Nat → Nat) (len : Nat) (f : Nat → Int32) : Nat → Option (Nat → Int32)
  | 0 => some f
  | o + 1 => match rnO tx len f o with
    | none => none
    | some f' => opR (tx (pst tx len o)) (odR tx len (pst tx len o)).2.2.1 (odR tx len (pst tx len o)).2.2.2 f'
theorem rnO_s {tx : Nat → Nat} {len o : Nat} {f f' : Nat → Int32} (h : rnO tx len f o = some f') : rnO tx len f (o + 1) = opR (tx (pst tx len o)) (odR tx len (pst tx len o)).2.2.1 (odR tx len (pst tx len o)).2.2.2 f' := by
  show (match rnO tx len f o with | none => none | some f' => _) = _
  rw [h]
theorem enR_lt {tx : Nat → Nat} {len q a b : Nat} (ha : a < 1000000) (hb : b < 1000000) : (enR tx len q a b).2.2.1 < 1000000 ∧ (enR tx len q a b).2.2.2 < 1000000 := by
  unfold enR
  split
  · exact ⟨ha, hb⟩
  · exact ⟨Nat.zero_lt_succ _, Nat.zero_lt_succ _⟩
theorem odR_lt {tx : Nat → Nat} {len p : Nat} : (odR tx len p).2.2.1 < 1000000 ∧ (odR tx len p).2.2.2 < 1000000 := by
  have h1 : ∀ p, (nuP tx len p).2 < 1000000 := fun p => by have h := rdn_v (tx := tx) (len := len) 6 (sk tx len p) 0; omega
  unfold odR
  split
  · exact ⟨Nat.zero_lt_succ _, Nat.zero_lt_succ _⟩
  · split
    · exact enR_lt (by decide) (by decide)
    · split
      · split
        · exact enR_lt (h1 _) (by decide)
        · split
          · exact enR_lt (h1 _) (h1 _)
          · exact ⟨Nat.zero_lt_succ _, Nat.zero_lt_succ _⟩
      · exact ⟨Nat.zero_lt_succ _, Nat.zero_lt_succ _⟩
theorem odR_let {tx : Nat → Nat} {len p : Nat} (h : (odR tx len p).1 = true) : ¬ mnI (tx p) = (-1) := by
  intro q
  unfold odR at h
  rw [if_pos q] at h
  cases h
/-- what does() leaves alone in any case -/
def dsF (sg s2 : Sg) : Prop := (∀ k, k < 44 ∨ k = 48 ∨ k = 49 → s2 k = sg k) ∧ ∀ j, j ≠ 3 → j ≠ 12 → j ≠ 13 → j ≠ 14 → s2 44 j = sg 44 j
/-- what does() comes to -/
def dsP (sg : Sg) (tu : Int64) (tx : Nat → Nat) (len m st : Nat) (r : Option Value) (s2 : Sg) (t2 : Int64) : Prop := tu = t2 ∧ dsF sg s2 ∧
  ((¬ (pst tx len m = len ∧ 0 < m) ∧ r = some (.int ((-10) - nI (flP tx len m))) ∧ s2 45 = sg 45 ∧ s2 47 = sg 47 ∧ s2 44 3 = sg 44 3) ∨
   ((pst tx len m = len ∧ 0 < m) ∧ (∃ o f, o < m ∧ rnO tx len (sg 45) o = some f ∧ rnO tx len (sg 45) (o + 1) = none ∧ r = some (.int ((-1000) - nI o)) ∧ s2 45 = sg 45 ∧ s2 47 = sg 47 ∧ s2 44 3 = sg 44 3)) ∨
   ((pst tx len m = len ∧ 0 < m) ∧ (∃ f, rnO tx len (sg 45) m = some f ∧ r = some (.int (nI m)) ∧ s2 45 = f ∧ s2 47 = pastP (sg 47) (sg 45) st ∧ s2 44 3 = nI (stP st))))
set_option maxRecDepth 100000 in
set_option maxHeartbeats 1000000 in
theorem c_X5_does (w : GW) (tu : Int64) (sg : Sg) (tx : Nat → Nat) (by_ m st : Nat) (hby : sg 44 6 = nI by_) (hb : by_ ≤ 120) (htx : ∀ j, j < by_ → sg 49 j = nI (tx j) ∧ tx j ≤ 127) (hm : okP tx by_ m) (hend : pst tx by_ m = by_ ∨ (pst tx by_ m < by_ ∧ (odR tx by_ (pst tx by_ m)).1 = false)) (hok : ROk (sg 45)) (hst : sg 44 3 = nI st) (hs5 : st ≤ 5) : KtP w yX5_does cX5_does 2 (some .int) 6 [.ref (ad w 44)] sg tu (dsP sg tu tx by_ m st) := by
  refine KtP.of RX5 rfl [(0, .ref (ad w 44))] (by decide) rfl (Nat.le_of_ble_eq_true rfl) (fun z C E => ?_)
  refine g_aload_n C 0 rfl rfl dX5_does_0 ?_
  refine g_callVP [] C (c_X5_isRead w tu sg tx by_ m hby hb htx hm hend) mt_X5_isRead e_44 rfl ml_X5_210 im_X5_isRead se_X5_isRead (by decide) rfl (Nat.le_of_ble_eq_true rfl) dX5_does_1 (fun r0 sr t0 hP0 => ?_)
  obtain ⟨ht0, hF0, hP0⟩ := hP0
  subst ht0
  have h46 : ∀ k, k < 44 ∨ k = 48 ∨ k = 49 ∨ k = 45 ∨ k = 46 ∨ k = 47 → sr k = sg k := fun k hk => hF0.2 k (by omega) (by omega) (by omega)
  rcases hP0 with ⟨he1, he2, hr0, h12, hR⟩ | ⟨he, hr0, h14⟩
  · subst hr0
    refine g_eq (S' := [.int (nI 1)]) rfl rfl rfl rfl ?_
    refine g_if_ne C (tgt := 15) (by decide) dX5_does_4 (fun h4 => ?_) (fun h4 => absurd h4 (by decide))
    refine g_aload_n C 0 rfl rfl dX5_does_15 ?_
    refine g_callV0 [] C (c_X5_laysAside w tu sr  ) mt_X5_laysAside e_44 rfl ml_X5_114 im_X5_laysAside se_X5_laysAside (by decide) rfl (Nat.le_of_ble_eq_true rfl) dX5_does_16 ?_
    refine g_eq (sg' := (us sr 46 (sr 45))) (L' := [(0, .ref (ad w 44))]) (S' := []) rfl rfl rfl rfl ?_
    refine g_iconst C (v := (nI 0)) (by decide) dX5_does_19 ?_
    refine g_istore_n C (L' := [(1, .int (nI 0)), (0, .ref (ad w 44))]) rfl (by decide) rfl dX5_does_20 ?_
    have hm60 : m ≤ 60 := by have := pst_ge m hm; omega
    have lp : ∀ (r o : Nat) (sv : Sg) (f : Nat → Int32), o + r = m → rnO tx by_ (sg 45) o = some f → sv 45 = f → ROk f → ((∀ k, k < 44 ∨ k = 48 ∨ k = 49 ∨ k = 47 ∨ k = 53 ∨ k = 54 ∨ k = 44 → sv k = sr k) ∧ sv 46 = sg 45) → G z w 2 sv tu 21 [(1, .int (nI o)), (0, .ref (ad w 44))] [] := by
      intro r
      induction r with
      | zero =>
        intro o sv f hor hrn h45 hfo hV
        have hom : m = o := by omega
        subst hom
        refine g_iload_n C 0 rfl rfl dX5_does_21 ?_
        refine g_aload_n C 1 rfl rfl dX5_does_22 ?_
        refine g_getI C (j := 12) cls5 e_44 rfl (by decide) fl_X5_201 dX5_does_23 ?_
        refine g_top (y := (nI m)) ((congrFun (hV.1 44 (by decide)) 12).trans h12) ?_
        refine g_icmpN_ge C m m (by omega) (by omega) (tgt := 55) (by decide) dX5_does_26 (fun h26 => ?_) (fun h26 => absurd h26 (by omega))
        refine g_aload_n C 1 rfl rfl dX5_does_55 ?_
        refine g_callV0 [] C (c_X5_remembers w tu sv  st ((congrFun (hV.1 44 (by decide)) 3).trans ((hF0.1 3 (by decide) (by decide) (by decide)).trans hst)) hs5) mt_X5_remembers e_44 rfl ml_X5_48 im_X5_remembers se_X5_remembers (by decide) rfl (Nat.le_of_ble_eq_true rfl) dX5_does_56 ?_
        refine g_eq (sg' := (us (us sv 47 (pastP (sv 47) (sv 46) st)) 44 (upd (sv 44) 3 (nI (stP st))))) (L' := [(1, .int (nI m)), (0, .ref (ad w 44))]) (S' := []) rfl rfl rfl rfl ?_
        refine g_aload_n C 1 rfl rfl dX5_does_59 ?_
        refine g_getI C (j := 12) cls5 e_44 rfl (by decide) fl_X5_201 dX5_does_60 ?_
        refine g_top (y := (nI m)) ((congrFun (hV.1 44 (by decide)) 12).trans h12) ?_
        exact g_iretP C E dX5_does_63 (⟨rfl, ⟨fun k hk => by rw [us_ne (by omega), us_ne (by omega)]; exact (hV.1 k (by omega)).trans (h46 k (by omega)), fun j j1 j2 j3 j4 => by show upd (sv 44) 3 _ j = _; rw [upd_ne j1, hV.1 44 (by decide)]; exact hF0.1 j j2 j3 j4⟩, Or.inr (Or.inr ⟨⟨he1, he2⟩, f, hrn, rfl, h45, by show pastP (sv 47) (sv 46) st = _; rw [hV.1 47 (by decide), hV.2, h46 47 (by decide)], rfl⟩)⟩)
      | succ r ih =>
        intro o sv f hor hrn h45 hfo hV
        refine g_iload_n C 0 rfl rfl dX5_does_21 ?_
        refine g_aload_n C 1 rfl rfl dX5_does_22 ?_
        refine g_getI C (j := 12) cls5 e_44 rfl (by decide) fl_X5_201 dX5_does_23 ?_
        refine g_top (y := (nI m)) ((congrFun (hV.1 44 (by decide)) 12).trans h12) ?_
        refine g_icmpN_ge C o m (by omega) (by omega) (tgt := 55) (by decide) dX5_does_26 (fun h26 => absurd h26 (by omega)) (fun h26 => ?_)
        refine g_aload_n C 1 rfl rfl dX5_does_29 ?_
        refine g_iload_n C 0 rfl rfl dX5_does_30 ?_
        refine g_callVP [] C (c_X5_doneOne w tu sv o (tx (pst tx by_ o)) (odR tx by_ (pst tx by_ o)).2.2.1 (odR tx by_ (pst tx by_ o)).2.2.2 (by omega) (odR_let (hm o (by omega)).2) (by rw [hV.1 53 (by decide)]; exact (hR o (by omega)).1) (fun q => by rw [hV.1 54 (by decide)]; exact (hR o (by omega)).2.1 q) (fun q => by rw [hV.1 54 (by decide)]; exact (hR o (by omega)).2.2 q) odR_lt.1 odR_lt.2 (by rw [h45]; exact hfo)) mt_X5_doneOne e_44 rfl ml_X5_213 im_X5_doneOne se_X5_doneOne (by decide) rfl (Nat.le_of_ble_eq_true rfl) dX5_does_31 (fun r2 s2 t2 hP => ?_)
        obtain ⟨ht2, hsc, hP⟩ := hP
        subst ht2
        rw [h45] at hP
        rcases hP with ⟨f2, v, hop, hs45, hr2, hv⟩ | ⟨hop, v, hr2, hv⟩
        · subst hr2
          refine g_eq (S' := [.int v]) rfl rfl rfl rfl ?_
          refine g_bipush C (v := (-2)) (by decide) dX5_does_34 ?_
          refine g_icmp_gt C (tgt := 49) (by decide) dX5_does_36 (fun h36 => ?_) (fun h36 => absurd hv h36)
          refine g_iinc C (n := 1) (v := (nI (o + 1))) (L' := [(1, .int (nI (o + 1))), (0, .ref (ad w 44))]) 0 rfl (nI_add o 1) (by decide) rfl dX5_does_49 ?_
          refine g_goto C (tgt := 21) (by decide) dX5_does_52 ?_
          exact ih (o + 1) s2 f2 (by omega) ((rnO_s hrn).trans hop) hs45 (opR_ok hfo hop) ⟨fun k hk => (hsc k (by omega) (by omega) (by omega) (by omega)).trans (hV.1 k hk), (hsc 46 (by decide) (by decide) (by decide) (by decide)).trans hV.2⟩
        · subst hr2
          refine g_eq (S' := [.int v]) rfl rfl rfl rfl ?_
          refine g_bipush C (v := (-2)) (by decide) dX5_does_34 ?_
          refine g_icmp_gt C (tgt := 49) (by decide) dX5_does_36 (fun h36 => absurd h36 hv) (fun h36 => ?_)
          refine g_aload_n C 1 rfl rfl dX5_does_39 ?_
          refine g_callV0 [] C (c_X5_takesBack w tu s2  ) mt_X5_takesBack e_44 rfl ml_X5_148 im_X5_takesBack se_X5_takesBack (by decide) rfl (Nat.le_of_ble_eq_true rfl) dX5_does_40 ?_
          refine g_eq (sg' := (us s2 45 (s2 46))) (L' := [(1, .int (nI o)), (0, .ref (ad w 44))]) (S' := []) rfl rfl rfl rfl ?_
          refine g_sipush C (v := (-1000)) (by decide) dX5_does_43 ?_
          refine g_iload_n C 0 rfl rfl dX5_does_46 ?_
          refine g_isub C dX5_does_47 ?_
          exact g_iretP C E dX5_does_48 (⟨rfl, ⟨fun k hk => by rw [us_ne (by omega)]; exact (hsc k (by omega) (by omega) (by omega) (by omega)).trans ((hV.1 k (by omega)).trans (h46 k (by omega))), fun j j1 j2 j3 j4 => by show s2 44 j = _; rw [hsc 44 (by decide) (by decide) (by decide) (by decide), hV.1 44 (by decide)]; exact hF0.1 j j2 j3 j4⟩, Or.inr (Or.inl ⟨⟨he1, he2⟩, o, f, by omega, hrn, (rnO_s hrn).trans hop, rfl, by show s2 46 = _; rw [hsc 46 (by decide) (by decide) (by decide) (by decide), hV.2], by show s2 47 = _; rw [hsc 47 (by decide) (by decide) (by decide) (by decide), hV.1 47 (by decide), h46 47 (by decide)], by show s2 44 3 = _; rw [hsc 44 (by decide) (by decide) (by decide) (by decide), hV.1 44 (by decide)]; exact hF0.1 3 (by decide) (by decide) (by decide)⟩)⟩)
    exact lp m 0 _ (sg 45) (Nat.zero_add _) rfl (by show sr 45 = sg 45; exact h46 45 (by decide)) hok ⟨fun k hk => us_ne (by omega), by show sr 45 = sg 45; exact h46 45 (by decide)⟩
  · subst hr0
    refine g_eq (S' := [.int (nI 0)]) rfl rfl rfl rfl ?_
    refine g_if_ne C (tgt := 15) (by decide) dX5_does_4 (fun h4 => absurd h4 (by decide)) (fun h4 => ?_)
    refine g_bipush C (v := (-10)) (by decide) dX5_does_7 ?_
    refine g_aload_n C 0 rfl rfl dX5_does_9 ?_
    refine g_getI C (j := 14) cls5 e_44 rfl (by decide) fl_X5_189 dX5_does_10 ?_
    refine g_top (y := (nI (flP tx by_ m))) h14 ?_
    refine g_isub C dX5_does_13 ?_
    exact g_iretP C E dX5_does_14 (⟨rfl, ⟨fun k hk => h46 k (by omega), fun j j1 j2 j3 j4 => hF0.1 j j2 j3 j4⟩, Or.inl ⟨he, rfl, h46 45 (by decide), h46 47 (by decide), hF0.1 3 (by decide) (by decide) (by decide)⟩⟩)
