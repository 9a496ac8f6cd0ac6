theorem Kt.toPs {w : GW} {y : MethodName} {cc : ByteArray} {n : Nat} {ret : Option FieldType} {d : Nat} {as : List Value} {sg : Sg} {tu : Int64} {r : Option Value} {sg' sg2 : Sg} {tu' : Int64} {Post : Option Value → Sg → Int64 → Prop} (h : Kt w y cc n ret d as sg tu r sg' tu') (hq : Sq sg' sg2) (hp : Post r sg2 tu') : KtP w y cc n ret d as sg tu Post := by
  intro p e ha hc hk s m args below hf happ hP hT
  obtain ⟨k, o, h1, h2, h3, ⟨⟨hr, hH, hF⟩, L, hL⟩⟩ := h p e ha hc hk s m args below hf happ hP hT
  exact ⟨k, o, h1, h2, h3, ⟨⟨r, sg2, tu', hr, hp, Hp.sq hq hH⟩, hF⟩, L, hL⟩
theorem KtP.to {w : GW} {y : MethodName} {cc : ByteArray} {n : Nat} {ret : Option FieldType} {d : Nat} {as : List Value} {sg : Sg} {tu : Int64} {Post Post' : Option Value → Sg → Int64 → Prop} (h : KtP w y cc n ret d as sg tu Post) (hp : ∀ r s2 t2, Post r s2 t2 → Post' r s2 t2) : KtP w y cc n ret d as sg tu Post' := by
  intro p e ha hc hk s m args below hf happ hP hT
  obtain ⟨k, o, h1, h2, h3, ⟨⟨⟨r, sg2, tu2, hr, hq, hH⟩, hF⟩, L, hL⟩⟩ := h p e ha hc hk s m args below hf happ hP hT
  exact ⟨k, o, h1, h2, h3, ⟨⟨r, sg2, tu2, hr, hp _ _ _ hq, hH⟩, hF⟩, L, hL⟩
theorem PC_okE {sg : Sg} {a : AS} {F F' : Nat → Int32} {nx : Nat} (hF : F = F') (h : CA sg a) (h5 : a.2.2.1 ≤ 5) (hn5 : nx < 5) (hring : ∀ i, i < a.2.2.1 → RE (rowC sg (13 + 5 * ((nx + 5 - a.2.2.1 + i) % 5))) (a.2.1 i)) : CA (kpS (wrR (wrR sg 6 (rowC sg 1)) 1 F) nx a.2.2.1) (pushA a F') ∧ ∀ k, 44 ≤ k → kpS (wrR (wrR sg 6 (rowC sg 1)) 1 F) nx a.2.2.1 k = sg k := by
  subst hF
  exact PC_ok h h5 hn5 hring
theorem op_OA {a : AS} {B l x y : Nat} {F : Nat → Int32} (hO : OA a B) (ho : opR l x y a.1 = some F) : OA (pushA a F) (B + 10000) := OA_push (by omega) hO (opR_ok hO.1 ho) ((opR_x hO.1 hO.2.1 ho).up (by omega))
theorem in_ofL {v : Int64} (h : 0 ≤ v ∧ v ≤ 999999999999) : ∃ m, m ≤ 999999999999 ∧ v = lN m := by
  obtain ⟨h1, h2⟩ := h
  rw [Int64.le_iff_toInt_le] at h1 h2
  rw [show (0 : Int64).toInt = 0 by decide] at h1
  rw [show (999999999999 : Int64).toInt = 999999999999 by decide] at h2
  refine ⟨v.toInt.toNat, by omega, ?_⟩
  apply Int64.toInt_inj.mp
  rw [pk_lT (by omega)]
  omega
theorem dgE_cg {t t' f : Nat → Int32} (h : ∀ k, k < 5 → t k = t' k) : dgE t f = dgE t' f := by
  unfold dgE dgD dgC dgB dgA
  rw [mxs_cg 5 h]
theorem wr_re {S : Sg} {F F' : Nat → Int32} (h : RE F F') : Sq (wrR S 1 F) (wrR S 1 F') :=
  Sq.wr isW_1 (fun j hj => by
    rw [wrR_0]
    show (if j < 4 then S 1 j else F (27 + j)) = _
    by_cases h4 : j < 4
    · rw [if_pos h4, if_pos h4]
    · rw [if_neg h4, if_neg h4, h (27 + j) (by omega)]) (fun j hj => by rw [wrR_1]; exact h j (by omega)) (fun j hj => by rw [wrR_2]; exact h (6 + j) (by omega)) (fun j hj => by rw [wrR_3]; exact h (12 + j) (by omega)) (fun j hj => by rw [wrR_4]; exact h (24 + j) (by omega)) (fun k hk => wrR_n hk)
theorem CA_back {sg : Sg} {f : Nat → Int32} {ps : Nat → Nat → Int32} {s nx : Nat} {rf : Nat → Int32} {tx : Nat → Nat} {len : Nat} (h : CA sg (f, ps, s + 1, rf, tx, len)) (hs : s < 5) (hn5 : nx < 5) (hring : ∀ i, i < s + 1 → RE (rowC sg (13 + 5 * ((nx + 5 - (s + 1) + i) % 5))) (ps i)) : CA (wrR (gbS sg nx s) 1 (ps s)) (ps s, ps, s, rf, tx, len) := by
  obtain ⟨c1, -, c3, c4, c5, c6⟩ := h
  refine ⟨rowC_wr, ⟨(nx + 4) % 5, by omega, ?_, fun i hi => ?_⟩, ?_, fun i hi => ?_, ?_, fun j hj => ?_⟩
  · rw [wrR_n (by omega)]
    show upd (upd (sg 11) 1 (nI ((nx + 4) % 5))) 2 (nI s) 1 = _
    rw [upd_ne (by decide), upd_same]
  · have hi2 : i < s := hi
    show RE (rowC (wrR (gbS sg nx s) 1 (ps s)) (13 + 5 * (((nx + 4) % 5 + 5 - s + i) % 5))) (ps i)
    rw [rowC_n (by omega)]
    unfold gbS
    rw [rowC_us (by omega)]
    have h9 := hring i (by omega)
    rw [show (nx + 5 - (s + 1) + i) % 5 = ((nx + 4) % 5 + 5 - s + i) % 5 by omega] at h9
    exact h9
  · rw [wrR_n (by omega)]
    show upd (upd (sg 11) 1 (nI ((nx + 4) % 5))) 2 (nI s) 2 = _
    rw [upd_same]
  · rw [wrR_n (by omega)]
    show us sg 11 _ 0 _ = _
    rw [us_ne (by omega)]
    exact c4 i hi
  · rw [wrR_n (by omega)]
    show us sg 11 _ 38 _ = _
    rw [us_ne (by omega)]
    exact c5
  · rw [wrR_n (by omega)]
    show us sg 11 _ 39 _ = _
    rw [us_ne (by omega)]
    exact c6 j hj
theorem RA_back {sg S : Sg} {f : Nat → Int32} {ps : Nat → Nat → Int32} {s : Nat} {rf : Nat → Int32} {tx : Nat → Nat} {len : Nat} (h : RA sg (f, ps, s + 1, rf, tx, len)) (h45 : S 45 = ps s) (h3 : S 44 3 = nI s) (h47 : S 47 = sg 47) (h6 : S 44 6 = sg 44 6) (h48 : S 48 = sg 48) (h49 : S 49 = sg 49) : RA S (ps s, ps, s, rf, tx, len) := by
  obtain ⟨c1, c2, c3, c4, c5, c6⟩ := h
  exact ⟨h45, h3, fun i hi k hk => by rw [h47]; exact c3 i (Nat.lt_succ_of_lt hi) k hk, fun i hi => by rw [h48]; exact c4 i hi, h6.trans c5, fun j hj => by rw [h49]; exact c6 j hj⟩
def tyT (tx : Nat → Nat) (len c : Nat) : Nat → Nat := fun j => if j = len then c else tx j
theorem ty_j {g : Nat → Int32} {tx : Nat → Nat} {len c : Nat} (h : ∀ j, j < len → g j = nI (tx j)) (j : Nat) (hj : j < len + 1) : upd g len (nI c) j = nI (tyT tx len c j) := by
  unfold tyT
  by_cases hjl : j = len
  · subst hjl; rw [upd_same, if_pos rfl]
  · rw [upd_ne hjl, if_neg hjl]; exact h j (by omega)
theorem CA_text {sg S : Sg} {f : Nat → Int32} {ps : Nat → Nat → Int32} {st : Nat} {rf : Nat → Int32} {tx tx' : Nat → Nat} {len len' : Nat} (h : CA sg (f, ps, st, rf, tx, len)) (hS : ∀ k, k < 38 → S k = sg k) (h38 : S 38 1 = nI len') (h39 : ∀ j, j < len' → S 39 j = nI (tx' j)) : CA S (f, ps, st, rf, tx', len') := by
  obtain ⟨c1, ⟨nx, hn5, hnx, hring⟩, c3, c4, c5, c6⟩ := h
  exact ⟨(rowC_eq (fun k k1 k2 => hS k (by omega))).trans c1, ⟨nx, hn5, by rw [hS 11 (by omega)]; exact hnx, fun i hi => by rw [rowC_eq (S := S) (sg := sg) (fun k k1 k2 => hS k (by omega))]; exact hring i hi⟩, by rw [hS 11 (by omega)]; exact c3, fun i hi => by rw [hS 0 (by omega)]; exact c4 i hi, h38, h39⟩
theorem RA_text {sg S : Sg} {f : Nat → Int32} {ps : Nat → Nat → Int32} {st : Nat} {rf : Nat → Int32} {tx tx' : Nat → Nat} {len len' : Nat} (h : RA sg (f, ps, st, rf, tx, len)) (h45 : S 45 = sg 45) (h3 : S 44 3 = sg 44 3) (h47 : S 47 = sg 47) (h48 : S 48 = sg 48) (h6 : S 44 6 = nI len') (h49 : ∀ j, j < len' → S 49 j = nI (tx' j)) : RA S (f, ps, st, rf, tx', len') := by
  obtain ⟨c1, c2, c3, c4, c5, c6⟩ := h
  exact ⟨h45.trans c1, h3.trans c2, fun i hi k hk => by rw [h47]; exact c3 i hi k hk, fun i hi => by rw [h48]; exact c4 i hi, h6, h49⟩
theorem rnO_none {tx : Nat → Nat} {len : Nat} {f : Nat → Int32} {o : Nat} (h : rnO tx len f o = none) : ∀ r, rnO tx len f (o + r) = none
  | 0 => h
  | r + 1 => by
    have ih := rnO_none h r
    show rnO tx len f (o + r + 1) = none
    unfold rnO
    rw [ih]
theorem rn_total {tx : Nat → Nat} {len : Nat} {f : Nat → Int32} : ∀ m, (∃ o f', o < m ∧ rnO tx len f o = some f' ∧ rnO tx len f (o + 1) = none) ∨ ∃ f', rnO tx len f m = some f'
  | 0 => Or.inr ⟨f, rfl⟩
  | m + 1 => by
    rcases rn_total (tx := tx) (len := len) (f := f) m with ⟨o, f', ho, h1, h2⟩ | ⟨f', h1⟩
    · exact Or.inl ⟨o, f', by omega, h1, h2⟩
    · cases h2 : rnO tx len f (m + 1) with
      | none => exact Or.inl ⟨m, f', by omega, h1, h2⟩
      | some g => exact Or.inr ⟨g, rfl⟩
theorem rn_uniq {tx : Nat → Nat} {len : Nat} {f f' f2 : Nat → Int32} {o o2 : Nat} (h1 : rnO tx len f o = some f') (h2 : rnO tx len f (o + 1) = none) (h3 : rnO tx len f o2 = some f2) (h4 : rnO tx len f (o2 + 1) = none) : o = o2 := by
  rcases Nat.lt_trichotomy o o2 with h | h | h
  · have h5 := rnO_none h2 (o2 - (o + 1))
    rw [show o + 1 + (o2 - (o + 1)) = o2 by omega, h3] at h5
    cases h5
  · exact h
  · have h5 := rnO_none h4 (o - (o2 + 1))
    rw [show o2 + 1 + (o - (o2 + 1)) = o by omega, h1] at h5
    cases h5
theorem rn_no {tx : Nat → Nat} {len : Nat} {f f' : Nat → Int32} {o m : Nat} (ho : o < m) (h2 : rnO tx len f (o + 1) = none) (h3 : rnO tx len f m = some f') : False := by
  have h5 := rnO_none h2 (m - (o + 1))
  rw [show o + 1 + (m - (o + 1)) = m by omega, h3] at h5
  cases h5
theorem rn_ok {tx : Nat → Nat} {len B : Nat} {f : Nat → Int32} (hf : ROk f) (hx : XOk f B) : ∀ m f', rnO tx len f m = some f' → ROk f' ∧ XOk f' (B + 147 * m)
  | 0, f', h => by cases h; exact ⟨hf, hx⟩
  | m + 1, f', h => by
    cases h1 : rnO tx len f m with
    | none => rw [rnO_none h1 1] at h; cases h
    | some g =>
      have ih := rn_ok hf hx m g h1
      have h2 := (rnO_s h1).symm.trans h
      exact ⟨opR_ok ih.1 h2, (opR_x ih.1 ih.2 h2).up (by omega)⟩
