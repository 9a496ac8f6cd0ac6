/-! THE CLASS' WORKS as a row: the Works at cell w has its arrays at w+1 .. w+4, its ints in its own places 4 .. 7 -/
def rowC (sg : Sg) (w : Nat) : Nat → Int32 := fun j => if j < 6 then sg (w + 1) j else if j < 12 then sg (w + 2) (j - 6) else if j < 24 then sg (w + 3) (j - 12) else if j < 31 then sg (w + 4) (j - 24) else sg w (j - 27)
theorem rowC_d {sg : Sg} {w j : Nat} (h : j < 6) : rowC sg w j = sg (w + 1) j := if_pos h
theorem rowC_o {sg : Sg} {w j : Nat} (h : j < 6) : rowC sg w (6 + j) = sg (w + 2) j := by
  unfold rowC; rw [if_neg (by omega), if_pos (by omega), Nat.add_sub_cancel_left]
theorem rowC_w {sg : Sg} {w j : Nat} (h : j < 12) : rowC sg w (12 + j) = sg (w + 3) j := by
  unfold rowC; rw [if_neg (by omega), if_neg (by omega), if_pos (by omega), Nat.add_sub_cancel_left]
theorem rowC_c {sg : Sg} {w j : Nat} (h : j < 7) : rowC sg w (24 + j) = sg (w + 4) j := by
  unfold rowC; rw [if_neg (by omega), if_neg (by omega), if_neg (by omega), if_pos (by omega), Nat.add_sub_cancel_left]
theorem rowC_f {sg : Sg} {w j : Nat} (h : 4 ≤ j) : rowC sg w (27 + j) = sg w j := by
  unfold rowC; rw [if_neg (by omega), if_neg (by omega), if_neg (by omega), if_neg (by omega), Nat.add_sub_cancel_left]
/-- the Works at w made to hold the row F -/
def wrR (sg : Sg) (w : Nat) (F : Nat → Int32) : Sg := us (us (us (us (us sg (w + 1) F) (w + 2) (fun j => F (6 + j))) (w + 3) (fun j => F (12 + j))) (w + 4) (fun j => F (24 + j))) w (fun j => if j < 4 then sg w j else F (27 + j))
theorem wrR_0 {sg : Sg} {w : Nat} {F : Nat → Int32} : wrR sg w F w = fun j => if j < 4 then sg w j else F (27 + j) := us_same _ _ _
theorem wrR_1 {sg : Sg} {w : Nat} {F : Nat → Int32} : wrR sg w F (w + 1) = F := by
  unfold wrR; rw [us_ne (by omega), us_ne (by omega), us_ne (by omega), us_ne (by omega), us_same]
theorem wrR_2 {sg : Sg} {w : Nat} {F : Nat → Int32} : wrR sg w F (w + 2) = fun j => F (6 + j) := by
  unfold wrR; rw [us_ne (by omega), us_ne (by omega), us_ne (by omega), us_same]
theorem wrR_3 {sg : Sg} {w : Nat} {F : Nat → Int32} : wrR sg w F (w + 3) = fun j => F (12 + j) := by
  unfold wrR; rw [us_ne (by omega), us_ne (by omega), us_same]
theorem wrR_4 {sg : Sg} {w : Nat} {F : Nat → Int32} : wrR sg w F (w + 4) = fun j => F (24 + j) := by
  unfold wrR; rw [us_ne (by omega), us_same]
theorem wrR_n {sg : Sg} {w k : Nat} {F : Nat → Int32} (h : k < w ∨ w + 4 < k) : wrR sg w F k = sg k := by
  unfold wrR; rw [us_ne (by omega), us_ne (by omega), us_ne (by omega), us_ne (by omega), us_ne (by omega)]
theorem rowC_wrR {sg : Sg} {w : Nat} {F : Nat → Int32} : RE (rowC (wrR sg w F) w) F := by
  intro j hj
  unfold rowC
  split
  · rw [wrR_1]
  · split
    · rw [wrR_2]; show F (6 + (j - 6)) = F j; congr 1; omega
    · split
      · rw [wrR_3]; show F (12 + (j - 12)) = F j; congr 1; omega
      · split
        · rw [wrR_4]; show F (24 + (j - 24)) = F j; congr 1; omega
        · rw [wrR_0]
          show (if j - 27 < 4 then _ else F (27 + (j - 27))) = F j
          rw [if_neg (by omega)]
          congr 1
          omega
theorem rowC_n {sg : Sg} {w v : Nat} {F : Nat → Int32} (h : v + 4 < w ∨ w + 4 < v) : rowC (wrR sg w F) v = rowC sg v := by
  funext j
  unfold rowC
  rw [wrR_n (k := v + 1) (by omega), wrR_n (k := v + 2) (by omega), wrR_n (k := v + 3) (by omega), wrR_n (k := v + 4) (by omega), wrR_n (k := v) (by omega)]
/-- a Works' shape -/
def isW (w : Nat) : Prop := ln w = 8 ∧ ln (w + 1) = 6 ∧ ln (w + 2) = 6 ∧ ln (w + 3) = 12 ∧ ln (w + 4) = 7
theorem Sq.wr {S sg : Sg} {w : Nat} {F : Nat → Int32} (hw : isW w) (h0 : ∀ j, j < 8 → S w j = if j < 4 then sg w j else F (27 + j)) (h1 : ∀ j, j < 6 → S (w + 1) j = F j) (h2 : ∀ j, j < 6 → S (w + 2) j = F (6 + j)) (h3 : ∀ j, j < 12 → S (w + 3) j = F (12 + j)) (h4 : ∀ j, j < 7 → S (w + 4) j = F (24 + j)) (ho : ∀ k, k < w ∨ w + 4 < k → S k = sg k) : Sq S (wrR sg w F) := by
  intro k j hj
  by_cases k0 : k = w
  · subst k0; rw [wrR_0]; exact h0 j (by rw [hw.1] at hj; exact hj)
  · by_cases k1 : k = w + 1
    · subst k1; rw [wrR_1]; exact h1 j (by rw [hw.2.1] at hj; exact hj)
    · by_cases k2 : k = w + 2
      · subst k2; rw [wrR_2]; exact h2 j (by rw [hw.2.2.1] at hj; exact hj)
      · by_cases k3 : k = w + 3
        · subst k3; rw [wrR_3]; exact h3 j (by rw [hw.2.2.2.1] at hj; exact hj)
        · by_cases k4 : k = w + 4
          · subst k4; rw [wrR_4]; exact h4 j (by rw [hw.2.2.2.2] at hj; exact hj)
          · rw [wrR_n (by omega), ho k (by omega)]
theorem isW_1 : isW 1 := ⟨rfl, rfl, rfl, rfl, rfl⟩
theorem isW_6 : isW 6 := ⟨rfl, rfl, rfl, rfl, rfl⟩
theorem isW_13 : isW 13 := ⟨rfl, rfl, rfl, rfl, rfl⟩
theorem isW_18 : isW 18 := ⟨rfl, rfl, rfl, rfl, rfl⟩
theorem isW_23 : isW 23 := ⟨rfl, rfl, rfl, rfl, rfl⟩
theorem isW_28 : isW 28 := ⟨rfl, rfl, rfl, rfl, rfl⟩
theorem isW_33 : isW 33 := ⟨rfl, rfl, rfl, rfl, rfl⟩
/-- the fields of the Works now, as they stand -/
theorem fld_id {sg : Sg} {w : Nat} (j : Nat) : sg w j = if j < 4 then sg w j else rowC sg w (27 + j) := by
  by_cases h : j < 4
  · rw [if_pos h]
  · rw [if_neg h, rowC_f (by omega)]
theorem fldF {sg : Sg} {F : Nat → Int32} (h : ∀ j, 31 ≤ j → j < 35 → F j = rowC sg 1 j) (j : Nat) (hj : j < 8) : sg 1 j = if j < 4 then sg 1 j else F (27 + j) := by
  by_cases hq : j < 4
  · rw [if_pos hq]
  · rw [if_neg hq, h _ (by omega) (by omega), rowC_f (by omega)]
theorem wr_dig {sg : Sg} {g F : Nat → Int32} (h : ∀ j, j < 6 → g j = F j) (h' : ∀ j, 6 ≤ j → j < 35 → F j = rowC sg 1 j) : Sq (us sg 2 g) (wrR sg 1 F) :=
  Sq.wr isW_1 (fldF (sg := sg) (fun j h1 h2 => h' j (by omega) h2)) h (fun j hj => ((h' _ (by omega) (by omega)).trans (rowC_o hj)).symm) (fun j hj => ((h' _ (by omega) (by omega)).trans (rowC_w hj)).symm) (fun j hj => ((h' _ (by omega) (by omega)).trans (rowC_c hj)).symm) (fun k hk => us_ne (by omega))
theorem wr_wrn {sg : Sg} {g F : Nat → Int32} (h : ∀ j, j < 6 → g j = F (6 + j)) (h' : ∀ j, j < 6 ∨ 12 ≤ j → j < 35 → F j = rowC sg 1 j) : Sq (us sg 3 g) (wrR sg 1 F) :=
  Sq.wr isW_1 (fldF (sg := sg) (fun j h1 h2 => h' j (by omega) h2)) (fun j hj => ((h' _ (by omega) (by omega)).trans (rowC_d hj)).symm) h (fun j hj => ((h' _ (by omega) (by omega)).trans (rowC_w hj)).symm) (fun j hj => ((h' _ (by omega) (by omega)).trans (rowC_c hj)).symm) (fun k hk => us_ne (by omega))
theorem wr_whl {sg : Sg} {g F : Nat → Int32} (h : ∀ j, j < 12 → g j = F (12 + j)) (h' : ∀ j, j < 12 ∨ 24 ≤ j → j < 35 → F j = rowC sg 1 j) : Sq (us sg 4 g) (wrR sg 1 F) :=
  Sq.wr isW_1 (fldF (sg := sg) (fun j h1 h2 => h' j (by omega) h2)) (fun j hj => ((h' _ (by omega) (by omega)).trans (rowC_d hj)).symm) (fun j hj => ((h' _ (by omega) (by omega)).trans (rowC_o hj)).symm) h (fun j hj => ((h' _ (by omega) (by omega)).trans (rowC_c hj)).symm) (fun k hk => us_ne (by omega))
theorem wr_fld {sg : Sg} {q : Nat} {x : Int32} (hq : 4 ≤ q) (hq8 : q < 8) : Sq (us sg 1 (upd (sg 1) q x)) (wrR sg 1 (upd (rowC sg 1) (27 + q) x)) :=
  Sq.wr isW_1 (fun j hj => by
      show upd (sg 1) q x j = _
      by_cases hj4 : j < 4
      · rw [if_pos hj4, upd_ne (by omega)]
      · rw [if_neg hj4]
        by_cases hjq : j = q
        · subst hjq; rw [upd_same, upd_same]
        · rw [upd_ne hjq, upd_ne (by omega), rowC_f (by omega)]) (fun j hj => by rw [upd_ne (by omega), rowC_d hj]; rfl) (fun j hj => by rw [upd_ne (by omega), rowC_o hj]; rfl) (fun j hj => by rw [upd_ne (by omega), rowC_w hj]; rfl) (fun j hj => by rw [upd_ne (by omega), rowC_c hj]; rfl) (fun k hk => us_ne (by omega))
theorem upd_cg {g f : Nat → Int32} {j q : Nat} {x : Int32} (h : g q = f q) : upd g j x q = upd f j x q := by
  unfold upd
  by_cases hq : q = j
  · rw [if_pos hq, if_pos hq]
  · rw [if_neg hq, if_neg hq, h]
theorem upd_cgo {g f : Nat → Int32} {j q b : Nat} {x : Int32} (h : g q = f (b + q)) : upd g j x q = upd f (b + j) x (b + q) := by
  unfold upd
  by_cases hq : q = j
  · rw [if_pos hq, if_pos (by omega)]
  · rw [if_neg hq, if_neg (by omega), h]
