/-! bit counts of worn teeth: all cases -/
set_option maxRecDepth 100000 in
theorem bc_wm : ∀ m, m < 512 → bcX (nI (2 * m)) = wmX (nI (2 * m)) 10 := by decide +kernel
set_option maxRecDepth 100000 in
theorem gv_0 : ∀ g, g < 10 → ∀ m, m < 512 → nI g - bcX (nI (2 * m) &&& ((nI 2 <<< (nI g &&& 31)) - nI 1)) = whX (nI (2 * m)) (g + 1) := by decide +kernel
theorem bc_eq {m : Nat} (hm : m < 1024) (he : m % 2 = 0) : bcX (nI m) = wmX (nI m) 10 := by
  have h := bc_wm (m / 2) (by omega)
  rwa [show 2 * (m / 2) = m by omega] at h
theorem gv_eq {g m : Nat} (hg : g ≤ 9) (hm : m < 1024) (he : m % 2 = 0) : nI g - bcX (nI m &&& ((nI 2 <<< (nI g &&& 31)) - nI 1)) = whX (nI m) (g + 1) := by
  have h := gv_0 g (by omega) (m / 2) (by omega)
  rwa [show 2 * (m / 2) = m by omega] at h
