/-! rows of rows: one row of k among many -/
def row2 (k i : Nat) (h R : Nat → Int32) : Nat → Int32 := fun j => if j / k = i then h (j % k) else R j
theorem row2_at {k i a : Nat} (h R : Nat → Int32) (ha : a < k) : row2 k i h R (k * i + a) = h a := by
  unfold row2
  have hk : 0 < k := by omega
  rw [if_pos (by rw [Nat.mul_add_div hk, Nat.div_eq_of_lt ha, Nat.add_zero]), Nat.mul_add_mod, Nat.mod_eq_of_lt ha]
theorem row2_up {k i a : Nat} (h R : Nat → Int32) (x : Int32) (ha : a < k) : upd (row2 k i h R) (k * i + a) x = row2 k i (upd h a x) R := by
  have hk : 0 < k := by omega
  funext j
  unfold upd row2
  by_cases hj : j / k = i
  · rw [if_pos hj, if_pos hj]
    show _ = if j % k = a then x else h (j % k)
    by_cases h2 : j % k = a
    · rw [if_pos h2, if_pos (by have h3 := Nat.div_add_mod j k; rw [hj, h2] at h3; exact h3.symm)]
    · rw [if_neg h2, if_neg (fun h3 => h2 (by rw [h3, Nat.mul_add_mod, Nat.mod_eq_of_lt ha]))]
  · rw [if_neg hj, if_neg hj, if_neg (fun h3 => hj (by rw [h3, Nat.mul_add_div hk, Nat.div_eq_of_lt ha, Nat.add_zero]))]
theorem row2_self {k i : Nat} (R h : Nat → Int32) (e : ∀ j, j / k = i → R j = h (j % k)) : R = row2 k i h R := by
  funext j
  unfold row2
  by_cases hj : j / k = i
  · rw [if_pos hj, e j hj]
  · rw [if_neg hj]

theorem mK_row (g : Sg) (i : Nat) : mK g = row2 12 i (fun l => nI (sK (gS g i) l)) (mK g) := row2_self _ _ (fun j hj => by unfold mK; rw [hj])
theorem mK_gU (g : Sg) (i : Nat) (u : St) : mK (gU g i u) = row2 12 i (fun l => nI (sK u l)) (mK g) := by
  funext j
  unfold row2
  by_cases hj : j / 12 = i
  · rw [if_pos hj]
    unfold mK
    rw [hj, show gS (gU g i u) i = u from va_up_self _ _ _]
  · rw [if_neg hj]
    unfold mK
    rw [show gS (gU g i u) (j / 12) = gS g (j / 12) from va_up_ne _ _ hj]
theorem mK_keep (g : Sg) (i : Nat) (u : St) (h : sK u = sK (gS g i)) : mK (gU g i u) = mK g := by rw [mK_gU, h]; exact (mK_row g i).symm
theorem mL_row (g : Sg) (i : Nat) : mL g = row2 12 i (fun l => nI (sL (gS g i) l)) (mL g) := row2_self _ _ (fun j hj => by unfold mL; rw [hj])
theorem mL_gU (g : Sg) (i : Nat) (u : St) : mL (gU g i u) = row2 12 i (fun l => nI (sL u l)) (mL g) := by
  funext j
  unfold row2
  by_cases hj : j / 12 = i
  · rw [if_pos hj]
    unfold mL
    rw [hj, show gS (gU g i u) i = u from va_up_self _ _ _]
  · rw [if_neg hj]
    unfold mL
    rw [show gS (gU g i u) (j / 12) = gS g (j / 12) from va_up_ne _ _ hj]
theorem mL_keep (g : Sg) (i : Nat) (u : St) (h : sL u = sL (gS g i)) : mL (gU g i u) = mL g := by rw [mL_gU, h]; exact (mL_row g i).symm
theorem mS_row (g : Sg) (i : Nat) : mS g = row2 12 i (sS (gS g i)) (mS g) := row2_self _ _ (fun j hj => by unfold mS; rw [hj])
theorem mS_gU (g : Sg) (i : Nat) (u : St) : mS (gU g i u) = row2 12 i (sS u) (mS g) := by
  funext j
  unfold row2
  by_cases hj : j / 12 = i
  · rw [if_pos hj]
    unfold mS
    rw [hj, show gS (gU g i u) i = u from va_up_self _ _ _]
  · rw [if_neg hj]
    unfold mS
    rw [show gS (gU g i u) (j / 12) = gS g (j / 12) from va_up_ne _ _ hj]
theorem mS_keep (g : Sg) (i : Nat) (u : St) (h : sS u = sS (gS g i)) : mS (gU g i u) = mS g := by rw [mS_gU, h]; exact (mS_row g i).symm
theorem mP_row (g : Sg) (i : Nat) : mP g = row2 144 i (sP (gS g i)) (mP g) := row2_self _ _ (fun j hj => by unfold mP; rw [hj])
theorem mP_gU (g : Sg) (i : Nat) (u : St) : mP (gU g i u) = row2 144 i (sP u) (mP g) := by
  funext j
  unfold row2
  by_cases hj : j / 144 = i
  · rw [if_pos hj]
    unfold mP
    rw [hj, show gS (gU g i u) i = u from va_up_self _ _ _]
  · rw [if_neg hj]
    unfold mP
    rw [show gS (gU g i u) (j / 144) = gS g (j / 144) from va_up_ne _ _ hj]
theorem mP_keep (g : Sg) (i : Nat) (u : St) (h : sP u = sP (gS g i)) : mP (gU g i u) = mP g := by rw [mP_gU, h]; exact (mP_row g i).symm
theorem mT_row (g : Sg) (i : Nat) : mT g = row2 30 i (fun l => nI (sT (gS g i) l)) (mT g) := row2_self _ _ (fun j hj => by unfold mT; rw [hj])
theorem mT_gU (g : Sg) (i : Nat) (u : St) : mT (gU g i u) = row2 30 i (fun l => nI (sT u l)) (mT g) := by
  funext j
  unfold row2
  by_cases hj : j / 30 = i
  · rw [if_pos hj]
    unfold mT
    rw [hj, show gS (gU g i u) i = u from va_up_self _ _ _]
  · rw [if_neg hj]
    unfold mT
    rw [show gS (gU g i u) (j / 30) = gS g (j / 30) from va_up_ne _ _ hj]
theorem mT_keep (g : Sg) (i : Nat) (u : St) (h : sT u = sT (gS g i)) : mT (gU g i u) = mT g := by rw [mT_gU, h]; exact (mT_row g i).symm
theorem mX_row (g : Sg) (c : Nat) : mX g = row2 5 c (fun l => nI (cX (gC g c) l)) (mX g) := row2_self _ _ (fun j hj => by unfold mX; rw [hj])
theorem mX_gV (g : Sg) (c : Nat) (v : Co) : mX (gV g c v) = row2 5 c (fun l => nI (cX v l)) (mX g) := by
  funext j
  unfold row2
  by_cases hj : j / 5 = c
  · rw [if_pos hj]
    unfold mX
    rw [hj, show gC (gV g c v) c = v from va_up_self _ _ _]
  · rw [if_neg hj]
    unfold mX
    rw [show gC (gV g c v) (j / 5) = gC g (j / 5) from va_up_ne _ _ hj]
theorem mX_keep (g : Sg) (c : Nat) (v : Co) (h : cX v = cX (gC g c)) : mX (gV g c v) = mX g := by rw [mX_gV, h]; exact (mX_row g c).symm
theorem mZ_row (g : Sg) (c : Nat) : mZ g = row2 5 c (cZ (gC g c)) (mZ g) := row2_self _ _ (fun j hj => by unfold mZ; rw [hj])
theorem mZ_gV (g : Sg) (c : Nat) (v : Co) : mZ (gV g c v) = row2 5 c (cZ v) (mZ g) := by
  funext j
  unfold row2
  by_cases hj : j / 5 = c
  · rw [if_pos hj]
    unfold mZ
    rw [hj, show gC (gV g c v) c = v from va_up_self _ _ _]
  · rw [if_neg hj]
    unfold mZ
    rw [show gC (gV g c v) (j / 5) = gC g (j / 5) from va_up_ne _ _ hj]
theorem mZ_keep (g : Sg) (c : Nat) (v : Co) (h : cZ v = cZ (gC g c)) : mZ (gV g c v) = mZ g := by rw [mZ_gV, h]; exact (mZ_row g c).symm
theorem mY_gU (g : Sg) (i : Nat) (u : St) : mY (gU g i u) = upd (mY g) i (sY u) := by
  funext j
  unfold upd
  by_cases hj : j = i
  · rw [if_pos hj]
    unfold mY
    rw [hj, show gS (gU g i u) i = u from va_up_self _ _ _]
  · rw [if_neg hj]
    unfold mY
    rw [show gS (gU g i u) j = gS g j from va_up_ne _ _ hj]
theorem mC_gU (g : Sg) (i : Nat) (u : St) : mC (gU g i u) = upd (mC g) i (sC u) := by
  funext j
  unfold upd
  by_cases hj : j = i
  · rw [if_pos hj]
    unfold mC
    rw [hj, show gS (gU g i u) i = u from va_up_self _ _ _]
  · rw [if_neg hj]
    unfold mC
    rw [show gS (gU g i u) j = gS g j from va_up_ne _ _ hj]
theorem mQ_gU (g : Sg) (i : Nat) (u : St) : mQ (gU g i u) = upd (mQ g) i (nI (sq u)) := by
  funext j
  unfold upd
  by_cases hj : j = i
  · rw [if_pos hj]
    unfold mQ
    rw [hj, show gS (gU g i u) i = u from va_up_self _ _ _]
  · rw [if_neg hj]
    unfold mQ
    rw [show gS (gU g i u) j = gS g j from va_up_ne _ _ hj]
theorem upd_same (f : Nat → Int32) (i : Nat) (x : Int32) (h : x = f i) : upd f i x = f := by
  funext j
  unfold upd
  by_cases hj : j = i
  · rw [if_pos hj, hj, h]
  · rw [if_neg hj]
theorem upd_twice (f : Nat → Int32) (i : Nat) (x y : Int32) : upd (upd f i x) i y = upd f i y := by
  funext j
  unfold upd
  by_cases hj : j = i
  · rw [if_pos hj, if_pos hj]
  · rw [if_neg hj, if_neg hj, if_neg hj]
theorem upd_at (f : Nat → Int32) (i : Nat) (x : Int32) : upd f i x i = x := if_pos rfl
theorem mY_keep (g : Sg) (i : Nat) (u : St) (h : sY u = sY (gS g i)) : mY (gU g i u) = mY g := by rw [mY_gU]; exact upd_same _ _ _ h
theorem mC_keep (g : Sg) (i : Nat) (u : St) (h : sC u = sC (gS g i)) : mC (gU g i u) = mC g := by rw [mC_gU]; exact upd_same _ _ _ h
theorem mQ_keep (g : Sg) (i : Nat) (u : St) (h : sq u = sq (gS g i)) : mQ (gU g i u) = mQ g := by rw [mQ_gU]; exact upd_same _ _ _ (by rw [h]; rfl)
theorem mLa_gU (g : Sg) (i : Nat) (u : St) (hi : i < gN g) : mLa (gU g i u) = upd (mLa g) i (lst u) := by
  funext j
  unfold upd
  by_cases hj : j = i
  · subst hj
    rw [if_pos rfl, mLa_in (gU g j u) hi, show gS (gU g j u) j = u from va_up_self _ _ _]
  · rw [if_neg hj]
    by_cases h2 : j < gN g
    · rw [mLa_in (gU g i u) h2, mLa_in g h2, show gS (gU g i u) j = gS g j from va_up_ne _ _ hj]
    · exact (if_neg h2).trans (if_neg h2).symm
theorem mLa_keep (g : Sg) (i : Nat) (u : St) (hi : i < gN g) (h : lst u = lst (gS g i)) : mLa (gU g i u) = mLa g := by rw [mLa_gU g i u hi]; exact upd_same _ _ _ (by rw [h, mLa_in g hi])
theorem mW_gV (g : Sg) (c : Nat) (v : Co) (h : cW v = cW (gC g c)) : mW (gV g c v) = mW g := by
  funext j
  unfold mW
  by_cases hj : j = c
  · rw [hj, show gC (gV g c v) c = v from va_up_self _ _ _, h]
  · rw [show gC (gV g c v) j = gC g j from va_up_ne _ _ hj]
