/-! the reference's rows of numbers, of the same state -/
def mK (g : Sg) : Nat → Int32 := fun j => nI (sK (gS g (j / 12)) (j % 12))
def mL (g : Sg) : Nat → Int32 := fun j => nI (sL (gS g (j / 12)) (j % 12))
def mY (g : Sg) : Nat → Int32 := fun j => sY (gS g j)
def mS (g : Sg) : Nat → Int32 := fun j => sS (gS g (j / 12)) (j % 12)
def mP (g : Sg) : Nat → Int32 := fun j => sP (gS g (j / 144)) (j % 144)
def mC (g : Sg) : Nat → Int32 := fun j => sC (gS g j)
def lst (u : St) : Int32 := if sq u = 0 then -1 else nI (sT u (sq u - 1))
def mLa (g : Sg) : Nat → Int32 := fun j => if j < gN g then lst (gS g j) else 0
def mQ (g : Sg) : Nat → Int32 := fun j => nI (sq (gS g j))
def mT (g : Sg) : Nat → Int32 := fun j => nI (sT (gS g (j / 30)) (j % 30))
def mD (g : Sg) : Nat → Int32 := fun j => nI (gD g j)
def mW (g : Sg) : Nat → Int32 := fun j => nI (cW (gC g j))
def mX (g : Sg) : Nat → Int32 := fun j => nI (cX (gC g (j / 5)) (j % 5))
def mZ (g : Sg) : Nat → Int32 := fun j => cZ (gC g (j / 5)) (j % 5)
theorem mK_at (g : Sg) (i : Nat) {l : Nat} (h : l < 12) : mK g (12 * i + l) = nI (sK (gS g i) l) := by
  unfold mK
  rw [show (12 * i + l) / 12 = i by omega, show (12 * i + l) % 12 = l by omega]
theorem mL_at (g : Sg) (i : Nat) {l : Nat} (h : l < 12) : mL g (12 * i + l) = nI (sL (gS g i) l) := by
  unfold mL
  rw [show (12 * i + l) / 12 = i by omega, show (12 * i + l) % 12 = l by omega]
theorem mS_at (g : Sg) (i : Nat) {l : Nat} (h : l < 12) : mS g (12 * i + l) = sS (gS g i) l := by
  unfold mS
  rw [show (12 * i + l) / 12 = i by omega, show (12 * i + l) % 12 = l by omega]
theorem mP_at (g : Sg) (i : Nat) {l : Nat} (h : l < 144) : mP g (144 * i + l) = sP (gS g i) l := by
  unfold mP
  rw [show (144 * i + l) / 144 = i by omega, show (144 * i + l) % 144 = l by omega]
theorem mT_at (g : Sg) (i : Nat) {l : Nat} (h : l < 30) : mT g (30 * i + l) = nI (sT (gS g i) l) := by
  unfold mT
  rw [show (30 * i + l) / 30 = i by omega, show (30 * i + l) % 30 = l by omega]
theorem mX_at (g : Sg) (i : Nat) {l : Nat} (h : l < 5) : mX g (5 * i + l) = nI (cX (gC g i) l) := by
  unfold mX
  rw [show (5 * i + l) / 5 = i by omega, show (5 * i + l) % 5 = l by omega]
theorem mZ_at (g : Sg) (i : Nat) {l : Nat} (h : l < 5) : mZ g (5 * i + l) = cZ (gC g i) l := by
  unfold mZ
  rw [show (5 * i + l) / 5 = i by omega, show (5 * i + l) % 5 = l by omega]
theorem mLa_in (g : Sg) {i : Nat} (h : i < gN g) : mLa g i = lst (gS g i) := if_pos h
def hkIs (v a b : Int32) : Int32 := if ¬ v < a ∧ ¬ b < v then 1 else 0
def nb (x : Int32) (n : Nat) : Int32 := if bd x n then 0 else 1
theorem is_nb (x : Int32) {n : Nat} (hn : n < 2 ^ 30) : hkIs x (nI 0) (nI n - nI 1) = nb x n := by
  unfold hkIs nb
  have h1 : (nI n - nI 1).toInt = (n : Int) - 1 := pk_sub_toInt hn (by decide)
  by_cases hb : bd x n
  · rw [if_pos hb, if_neg]
    rintro ⟨h2, h3⟩
    rcases hb with h | h
    · exact h2 h
    · obtain ⟨j, hj, rfl⟩ := nI_of (x := x) h2
      rw [nI_clamp hj] at h
      refine h3 (Int32.lt_iff_toInt_lt.mpr ?_)
      rw [h1, nI_toInt hj]
      omega
  · rw [if_neg hb, if_pos]
    obtain ⟨j, hj, rfl⟩ := bd_of (by omega) hb
    refine ⟨nI_pos (by omega), fun h => ?_⟩
    have h2 := Int32.lt_iff_toInt_lt.mp h
    rw [h1, nI_toInt (by omega)] at h2
    omega
theorem is_nbk (x : Int32) {n : Nat} (hn : n + 1 < 2 ^ 31) : hkIs x (nI 0) (nI n) = nb x (n + 1) := by
  unfold hkIs nb
  by_cases hb : bd x (n + 1)
  · rw [if_pos hb, if_neg]
    rintro ⟨h2, h3⟩
    rcases hb with h | h
    · exact h2 h
    · obtain ⟨j, hj, rfl⟩ := nI_of (x := x) h2
      rw [nI_clamp hj] at h
      exact h3 ((nI_ltI (by omega) hj).mpr (by omega))
  · rw [if_neg hb, if_pos]
    obtain ⟨j, hj, rfl⟩ := bd_of (by omega) hb
    exact ⟨nI_pos (by omega), fun h => absurd ((nI_ltI (by omega) (by omega)).mp h) (by omega)⟩
theorem nb_z (x : Int32) (n : Nat) : narrow .boolean (.int (nb x n)) = .int (nb x n) := by
  unfold nb
  split <;> rfl
theorem hkIs_z (v a b : Int32) : narrow .boolean (.int (hkIs v a b)) = .int (hkIs v a b) := by
  unfold hkIs
  split <;> rfl
theorem gs_00 (K T : Nat → Nat) : gs K T 0 0 = gk K T := by
  funext p
  unfold gs gk swp
  by_cases h : K (T p) = 0
  · rw [if_pos h, h]
  · rw [if_neg h, if_neg h]
theorem bs_pos (K T : Nat → Nat) (q : Nat) : ∀ k, ¬ (bs K T q k).2 < 0
  | 0 => by rw [bs]; decide
  | k + 1 => by
    have h := bs_pos K T q k
    rw [bs]
    split
    · rename_i h2
      intro h3
      exact h (Int32.lt_trans h2.2 h3)
    · exact h
/-- the reference's cells -/
def mdW (ct : Nat → ClassId) (aa : Nat → Nat) (g : Sg) (rf : Int32) : va_W := [(aa 0, .inr (3, [.int rf, .int (nI (gN g)), .ref (aa 1), .ref (aa 2), .ref (aa 3), .ref (aa 4), .ref (aa 5), .ref (aa 6), .ref (aa 7), .ref (aa 8), .ref (aa 9), .int (nI (gd g)), .ref (aa 10), .int (nI (gc g)), .ref (aa 11), .ref (aa 12), .ref (aa 13)])), (aa 1, .inl (ct 0, 60, .inl (mK g))), (aa 2, .inl (ct 0, 60, .inl (mL g))), (aa 3, .inl (ct 0, 5, .inl (mY g))), (aa 4, .inl (ct 0, 60, .inl (mS g))), (aa 5, .inl (ct 0, 720, .inl (mP g))), (aa 6, .inl (ct 0, 5, .inl (mC g))), (aa 7, .inl (ct 0, 5, .inl (mLa g))), (aa 8, .inl (ct 0, 5, .inl (mQ g))), (aa 9, .inl (ct 0, 150, .inl (mT g))), (aa 10, .inl (ct 0, 24, .inl (mD g))), (aa 11, .inl (ct 0, 6, .inl (mW g))), (aa 12, .inl (ct 0, 30, .inl (mX g))), (aa 13, .inl (ct 0, 30, .inl (mZ g)))]
def mdA (aa : Nat → Nat) : List Nat := [aa 0, aa 1, aa 2, aa 3, aa 4, aa 5, aa 6, aa 7, aa 8, aa 9, aa 10, aa 11, aa 12, aa 13]
