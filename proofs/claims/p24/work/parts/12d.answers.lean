/-! what each call answers, as a long -/
theorem lw0 {es : List Int64} {v : Int32} {g : Sg} : lw es (0, v, g) = v.toInt64 := if_pos rfl
theorem lwN {es : List Int64} {z : Op} {n : Nat} {g : Sg} (e : z = (0, nI n, g)) (h : n < 2 ^ 31) : lw es z = zL (n : Int) ∧ z.2.2 = g := by
  rw [e]; exact ⟨lw0.trans (nI_z h), rfl⟩
theorem lwI {es : List Int64} {z : Op} {v : Int32} {g : Sg} (e : z = (0, v, g)) : lw es z = zL v.toInt ∧ z.2.2 = g := by
  rw [e]; exact ⟨lw0.trans (zI_z v), rfl⟩
theorem lw1 {es : List Int64} {z : Op} {n : Int} {c : Int32} {v : Int32} {g : Sg} (e : z = (c, v, g)) (h0 : ¬ c = 0) (h : es.getD (ix c - 1) 0 = zL n) : lw es z = zL n ∧ z.2.2 = g := by
  rw [e]; exact ⟨(if_neg h0).trans h, rfl⟩
def wI (u : St) : Nat := ix (sY u)
theorem wI_ok {u : St} (h : Ist u) : sY u = nI (wI u) ∧ wI u ≤ 1 := by
  unfold wI
  rcases h.2.2.2.2.2 with q | q <;> rw [q] <;> exact ⟨by decide, by decide⟩
def gDr (g : Sg) (k : Nat) : Sg := (gN g, gS g, gd g + 1, va_up (gD g) (gd g) k, gc g, gC g)
def gCl (g : Sg) : Sg := (gN g, gS g, 0, gD g, gc g, gC g)
section ANS
variable {g : Sg} {a : Nat}
theorem e_student (h : gN g < 5) : opStudent g = (0, nI (gN g), gA g) := by
  rw [opStudent, if_neg (by omega)]; rfl
theorem e_carry (hI : Inv g) (ha : a < gN g) {y : Nat} (hy : y < 2) : opCarry g (nI a) (nI y) = (0, nI (wI (gS g a)), gU g a (wyU (gS g a) (nI y))) := by
  have hN : gN g ≤ 5 := hI.1
  have h2 : ¬ (¬ nI y = 0 ∧ ¬ nI y = 1) := by
    rcases (show y = 0 ∨ y = 1 by omega) with rfl | rfl
    · intro q; exact q.1 rfl
    · intro q; exact q.2 rfl
  rw [opCarry, if_neg (bd_nI ha (by omega)), if_neg h2, ix_nI (by omega), (wI_ok (hI.2.2.2.1 a)).1]
theorem e_swap (hI : Inv g) (ha : a < gN g) {x y : Nat} (hx9 : x < 12) (hy : y < 12) (hxy : x ≠ y) : opSwap g (nI a) (nI x) (nI y) = (0, sv (sK (gS g a)) (sT (gS g a)) (sq (gS g a)) x y, gU g a (exU (gS g a) x y)) := by
  have hN : gN g ≤ 5 := hI.1
  rw [opSwap, if_neg (fun q => q.elim (bd_nI ha (by omega)) (fun q => q.elim (bd_nI hx9 (by omega)) (bd_nI hy (by omega)))), if_neg (fun q => hxy ((nI_eq (by omega) (by omega)).mp q)), ix_nI (by omega), ix_nI (by omega), ix_nI (by omega)]
theorem e_keyOf (hI : Inv g) (ha : a < gN g) {k : Nat} (hk : k < 12) : opKeyOf g (nI a) (nI k) = (0, nI (sK (gS g a) k), g) := by
  have hN : gN g ≤ 5 := hI.1
  rw [opKeyOf, if_neg (fun q => q.elim (bd_nI ha (by omega)) (bd_nI hk (by omega))), ix_nI (by omega), ix_nI (by omega)]
theorem e_letterOn (hI : Inv g) (ha : a < gN g) {k : Nat} (hk : k < 12) : opLetterOn g (nI a) (nI k) = (0, nI (sL (gS g a) k), g) := by
  have hN : gN g ≤ 5 := hI.1
  rw [opLetterOn, if_neg (fun q => q.elim (bd_nI ha (by omega)) (bd_nI hk (by omega))), ix_nI (by omega), ix_nI (by omega)]
theorem e_press (hI : Inv g) (ha : a < gN g) {k x : Nat} (hk : k < 12) (hx9 : x < 12) : opPress g (nI a) (nI k) (nI x) = (0, nI (if sK (gS g a) k = x then 0 else 1), gU g a (tpU (gS g a) k x)) := by
  have hN : gN g ≤ 5 := hI.1
  rw [opPress, if_neg (fun q => q.elim (bd_nI ha (by omega)) (fun q => q.elim (bd_nI hk (by omega)) (bd_nI hx9 (by omega)))), ix_nI (by omega), ix_nI (by omega), ix_nI (by omega)]
  unfold tpR
  split <;> rfl
theorem e_slips (hI : Inv g) (ha : a < gN g) {w x n : Nat} (hw : nI x < 0 ∨ ¬ nI x < hkGs (nI w) → False) (e : sl (sS (gS g a)) (nI w) (nI x) 12 = nI n) : opSlips g (nI a) (nI w) (nI x) = (0, nI n, g) := by
  have hN : gN g ≤ 5 := hI.1
  rw [opSlips, if_neg (bd_nI ha (by omega)), if_neg hw, ix_nI (by omega), e]
theorem e_pair (hI : Inv g) (ha : a < gN g) {N : Nat} (hj : Jst N (gS g a)) {k : Nat} (hk : k < 144) : opPair g (nI a) (nI (k / 12)) (nI (k % 12)) = (0, nI (cP (gS g a) k), g) := by
  have hN : gN g ≤ 5 := hI.1
  rw [opPair, if_neg (fun q => q.elim (bd_nI ha (by omega)) (fun q => q.elim (bd_nI (show k / 12 < 12 by omega) (by omega)) (bd_nI (show k % 12 < 12 by omega) (by omega)))), ix_nI (by omega), ix_nI (by omega), ix_nI (by omega), show 12 * (k / 12) + k % 12 = k by omega, cP_eq hj k]
theorem e_pressed (hI : Inv g) (ha : a < gN g) {N : Nat} (hj : Jst N (gS g a)) : opPressed g (nI a) = (0, nI (nC (gS g a)), g) := by
  have hN : gN g ≤ 5 := hI.1
  rw [opPressed, if_neg (bd_nI ha (by omega)), ix_nI (by omega), nC_eq hj]
theorem e_time (hI : Inv g) (ha : a < gN g) : opTime g (nI a) = (0, nI (tZ (gS g a)), g) := by
  have hN : gN g ≤ 5 := hI.1
  rw [opTime, if_neg (bd_nI ha (by omega)), ix_nI (by omega)]; rfl
theorem e_lesson (hI : Inv g) (ha : a < gN g) {p z : Nat} (hp : p < 100) (hz : p % 3 = z) : opLesson g (nI a) (nI p) = (0, nI (les (gS g a) z), g) := by
  have hN : gN g ≤ 5 := hI.1
  rw [opLesson, if_neg (fun q => q.elim (bd_nI ha (by omega)) (bd_nI hp (by omega))), ix_nI (by omega), ix_nI (by omega), hz, (les_ok _ (show z < 12 by omega)).1]
theorem e_lesson100 (hI : Inv g) (ha : a < gN g) : opLesson g (nI a) (nI 100) = (1, 0, g) := by
  rw [opLesson, if_pos (Or.inr (by decide))]
theorem e_saves (hI : Inv g) (ha : a < gN g) {x y : Nat} (hx9 : x < 12) (hy : y < 12) (hxy : x ≠ y) : opSaves g (nI a) (nI x) (nI y) = (0, sv (sK (gS g a)) (sT (gS g a)) (sq (gS g a)) x y, g) := by
  have hN : gN g ≤ 5 := hI.1
  rw [opSaves, if_neg (fun q => q.elim (bd_nI ha (by omega)) (fun q => q.elim (bd_nI hx9 (by omega)) (bd_nI hy (by omega)))), if_neg (fun q => hxy ((nI_eq (by omega) (by omega)).mp q)), ix_nI (by omega), ix_nI (by omega), ix_nI (by omega)]
theorem e_best (hI : Inv g) (ha : a < gN g) : opBest g (nI a) = (0, (bs (sK (gS g a)) (sT (gS g a)) (sq (gS g a)) 144).1, g) := by
  have hN : gN g ≤ 5 := hI.1
  rw [opBest, if_neg (bd_nI ha (by omega)), ix_nI (by omega)]
theorem e_draft {k : Nat} (hk : k < 12) (hd : gd g < 24) : opDraft g (nI k) = (0, nI (gd g + 1), gDr g k) := by
  rw [opDraft, if_neg (bd_nI hk (by omega)), if_neg (by omega), ix_nI (by omega)]; rfl
theorem e_contest (hd : gd g ≠ 0) (hn : gN g ≠ 0) (hc : gc g < 6) : opContest g = (0, nI (gc g), gB g) := by
  rw [opContest, if_neg (by omega)]; rfl
theorem e_contest6 (hc : gc g = 6) : opContest g = (1, 0, g) := by
  rw [opContest, if_pos (by omega)]
section CON
variable {c j : Nat}
theorem e_resultR (hI : Inv g) (hc : c < gc g) (hj : j < cW (gC g c)) {t : Nat} (ht : 1 ≤ t) (ht2 : t ≤ 99999) (hh : 0 < cz (gC g c) j) : opResult g (nI c) (nI j) (nI t) = (3, 0, g) := by
  have hc6 : gc g ≤ 6 := hI.2.2.1
  have hv := hI.2.2.2.2.2.2.2 c
  have h5 := hv.1
  rw [opResult, ix_nI (by omega), if_neg (fun q => q.elim (bd_nI hc (by omega)) (bd_nI hj (by omega))), if_neg (fun q => q.elim (fun q => absurd ((nI_ltI (by omega) (by omega)).mp q) (by omega)) (fun q => q ((nI_leI (by omega) (by omega)).mpr ht2))), ix_nI (by omega), if_pos (of_decide_eq_true ((hz_iff hv j).mpr hh))]
theorem e_result (hI : Inv g) (hJ : ∀ c, Jco (gC g c)) (hc : c < gc g) (hj : j < cW (gC g c)) {t : Nat} (ht : 1 ≤ t) (ht2 : t ≤ 99999) (hh : cz (gC g c) j = 0) : opResult g (nI c) (nI j) (nI t) = (0, nI (sc (rsU (gC g c) j (nI t)) j), gV g c (rsU (gC g c) j (nI t))) := by
  have hc6 : gc g ≤ 6 := hI.2.2.1
  have hv := hI.2.2.2.2.2.2.2 c
  have h5 := hv.1
  obtain ⟨x1, x2⟩ := hv.2.1 j hj
  have hno : ¬ 0 < cZ (gC g c) j := fun q => by
    have := (hz_iff hv j).mp (decide_eq_true q)
    omega
  have e : nI 1000 * nI t / nI (cX (gC g c) j) = nI (sc (rsU (gC g c) j (nI t)) j) := by
    have e2 : cz (rsU (gC g c) j (nI t)) j = t := by
      show ix (if j = j then nI t else cZ (gC g c) j) = t
      rw [if_pos rfl, ix_nI (by omega)]
    rw [show nI 1000 * nI t = nI (1000 * t) from (Int32.ofNat_mul 1000 t).symm]
    unfold sc
    rw [e2]
    exact pk_div (by omega) (by omega) (by omega)
  rw [opResult, ix_nI (by omega), if_neg (fun q => q.elim (bd_nI hc (by omega)) (bd_nI hj (by omega))), if_neg (fun q => q.elim (fun q => absurd ((nI_ltI (by omega) (by omega)).mp q) (by omega)) (fun q => q ((nI_leI (by omega) (by omega)).mpr ht2))), ix_nI (by omega), if_neg hno, e]
theorem e_of (hI : Inv g) (hc : c < gc g) (hj : j < cW (gC g c)) {w : Nat} (hw : w ≤ 3) : opOf g (nI c) (nI j) (nI w) = (0, if nI w = 0 then nI (cX (gC g c) j) else if 0 < cZ (gC g c) j then hkTo (cX (gC g c)) (cZ (gC g c)) j (nI w) else -1, g) := by
  have hc6 : gc g ≤ 6 := hI.2.2.1
  have hv := hI.2.2.2.2.2.2.2 c
  have h5 := hv.1
  rw [opOf, ix_nI (by omega), if_neg (fun q => q.elim (bd_nI hc (by omega)) (bd_nI hj (by omega))), if_neg (fun q => q.elim (nI_pos (by omega)) (fun q => absurd ((nI_ltI (by omega) (by omega)).mp q) (by omega))), ix_nI (by omega)]
theorem e_of0 (hI : Inv g) (hc : c < gc g) (hj : j < cW (gC g c)) : opOf g (nI c) (nI j) (nI 0) = (0, nI (cX (gC g c) j), g) := by
  rw [e_of hI hc hj (by omega), if_pos (show nI 0 = 0 from rfl)]
theorem e_ofn (hI : Inv g) (hc : c < gc g) (hj : j < cW (gC g c)) {w : Nat} (hw : w ≤ 3) (hw0 : 0 < w) (hh : cz (gC g c) j = 0) : opOf g (nI c) (nI j) (nI w) = (0, -1, g) := by
  have hv := hI.2.2.2.2.2.2.2 c
  have hno : ¬ 0 < cZ (gC g c) j := fun q => by
    have := (hz_iff hv j).mp (decide_eq_true q)
    omega
  rw [e_of hI hc hj hw, if_neg (nI_ne0 hw0 (by omega)), if_neg hno]
theorem e_of1 (hI : Inv g) (hc : c < gc g) (hj : j < cW (gC g c)) (hh : 0 < cz (gC g c) j) : opOf g (nI c) (nI j) (nI 1) = (0, nI (cz (gC g c) j), g) := by
  have hv := hI.2.2.2.2.2.2.2 c
  rw [e_of hI hc hj (by omega), if_neg (by decide), if_pos (of_decide_eq_true ((hz_iff hv j).mpr hh)), hkTo, if_pos (by decide), cz_eq hv]
theorem e_of2 (hI : Inv g) (hJ : ∀ c, Jco (gC g c)) (hc : c < gc g) (hj : j < cW (gC g c)) (hh : 0 < cz (gC g c) j) : opOf g (nI c) (nI j) (nI 2) = (0, nI (sc (gC g c) j), g) := by
  have hv := hI.2.2.2.2.2.2.2 c
  rw [e_of hI hc hj (by omega), if_neg (by decide), if_pos (of_decide_eq_true ((hz_iff hv j).mpr hh)), hkTo, if_neg (by decide), if_pos (by decide), scq hv (hJ c) hj]
theorem e_of3 (hI : Inv g) (hc : c < gc g) (hj : j < cW (gC g c)) (hh : 0 < cz (gC g c) j) : opOf g (nI c) (nI j) (nI 3) = (0, nI (rkC (gC g c) j), g) := by
  have hv := hI.2.2.2.2.2.2.2 c
  rw [e_of hI hc hj (by omega), if_neg (by decide), if_pos (of_decide_eq_true ((hz_iff hv j).mpr hh)), hkTo, if_neg (by decide), if_neg (by decide)]
  rfl
theorem e_ofout (hI : Inv g) (hc : c < gc g) : opOf g (nI c) (nI (cW (gC g c))) (nI 0) = (1, 0, g) := by
  have hc6 : gc g ≤ 6 := hI.2.2.1
  have h5 := (hI.2.2.2.2.2.2.2 c).1
  rw [opOf, if_pos (Or.inr (Or.inr (by rw [ix_nI (show c < 2 ^ 31 by omega), nI_clamp (by omega)]; exact Nat.le_refl _)))]
theorem e_ranked (hI : Inv g) (hc : c < gc g) (hj : j < cW (gC g c)) (hh : 0 < cz (gC g c) j) {r : Nat} (hr : rkC (gC g c) j = r) : opRanked g (nI c) (nI r) = (0, nI j, g) := by
  have hc6 : gc g ≤ 6 := hI.2.2.1
  have hr5 : rkC (gC g c) j ≤ 5 := rk_le _ _ _ _
  rw [opRanked, if_neg (fun q => q.elim (bd_nI hc (by omega)) (nI_pos (by omega))), ix_nI (by omega), ← hr, fi_holder (hI.2.2.2.2.2.2.2 c) hj hh]
theorem e_rankedN (hI : Inv g) (hc : c < gc g) : opRanked g (nI c) (nI (tol (gC g c) (cW (gC g c)))) = (0, -1, g) := by
  have hc6 : gc g ≤ 6 := hI.2.2.1
  have hr5 : tol (gC g c) (cW (gC g c)) ≤ cW (gC g c) := cnt_le _ _
  have h5 := (hI.2.2.2.2.2.2.2 c).1
  rw [opRanked, if_neg (fun q => q.elim (bd_nI hc (by omega)) (nI_pos (by omega))), ix_nI (by omega), fi_nobody (hI.2.2.2.2.2.2.2 c)]
end CON
/-! slips by key, finger, hand -/
theorem sl_cong {S S' : Nat → Int32} (w x : Int32) : ∀ n, (∀ k, k < n → S k = S' k) → sl S w x n = sl S' w x n
  | 0 => fun _ => rfl
  | n + 1 => fun h => by rw [sl, sl, sl_cong w x n (fun k hk => h k (by omega)), h n (by omega)]
theorem sl_nI (f : Nat → Nat) (w x : Int32) : ∀ n, sl (fun k => nI (f k)) w x n = nI (sm (fun k => if hkGr w k = x then f k else 0) n)
  | 0 => rfl
  | n + 1 => by
    rw [sl, sm, sl_nI f w x n]
    by_cases e : hkGr w n = x
    · rw [if_pos e, if_pos e, nI_add]
    · rw [if_neg e, if_neg e]; rfl
theorem sl_cS {N : Nat} {u : St} (hj : Jst N u) (w x : Int32) (n : Nat) : sl (sS u) w x n = nI (sm (fun k => if hkGr w k = x then cS u k else 0) n) := by
  rw [sl_cong w x n (S' := fun k => nI (cS u k)) (fun k _ => cS_eq hj k), sl_nI]
def hL (u : St) : Nat := cS u 0 + cS u 1 + cS u 2 + cS u 6 + cS u 7 + cS u 8
def hR (u : St) : Nat := cS u 3 + cS u 4 + cS u 5 + cS u 9 + cS u 10 + cS u 11
theorem sm12 (f : Nat → Nat) : sm f 12 = f 0 + f 1 + f 2 + f 3 + f 4 + f 5 + f 6 + f 7 + f 8 + f 9 + f 10 + f 11 := by
  simp [sm]
theorem hLR (u : St) : sm (cS u) 12 = hL u + hR u := by
  rw [sm12]; unfold hL hR; omega
theorem sl_k {N : Nat} {u : St} (hj : Jst N u) {k : Nat} (hk : k < 12) : sl (sS u) (nI 0) (nI k) 12 = nI (cS u k) := by
  rw [sl_cS hj, sm12]
  have h : ∀ i, i < 12 → (hkGr (nI 0) i = nI k ↔ i = k) := fun i hi => by
    unfold hkGr; rw [if_pos (by decide)]; exact nI_eq (by omega) (by omega)
  refine congrArg nI ?_
  simp only [h 0 (by omega), h 1 (by omega), h 2 (by omega), h 3 (by omega), h 4 (by omega), h 5 (by omega), h 6 (by omega), h 7 (by omega), h 8 (by omega), h 9 (by omega), h 10 (by omega), h 11 (by omega)]
  rcases (show k = 0 ∨ k = 1 ∨ k = 2 ∨ k = 3 ∨ k = 4 ∨ k = 5 ∨ k = 6 ∨ k = 7 ∨ k = 8 ∨ k = 9 ∨ k = 10 ∨ k = 11 by omega) with rfl | rfl | rfl | rfl | rfl | rfl | rfl | rfl | rfl | rfl | rfl | rfl <;> simp
theorem sl_f {N : Nat} {u : St} (hj : Jst N u) {k : Nat} (hk : k < 6) : sl (sS u) (nI 1) (nI k) 12 = nI (cS u k + cS u (k + 6)) := by
  rw [sl_cS hj, sm12]
  have h : ∀ i, i < 12 → (hkGr (nI 1) i = nI k ↔ i % 6 = k) := fun i hi => by
    unfold hkGr; rw [if_neg (by decide), if_pos (by decide)]; exact nI_eq (by omega) (by omega)
  refine congrArg nI ?_
  simp only [h 0 (by omega), h 1 (by omega), h 2 (by omega), h 3 (by omega), h 4 (by omega), h 5 (by omega), h 6 (by omega), h 7 (by omega), h 8 (by omega), h 9 (by omega), h 10 (by omega), h 11 (by omega)]
  rcases (show k = 0 ∨ k = 1 ∨ k = 2 ∨ k = 3 ∨ k = 4 ∨ k = 5 by omega) with rfl | rfl | rfl | rfl | rfl | rfl <;> simp
theorem sl_h0 {N : Nat} {u : St} (hj : Jst N u) : sl (sS u) (nI 2) (nI 0) 12 = nI (hL u) := by
  rw [sl_cS hj, sm12]
  have h : ∀ i, i < 12 → (hkGr (nI 2) i = nI 0 ↔ i % 6 / 3 = 0) := fun i hi => by
    unfold hkGr; rw [if_neg (by decide), if_neg (by decide), if_pos (by decide)]; exact nI_eq (by omega) (by omega)
  refine congrArg nI ?_
  simp only [h 0 (by omega), h 1 (by omega), h 2 (by omega), h 3 (by omega), h 4 (by omega), h 5 (by omega), h 6 (by omega), h 7 (by omega), h 8 (by omega), h 9 (by omega), h 10 (by omega), h 11 (by omega)]
  simp [hL]
theorem sl_h1 {N : Nat} {u : St} (hj : Jst N u) : sl (sS u) (nI 2) (nI 1) 12 = nI (hR u) := by
  rw [sl_cS hj, sm12]
  have h : ∀ i, i < 12 → (hkGr (nI 2) i = nI 1 ↔ i % 6 / 3 = 1) := fun i hi => by
    unfold hkGr; rw [if_neg (by decide), if_neg (by decide), if_pos (by decide)]; exact nI_eq (by omega) (by omega)
  refine congrArg nI ?_
  simp only [h 0 (by omega), h 1 (by omega), h 2 (by omega), h 3 (by omega), h 4 (by omega), h 5 (by omega), h 6 (by omega), h 7 (by omega), h 8 (by omega), h 9 (by omega), h 10 (by omega), h 11 (by omega)]
  simp [hR]
theorem sl_a {N : Nat} {u : St} (hj : Jst N u) : sl (sS u) (nI 3) (nI 0) 12 = nI (sm (cS u) 12) := by
  rw [sl_cS hj]
  refine congrArg nI ?_
  exact sm_cong _ _ 12 (fun k _ => if_pos (by unfold hkGr; rw [if_neg (by decide), if_neg (by decide), if_neg (by decide)]; rfl))
theorem grk_ok {w x n : Nat} (hn : hkGs (nI w) = nI n) (hx9 : x < n) (hn2 : n < 100) : nI x < 0 ∨ ¬ nI x < hkGs (nI w) → False := fun q => q.elim (nI_pos (by omega)) (fun q => q (by rw [hn]; exact (nI_ltI (by omega) (by omega)).mpr hx9))
/-! refused calls -/
theorem ref_carry0 (hI : Inv g) : opCarry g (nI 5) (nI 0) = (1, 0, g) := by
  have hN : gN g ≤ 5 := hI.1
  rw [opCarry, if_pos (Or.inr (by rw [nI_clamp (by omega)]; exact hN))]
theorem ref_carry2 (hI : Inv g) (h0 : 0 < gN g) : opCarry g (nI 0) (nI 2) = (2, 0, g) := by
  have hN : gN g ≤ 5 := hI.1
  rw [opCarry, if_neg (bd_nI h0 (by omega)), if_pos (by decide)]
theorem ref_swap1 {x : Int32} (hx9 : x < 0) {y z : Int32} : opSwap g x y z = (1, 0, g) := by
  rw [opSwap, if_pos (Or.inl (Or.inl hx9))]
theorem ref_swap2 {x y z : Int32} (hy : bd y 12) : opSwap g x y z = (1, 0, g) := by
  rw [opSwap, if_pos (Or.inr (Or.inl hy))]
theorem ref_swap3 (hI : Inv g) (h0 : 0 < gN g) {x : Nat} (hx9 : x < 12) : opSwap g (nI 0) (nI x) (nI x) = (2, 0, g) := by
  have hN : gN g ≤ 5 := hI.1
  rw [opSwap, if_neg (fun q => q.elim (bd_nI h0 (by omega)) (fun q => q.elim (bd_nI hx9 (by omega)) (bd_nI hx9 (by omega)))), if_pos rfl]
theorem ref_saves (hI : Inv g) (h0 : 0 < gN g) {x : Nat} (hx9 : x < 12) : opSaves g (nI 0) (nI x) (nI x) = (2, 0, g) := by
  have hN : gN g ≤ 5 := hI.1
  rw [opSaves, if_neg (fun q => q.elim (bd_nI h0 (by omega)) (fun q => q.elim (bd_nI hx9 (by omega)) (bd_nI hx9 (by omega)))), if_pos rfl]
theorem ref_keyOf {x y : Int32} (hy : bd y 12) : opKeyOf g x y = (1, 0, g) := by rw [opKeyOf, if_pos (Or.inr hy)]
theorem ref_letterOn {x y : Int32} (hy : bd y 12) : opLetterOn g x y = (1, 0, g) := by rw [opLetterOn, if_pos (Or.inr hy)]
theorem ref_press1 {x y z : Int32} (hy : bd y 12) : opPress g x y z = (1, 0, g) := by rw [opPress, if_pos (Or.inr (Or.inl hy))]
theorem ref_press2 {x y z : Int32} (hy : bd z 12) : opPress g x y z = (1, 0, g) := by rw [opPress, if_pos (Or.inr (Or.inr hy))]
theorem ref_slips (hI : Inv g) (h0 : 0 < gN g) {y z : Int32} (h : z < 0 ∨ ¬ z < hkGs y) : opSlips g (nI 0) y z = (2, 0, g) := by
  have hN : gN g ≤ 5 := hI.1
  rw [opSlips, if_neg (bd_nI h0 (by omega)), if_pos h]
theorem ref_pair {x y z : Int32} (hy : bd y 12) : opPair g x y z = (1, 0, g) := by rw [opPair, if_pos (Or.inr (Or.inl hy))]
theorem ref_history {x y : Int32} (hy : y < 0) : opHistory g x y = (1, 0, g) := by rw [opHistory, if_pos (Or.inr hy)]
theorem ref_lesson {x y : Int32} (hy : bd y 100) : opLesson g x y = (1, 0, g) := by rw [opLesson, if_pos (Or.inr hy)]
theorem ref_draft {x : Int32} (hy : bd x 12) : opDraft g x = (1, 0, g) := by rw [opDraft, if_pos hy]
theorem ref_result (hI : Inv g) {y z : Int32} : opResult g (nI 6) y z = (1, 0, g) := by
  have hN : gc g ≤ 6 := hI.2.2.1
  rw [opResult, if_pos (Or.inl (Or.inr (by rw [nI_clamp (by omega)]; exact hN)))]
theorem ref_of {x y z : Int32} (hx9 : x < 0) : opOf g x y z = (1, 0, g) := by rw [opOf, if_pos (Or.inl (Or.inl hx9))]
theorem ref_ranked (hI : Inv g) {y : Int32} : opRanked g (nI 6) y = (1, 0, g) := by
  have hN : gc g ≤ 6 := hI.2.2.1
  rw [opRanked, if_pos (Or.inl (Or.inr (by rw [nI_clamp (by omega)]; exact hN)))]
theorem ref_best (hI : Inv g) : opBest g (nI 5) = (1, 0, g) := by
  have hN : gN g ≤ 5 := hI.1
  rw [opBest, if_pos (Or.inr (by rw [nI_clamp (by omega)]; exact hN))]
theorem ref_time {x : Int32} (hx9 : x < 0) : opTime g x = (1, 0, g) := by rw [opTime, if_pos (Or.inl hx9)]
/-! the states behind -/
theorem i_student (hI : Inv g) (h : gN g < 5) : Inv (gA g) := by
  have := inv_student hI; rw [e_student h] at this; exact this
theorem i_carry (hI : Inv g) (ha : a < gN g) {y : Nat} (hy : y < 2) : Inv (gU g a (wyU (gS g a) (nI y))) := by
  have := inv_carry hI (nI a) (nI y); rw [e_carry hI ha hy] at this; exact this
theorem i_swap (hI : Inv g) (ha : a < gN g) {x y : Nat} (hx9 : x < 12) (hy : y < 12) (hxy : x ≠ y) : Inv (gU g a (exU (gS g a) x y)) := by
  have := inv_swap hI (nI a) (nI x) (nI y); rw [e_swap hI ha hx9 hy hxy] at this; exact this
theorem i_press (hI : Inv g) (ha : a < gN g) {k x : Nat} (hk : k < 12) (hx9 : x < 12) : Inv (gU g a (tpU (gS g a) k x)) := by
  have := inv_press hI (nI a) (nI k) (nI x); rw [e_press hI ha hk hx9] at this; exact this
theorem i_draft (hI : Inv g) {k : Nat} (hk : k < 12) (hd : gd g < 24) : Inv (gDr g k) := by
  have := inv_draft hI (nI k); rw [e_draft hk hd] at this; exact this
theorem i_clear (hI : Inv g) : Inv (gCl g) := inv_clear hI
theorem i_contest (hI : Inv g) (hd : gd g ≠ 0) (hn : gN g ≠ 0) (hc : gc g < 6) : Inv (gB g) := by
  have := inv_contest hI; rw [e_contest hd hn hc] at this; exact this
theorem i_result (hI : Inv g) (hJ : ∀ c, Jco (gC g c)) {c j : Nat} (hc : c < gc g) (hj : j < cW (gC g c)) {t : Nat} (ht : 1 ≤ t) (ht2 : t ≤ 99999) (hh : cz (gC g c) j = 0) : Inv (gV g c (rsU (gC g c) j (nI t))) := by
  have := inv_result hI (nI c) (nI j) (nI t); rw [e_result hI hJ hc hj ht ht2 hh] at this; exact this
theorem jj_student {N : Nat} (hJ : Jg N g) : Jg N (gA g) := hJ
theorem jj_carry {N : Nat} (hJ : Jg N g) {y : Int32} : Jg N (gU g a (wyU (gS g a) y)) := jg_gU hJ (j_wy (hJ.1 a))
theorem jj_swap {N : Nat} (hI : Inv g) (hJ : Jg N g) {x y : Nat} (hx9 : x < 12) (hy : y < 12) (hxy : x ≠ y) : Jg N (gU g a (exU (gS g a) x y)) := jg_gU hJ (j_ex (hI.2.2.2.1 a) (hJ.1 a) hx9 hy hxy)
theorem jj_press {N : Nat} (hI : Inv g) (hJ : Jg N g) (hN : N ≤ 1000) {k x : Nat} (hk : k < 12) : Jg (N + 1) (gU g a (tpU (gS g a) k x)) := jg_gU (hJ.mono (by omega)) (j_tp (hI.2.2.2.1 a) (hJ.1 a) hN hk)
theorem jj_draft {N : Nat} (hJ : Jg N g) {k : Nat} : Jg N (gDr g k) := hJ
theorem jj_clear {N : Nat} (hJ : Jg N g) : Jg N (gCl g) := hJ
theorem jj_contest {N : Nat} (hJ : Jg N g) : Jg N (gB g) := ⟨hJ.1, fun c => by
  show Jco (va_up (gC g) (gc g) (newCo g) c)
  by_cases e : c = gc g
  · rw [e, va_up_self]; exact j_new g
  · rw [va_up_ne _ _ e]; exact hJ.2 c⟩
theorem jj_result {N : Nat} (hJ : Jg N g) {c j t : Nat} (ht2 : t ≤ 99999) : Jg N (gV g c (rsU (gC g c) j (nI t))) := jg_gV hJ (j_rs (hJ.2 c) ht2)
end ANS
