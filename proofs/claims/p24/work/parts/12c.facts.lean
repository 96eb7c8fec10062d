/-! what a student's and a contest's state keep besides -/
def cS (u : St) (k : Nat) : Nat := ix (sS u k)
def cP (u : St) (k : Nat) : Nat := ix (sP u k)
def nC (u : St) : Nat := ix (sC u)
def Jst (N : Nat) (u : St) : Prop := (∀ x, x < 12 → sL u (sK u x) = x) ∧ (∀ k, ¬ sS u k < 0) ∧ (∀ k, ¬ sP u k < 0) ∧ ¬ sC u < 0 ∧ nC u ≤ N ∧ sm (cS u) 12 ≤ nC u ∧ sm (cP u) 144 ≤ sm (cS u) 12 ∧ sm (cS u) 12 ≤ sm (cP u) 144 + 1 ∧ (sq u = 0 → sm (cS u) 12 = 0)
def Jco (v : Co) : Prop := ∀ j, ix (cZ v j) ≤ 99999
def Jg (N : Nat) (g : Sg) : Prop := (∀ i, Jst N (gS g i)) ∧ ∀ c, Jco (gC g c)
theorem ixI {x : Int32} (h : ¬ x < 0) : x = nI (ix x) ∧ ix x < 2 ^ 31 := by
  obtain ⟨j, h1, rfl⟩ := nI_of h
  rw [ix, nI_clamp h1]
  exact ⟨rfl, h1⟩
theorem ix_nI {n : Nat} (h : n < 2 ^ 31) : ix (nI n) = n := nI_clamp h
theorem cS_eq {N : Nat} {u : St} (h : Jst N u) (k : Nat) : sS u k = nI (cS u k) := (ixI (h.2.1 k)).1
theorem cP_eq {N : Nat} {u : St} (h : Jst N u) (k : Nat) : sP u k = nI (cP u k) := (ixI (h.2.2.1 k)).1
theorem nC_eq {N : Nat} {u : St} (h : Jst N u) : sC u = nI (nC u) := (ixI h.2.2.2.1).1
theorem cS_le {N : Nat} {u : St} (h : Jst N u) {k : Nat} (hk : k < 12) : cS u k ≤ sm (cS u) 12 := sm_get _ _ _ hk
theorem cP_le {N : Nat} {u : St} (h : Jst N u) {k : Nat} (hk : k < 144) : cP u k ≤ sm (cP u) 144 := sm_get _ _ _ hk
theorem Jst.mono {N M : Nat} {u : St} (h : Jst N u) (hN : N ≤ M) : Jst M u := ⟨h.1, h.2.1, h.2.2.1, h.2.2.2.1, Nat.le_trans h.2.2.2.2.1 hN, h.2.2.2.2.2⟩
theorem Jg.mono {N M : Nat} {g : Sg} (h : Jg N g) (hN : N ≤ M) : Jg M g := ⟨fun i => (h.1 i).mono hN, h.2⟩
theorem jst_0 (N : Nat) : Jst N st0 := by
  refine ⟨fun x hx9 => ?_, fun _ => (by decide : ¬ (0 : Int32) < 0), fun _ => (by decide : ¬ (0 : Int32) < 0), (by decide : ¬ (0 : Int32) < 0), Nat.zero_le N, (by decide), (by decide +kernel), (by decide +kernel), fun _ => (by decide +kernel)⟩
  show (if (if x < 12 then x else 0) < 12 then (if x < 12 then x else 0) else 0) = x
  rw [if_pos hx9, if_pos hx9]
theorem jg_0 (N : Nat) : Jg N g0 := ⟨fun _ => jst_0 N, fun _ _ => (by decide : (0 : Nat) ≤ 99999)⟩
theorem jg_gU {N : Nat} {g : Sg} {i : Nat} {u : St} (h : Jg N g) (hu : Jst N u) : Jg N (gU g i u) := by
  refine ⟨fun j => ?_, h.2⟩
  show Jst N (va_up (gS g) i u j)
  by_cases e : j = i
  · rw [e, va_up_self]; exact hu
  · rw [va_up_ne _ _ e]; exact h.1 j
theorem jg_gV {N : Nat} {g : Sg} {i : Nat} {v : Co} (h : Jg N g) (hv : Jco v) : Jg N (gV g i v) := by
  refine ⟨h.1, fun j => ?_⟩
  show Jco (va_up (gC g) i v j)
  by_cases e : j = i
  · rw [e, va_up_self]; exact hv
  · rw [va_up_ne _ _ e]; exact h.2 j
theorem j_wy {N : Nat} {u : St} {y : Int32} (h : Jst N u) : Jst N (wyU u y) := h
theorem KL_inj {u : St} (h : Ist u) {a b : Nat} (ha : a < 12) (hb : b < 12) (hab : a ≠ b) : sL u a ≠ sL u b := fun q => hab ((h.2.2.1 a ha).symm.trans ((congrArg (sK u) q).trans (h.2.2.1 b hb)))
/-- the keys behind a swap are those of the swap -/
theorem exK_swp {N : Nat} {u : St} (h : Ist u) (hj : Jst N u) {a b : Nat} (ha : a < 12) (hb : b < 12) (hab : a ≠ b) {x : Nat} (hx9 : x < 12) : exK (sK u) (sL u) a b x = swp a b (sK u x) := by
  have hLL := KL_inj h ha hb hab
  unfold exK swp
  by_cases e1 : x = sL u b
  · rw [if_pos e1, e1, h.2.2.1 b hb, if_neg (Ne.symm hab), if_pos rfl]
  · rw [if_neg e1]
    by_cases e2 : x = sL u a
    · rw [if_pos e2, e2, h.2.2.1 a ha, if_pos rfl]
    · have f1 : sK u x ≠ a := fun q => e2 (by rw [← q, hj.1 x hx9])
      have f2 : sK u x ≠ b := fun q => e1 (by rw [← q, hj.1 x hx9])
      rw [if_neg e2, if_neg f1, if_neg f2]
theorem exS_sm {N : Nat} {u : St} (hj : Jst N u) {a b : Nat} (ha : a < 12) (hb : b < 12) (hab : a ≠ b) : (∀ k, ¬ exS (sS u) (sY u) a b k < 0) ∧ sm (fun k => ix (exS (sS u) (sY u) a b k)) 12 = sm (cS u) 12 := by
  unfold exS
  by_cases hY : sY u = nI 1
  · rw [if_pos hY]
    refine ⟨fun k => ?_, ?_⟩
    · show ¬ (if k = b then sS u a else if k = a then sS u b else sS u k) < 0
      split
      · exact hj.2.1 a
      · split
        · exact hj.2.1 b
        · exact hj.2.1 k
    · have h1 := sm_up (cS u) a (cS u b) 12 ha
      have h2 : sm (fun k => if k = b then cS u a else if k = a then cS u b else cS u k) 12 + (if b = a then cS u b else cS u b) = sm (fun k => if k = a then cS u b else cS u k) 12 + cS u a := sm_up (fun k => if k = a then cS u b else cS u k) b (cS u a) 12 hb
      have h4 : sm (fun k => ix (upd (upd (sS u) a (sS u b)) b (sS u a) k)) 12 = sm (fun k => if k = b then cS u a else if k = a then cS u b else cS u k) 12 := sm_cong _ _ 12 (fun k _ => by
        show ix (if k = b then sS u a else if k = a then sS u b else sS u k) = if k = b then ix (sS u a) else if k = a then ix (sS u b) else ix (sS u k)
        split
        · rfl
        · split <;> rfl)
      rw [if_neg (Ne.symm hab)] at h2
      rw [h4]
      omega
  · rw [if_neg hY]
    exact ⟨hj.2.1, rfl⟩
theorem j_ex {N : Nat} {u : St} (h : Ist u) (hj : Jst N u) {a b : Nat} (ha : a < 12) (hb : b < 12) (hab : a ≠ b) : Jst N (exU u a b) := by
  obtain ⟨h1, h2, h3, h4, h5, h6, h7, h8, h9⟩ := id hj
  obtain ⟨s1, s2⟩ := exS_sm hj ha hb hab
  have s3 : sm (cS (exU u a b)) 12 = sm (cS u) 12 := s2
  refine ⟨fun x hx9 => ?_, s1, h3, h4, h5, by rw [s3]; exact h6, by rw [s3]; exact h7, by rw [s3]; exact h8, by rw [s3]; exact h9⟩
  show exL (sL u) a b (exK (sK u) (sL u) a b x) = x
  have hLL := KL_inj h ha hb hab
  unfold exK exL
  by_cases e1 : x = sL u b
  · rw [if_pos e1, if_neg hab, if_pos rfl, e1]
  · rw [if_neg e1]
    by_cases e2 : x = sL u a
    · rw [if_pos e2, if_pos rfl, e2]
    · have f1 : sK u x ≠ a := fun q => e2 (by rw [← q, h1 x hx9])
      have f2 : sK u x ≠ b := fun q => e1 (by rw [← q, h1 x hx9])
      rw [if_neg e2, if_neg f2, if_neg f1, h1 x hx9]
theorem up1 {S : Nat → Int32} {a : Nat} {n B : Nat} (hS : ∀ k, ¬ S k < 0) (hB : ix (S a) ≤ B) (hB2 : B < 2 ^ 30) (ha : a < n) : (∀ k, ¬ upd S a (S a + nI 1) k < 0) ∧ sm (fun k => ix (upd S a (S a + nI 1) k)) n = sm (fun k => ix (S k)) n + 1 := by
  have h1 : S a + nI 1 = nI (ix (S a) + 1) := by
    rw [(ixI (hS a)).1, nI_add, ix_nI (ixI (hS a)).2]
  have h2 : ¬ S a + nI 1 < 0 := by rw [h1]; exact nI_pos (by omega)
  refine ⟨fun k => ?_, ?_⟩
  · show ¬ (if k = a then S a + nI 1 else S k) < 0
    split
    · exact h2
    · exact hS k
  · have h3 : sm (fun k => if k = a then ix (S a) + 1 else ix (S k)) n + ix (S a) = sm (fun k => ix (S k)) n + (ix (S a) + 1) := sm_up (fun k => ix (S k)) a (ix (S a) + 1) n ha
    have h4 : sm (fun k => ix (upd S a (S a + nI 1) k)) n = sm (fun k => if k = a then ix (S a) + 1 else ix (S k)) n := sm_cong _ _ n (fun k _ => by
      show ix (if k = a then S a + nI 1 else S k) = if k = a then ix (S a) + 1 else ix (S k)
      split
      · rw [h1, ix_nI (by omega)]
      · rfl)
    rw [h4]
    omega
theorem j_tp {N : Nat} {u : St} (h : Ist u) (hj : Jst N u) (hN : N ≤ 1000) {a b : Nat} (ha : a < 12) : Jst (N + 1) (tpU u a b) := by
  obtain ⟨h1, h2, h3, h4, h5, h6, h7, h8, h9⟩ := id hj
  have hC : sC u + nI 1 = nI (nC u + 1) := by
    rw [(ixI h4).1, nI_add]; rfl
  have hC1 : ¬ sC (tpU u a b) < 0 := by
    show ¬ sC u + nI 1 < 0
    rw [hC]; exact nI_pos (by omega)
  have hC2 : nC (tpU u a b) = nC u + 1 := by
    show ix (sC u + nI 1) = _
    rw [hC, ix_nI (by omega)]
  have hq : sq (tpU u a b) ≠ 0 := by
    show kpN (sq u) ≠ 0
    unfold kpN
    split <;> omega
  have hKa := h.1 a ha
  have hT := h.2.2.2.2.1 (sq u - 1)
  have b1 : ix (sS u (sK u a)) ≤ N := Nat.le_trans (cS_le hj hKa) (by omega)
  have b2 : ix (sP u (12 * sT u (sq u - 1) + a)) ≤ N := Nat.le_trans (cP_le hj (k := 12 * sT u (sq u - 1) + a) (by omega)) (by omega)
  by_cases e1 : sK u a = b
  · have eS : sS (tpU u a b) = sS u := if_pos e1
    have eP : sP (tpU u a b) = sP u := if_pos (Or.inl e1)
    have fS : cS (tpU u a b) = cS u := by unfold cS; rw [eS]
    have fP : cP (tpU u a b) = cP u := by unfold cP; rw [eP]
    exact ⟨h1, by rw [eS]; exact h2, by rw [eP]; exact h3, hC1, by rw [hC2]; omega, by rw [hC2, fS]; omega, by rw [fS, fP]; exact h7, by rw [fS, fP]; exact h8, fun q => absurd q hq⟩
  · have eS : sS (tpU u a b) = upd (sS u) (sK u a) (sS u (sK u a) + nI 1) := if_neg e1
    obtain ⟨s1, s2⟩ := up1 (n := 12) h2 b1 (by omega) hKa
    have fS : sm (cS (tpU u a b)) 12 = sm (cS u) 12 + 1 := by unfold cS; rw [eS]; exact s2
    by_cases e2 : sq u = 0
    · have eP : sP (tpU u a b) = sP u := if_pos (Or.inr e2)
      have fP : cP (tpU u a b) = cP u := by unfold cP; rw [eP]
      have h10 := h9 e2
      exact ⟨h1, by rw [eS]; exact s1, by rw [eP]; exact h3, hC1, by rw [hC2]; omega, by rw [hC2, fS]; omega, by rw [fS, fP]; omega, by rw [fS, fP]; omega, fun q => absurd q hq⟩
    · have eP : sP (tpU u a b) = upd (sP u) (12 * sT u (sq u - 1) + a) (sP u (12 * sT u (sq u - 1) + a) + nI 1) := if_neg (fun q => q.elim e1 e2)
      obtain ⟨t1, t2⟩ := up1 (n := 144) h3 b2 (by omega) (by omega)
      have fP : sm (cP (tpU u a b)) 144 = sm (cP u) 144 + 1 := by unfold cP; rw [eP]; exact t2
      exact ⟨h1, by rw [eS]; exact s1, by rw [eP]; exact t1, hC1, by rw [hC2]; omega, by rw [hC2, fS]; omega, by rw [fS, fP]; omega, by rw [fS, fP]; omega, fun q => absurd q hq⟩
theorem j_new (g : Sg) : Jco (newCo g) := fun _ => (by decide : (0 : Nat) ≤ 99999)
theorem j_rs {v : Co} {j n : Nat} (h : Jco v) (hn : n ≤ 99999) : Jco (rsU v j (nI n)) := fun k => by
  show ix (if k = j then nI n else cZ v k) ≤ 99999
  split
  · rw [ix_nI (by omega)]; exact hn
  · exact h k
/-! times, swaps, the best one -/
def tZ (u : St) : Nat := tt (gk (sK u) (sT u)) (sq u)
def sZ (u : St) (a b : Nat) : Int := (tZ u : Int) - (tt (gs (sK u) (sT u) a b) (sq u) : Int)
theorem tZ_le {u : St} (h : Ist u) : tZ u ≤ 210 := by
  have := tt_le (gk (sK u) (sT u)) (sq u)
  have := h.2.2.2.1
  unfold tZ
  omega
theorem sZ_b {u : St} (h : Ist u) (a b : Nat) : -300 < sZ u a b ∧ sZ u a b < 300 := by
  have := tZ_le h
  have := tt_le (gs (sK u) (sT u) a b) (sq u)
  have := h.2.2.2.1
  unfold sZ
  omega
theorem sv_sZ {u : St} (h : Ist u) (a b : Nat) : (sv (sK u) (sT u) (sq u) a b).toInt = sZ u a b := by
  have h1 := tt_le (gk (sK u) (sT u)) (sq u)
  have h2 := tt_le (gs (sK u) (sT u) a b) (sq u)
  have h3 := h.2.2.2.1
  exact pk_sub_toInt (by omega) (by omega)
theorem swp_comm (a b x : Nat) : swp a b x = swp b a x := by
  unfold swp
  by_cases h1 : x = a
  · rw [if_pos h1]
    by_cases h2 : x = b
    · rw [if_pos h2, ← h1, ← h2]
    · rw [if_neg h2, if_pos h1]
  · rw [if_neg h1]
    by_cases h2 : x = b
    · rw [if_pos h2, if_pos h2]
    · rw [if_neg h2, if_neg h2, if_neg h1]
theorem sZ_comm (u : St) (a b : Nat) : sZ u a b = sZ u b a := by
  unfold sZ gs
  rw [show (fun p => swp a b (sK u (sT u p))) = fun p => swp b a (sK u (sT u p)) from funext (fun p => swp_comm _ _ _)]
theorem tZ_ex {N : Nat} {u : St} (h : Ist u) (hj : Jst N u) {a b : Nat} (ha : a < 12) (hb : b < 12) (hab : a ≠ b) : (tZ (exU u a b) : Int) = (tZ u : Int) - sZ u a b := by
  have e : gk (exK (sK u) (sL u) a b) (sT u) = gs (sK u) (sT u) a b := funext (fun p => exK_swp h hj ha hb hab (h.2.2.2.2.1 p))
  have e2 : tZ (exU u a b) = tt (gs (sK u) (sT u) a b) (sq u) := by
    show tt (gk (exK (sK u) (sL u) a b) (sT u)) (sq u) = _
    rw [e]
  rw [e2]
  unfold sZ
  omega
def bI (u : St) : Int := (bs (sK u) (sT u) (sq u) 144).1.toInt
def mI (u : St) : Int := (bs (sK u) (sT u) (sq u) 144).2.toInt
theorem bs_spec {u : St} (h : Ist u) : ∀ n, n ≤ 144 → ((bs (sK u) (sT u) (sq u) n).1 = -1 ∧ (bs (sK u) (sT u) (sq u) n).2 = 0 ∨ ∃ j, j < n ∧ j / 12 < j % 12 ∧ (bs (sK u) (sT u) (sq u) n).1 = nI j ∧ (bs (sK u) (sT u) (sq u) n).2 = sv (sK u) (sT u) (sq u) (j / 12) (j % 12) ∧ 0 < (bs (sK u) (sT u) (sq u) n).2.toInt) ∧
    ∀ k, k < n → k / 12 < k % 12 → sZ u (k / 12) (k % 12) ≤ (bs (sK u) (sT u) (sq u) n).2.toInt ∧ (sZ u (k / 12) (k % 12) < (bs (sK u) (sT u) (sq u) n).2.toInt ∨ (bs (sK u) (sT u) (sq u) n).1 = -1 ∨ (bs (sK u) (sT u) (sq u) n).1.toInt ≤ (k : Int))
  | 0 => fun _ => ⟨Or.inl ⟨rfl, rfl⟩, fun k hk => absurd hk (Nat.not_lt_zero k)⟩
  | n + 1 => fun hn => by
    obtain ⟨h1, h2⟩ := bs_spec h n (by omega)
    have hz0 : (0 : Int32).toInt = 0 := rfl
    rw [bs]
    by_cases e : n / 12 < n % 12 ∧ (bs (sK u) (sT u) (sq u) n).2 < sv (sK u) (sT u) (sq u) (n / 12) (n % 12)
    · rw [if_pos e]
      have e2 := Int32.lt_iff_toInt_lt.mp e.2
      have h0 : 0 ≤ (bs (sK u) (sT u) (sq u) n).2.toInt := by
        rcases h1 with h1 | ⟨j, -, -, -, -, h1⟩
        · rw [h1.2]; decide
        · omega
      have hsz := sv_sZ h (n / 12) (n % 12)
      refine ⟨Or.inr ⟨n, by omega, e.1, rfl, rfl, ?_⟩, fun k hk hk2 => ?_⟩
      · show 0 < (sv (sK u) (sT u) (sq u) (n / 12) (n % 12)).toInt
        omega
      · show sZ u (k / 12) (k % 12) ≤ (sv (sK u) (sT u) (sq u) (n / 12) (n % 12)).toInt ∧ (sZ u (k / 12) (k % 12) < (sv (sK u) (sT u) (sq u) (n / 12) (n % 12)).toInt ∨ nI n = -1 ∨ (nI n).toInt ≤ (k : Int))
        by_cases e3 : k = n
        · subst e3
          refine ⟨by omega, Or.inr (Or.inr ?_)⟩
          rw [nI_toInt (by omega)]
          exact Int.le_refl _
        · have h3 := (h2 k (by omega) hk2).1
          exact ⟨by omega, Or.inl (by omega)⟩
    · rw [if_neg e]
      refine ⟨?_, fun k hk hk2 => ?_⟩
      · rcases h1 with h1 | ⟨j, a1, a2⟩
        · exact Or.inl h1
        · exact Or.inr ⟨j, by omega, a2⟩
      · by_cases e3 : k = n
        · subst e3
          have hsz := sv_sZ h (k / 12) (k % 12)
          have e4 : ¬ (bs (sK u) (sT u) (sq u) k).2.toInt < (sv (sK u) (sT u) (sq u) (k / 12) (k % 12)).toInt := fun q => e ⟨hk2, Int32.lt_iff_toInt_lt.mpr q⟩
          refine ⟨by omega, ?_⟩
          rcases h1 with h1 | ⟨j, a1, a2, a3, a4⟩
          · exact Or.inr (Or.inl h1.1)
          · refine Or.inr (Or.inr ?_)
            rw [a3, nI_toInt (by omega)]
            omega
        · exact h2 k (by omega) hk2
theorem best_ok {u : St} (h : Ist u) : (bI u = -1 ∧ mI u = 0 ∨ ∃ j : Nat, j < 144 ∧ j / 12 < j % 12 ∧ bI u = (j : Int) ∧ mI u = sZ u (j / 12) (j % 12) ∧ 0 < mI u) ∧
    ∀ k : Nat, k < 144 → k / 12 < k % 12 → sZ u (k / 12) (k % 12) ≤ mI u ∧ (sZ u (k / 12) (k % 12) < mI u ∨ bI u < 0 ∨ bI u ≤ (k : Int)) := by
  obtain ⟨h1, h2⟩ := bs_spec h 144 (Nat.le_refl _)
  refine ⟨?_, fun k hk hk2 => ?_⟩
  · rcases h1 with ⟨a1, a2⟩ | ⟨j, a1, a2, a3, a4, a5⟩
    · exact Or.inl ⟨by unfold bI; rw [a1]; rfl, by unfold mI; rw [a2]; rfl⟩
    · refine Or.inr ⟨j, a1, a2, by unfold bI; rw [a3, nI_toInt (by omega)], by unfold mI; rw [a4, sv_sZ h], a5⟩
  · obtain ⟨b1, b2⟩ := h2 k hk hk2
    refine ⟨b1, ?_⟩
    rcases b2 with b2 | b2 | b2
    · exact Or.inl b2
    · refine Or.inr (Or.inl ?_)
      unfold bI
      rw [b2]; decide
    · exact Or.inr (Or.inr b2)
theorem mI_b {u : St} (h : Ist u) : 0 ≤ mI u ∧ mI u < 300 := by
  rcases (best_ok h).1 with ⟨a1, a2⟩ | ⟨j, a1, a2, a3, a4, a5⟩
  · omega
  · have := sZ_b h (j / 12) (j % 12); omega
theorem bI_b {u : St} (h : Ist u) : -1 ≤ bI u ∧ bI u < 144 := by
  rcases (best_ok h).1 with ⟨a1, a2⟩ | ⟨j, a1, a2, a3, a4, a5⟩ <;> omega
theorem bs_0 (K T : Nat → Nat) : ∀ n, bs K T 0 n = (-1, 0)
  | 0 => rfl
  | n + 1 => by
    rw [bs, bs_0 K T n]
    exact if_neg (fun h => absurd h.2 (by show ¬ (0 : Int32) < nI 0 - nI 0; decide))
/-! lessons -/
def sLs (u : St) : Nat → Int32 := fun x => sS u (sK u x)
def les (u : St) (z : Nat) : Nat := ix (lf (lsn u z) 0 12)
theorem les_ok (u : St) {z : Nat} (hz : z < 12) : lf (lsn u z) 0 12 = nI (les u z) ∧ les u z < 12 ∧ rnk (fun _ => true) (Bla (sLs u)) (les u z) 12 = z := by
  obtain ⟨l, h1, -, h3⟩ := rnk_surj (h := fun _ => true) (sord_la (sLs u)) 12 z (by rw [cnt_true]; exact hz)
  obtain ⟨j, h4, h5, h6⟩ := lf_spec (lsn u z) 0 12 ⟨l, h1, decide_eq_true (by rw [← h3]; exact la_rnk _ _ _)⟩
  have h7 : les u z = j := by unfold les; rw [h6]; exact ix_nI (by omega)
  rw [h7]
  refine ⟨h6, h4, ?_⟩
  rw [← la_rnk]
  exact of_decide_eq_true h5
theorem les_ne (u : St) {y z : Nat} (hy : y < 12) (hz : z < 12) (h : y ≠ z) : les u y ≠ les u z := fun q => by
  have h1 := (les_ok u hy).2.2
  have h2 := (les_ok u hz).2.2
  rw [q] at h1
  omega
theorem Bla_cS {N : Nat} {u : St} (hj : Jst N u) {r l : Nat} (h : Bla (sLs u) r l = true) : cS u (sK u l) ≤ cS u (sK u r) := by
  have h1 := of_decide_eq_true h
  have e1 : sLs u l = nI (cS u (sK u l)) := cS_eq hj _
  have e2 : sLs u r = nI (cS u (sK u r)) := cS_eq hj _
  have b1 : cS u (sK u l) < 2 ^ 31 := (ixI (hj.2.1 _)).2
  have b2 : cS u (sK u r) < 2 ^ 31 := (ixI (hj.2.1 _)).2
  rw [e1, e2, nI_ltI b1 b2, nI_eq b2 b1] at h1
  omega
theorem les_le {N : Nat} {u : St} (hj : Jst N u) {y z : Nat} (hy : y < z) (hz : z < 12) : cS u (sK u (les u z)) ≤ cS u (sK u (les u y)) := by
  obtain ⟨-, h1, h2⟩ := les_ok u (z := y) (by omega)
  obtain ⟨-, h3, h4⟩ := les_ok u hz
  exact Bla_cS hj (rnk_ahead (h := fun _ => true) (sord_la _) h3 rfl (by rw [h2, h4]; exact hy))
theorem les_least {N : Nat} {u : St} (hj : Jst N u) {k : Nat} (hk : k < 12) (h0 : k ≠ les u 0) (h1 : k ≠ les u 1) (h2 : k ≠ les u 2) : cS u (sK u k) ≤ cS u (sK u (les u 2)) := by
  have inj : ∀ z, z < 12 → rnk (fun _ => true) (Bla (sLs u)) k 12 = z → k = les u z := fun z hz q => by
    obtain ⟨-, b1, b2⟩ := les_ok u hz
    exact rnk_inj (h := fun _ => true) (sord_la _) hk b1 rfl rfl (q.trans b2.symm)
  obtain ⟨-, b1, b2⟩ := les_ok u (z := 2) (by omega)
  refine Bla_cS hj (rnk_ahead (h := fun _ => true) (sord_la _) hk rfl ?_)
  rw [b2]
  have c0 : rnk (fun _ => true) (Bla (sLs u)) k 12 ≠ 0 := fun q => h0 (inj 0 (by omega) q)
  have c1 : rnk (fun _ => true) (Bla (sLs u)) k 12 ≠ 1 := fun q => h1 (inj 1 (by omega) q)
  have c2 : rnk (fun _ => true) (Bla (sLs u)) k 12 ≠ 2 := fun q => h2 (inj 2 (by omega) q)
  omega
/-! contests -/
def cz (v : Co) (j : Nat) : Nat := ix (cZ v j)
def hz (v : Co) : Nat → Bool := hasZ (cZ v)
def sc (v : Co) (j : Nat) : Nat := 1000 * cz v j / cX v j
def rkC (v : Co) (j : Nat) : Nat := rk (cX v) (cZ v) j 5
def tol (v : Co) (n : Nat) : Nat := cnt (hz v) n
theorem cz_eq {v : Co} (h : Ico v) (j : Nat) : cZ v j = nI (cz v j) := (ixI (h.2.2.2 j)).1
theorem hz_iff {v : Co} (h : Ico v) (j : Nat) : hz v j = true ↔ 0 < cz v j := by
  have b : cz v j < 2 ^ 31 := (ixI (h.2.2.2 j)).2
  unfold hz hasZ
  rw [decide_eq_true_eq, cz_eq h j, show (0 : Int32) = nI 0 from rfl, nI_ltI (by omega) b]
theorem hz_0 {v : Co} (h : Ico v) (j : Nat) (hj : cW v ≤ j) : hz v j = false := by
  unfold hz hasZ
  rw [(h.2.2.1 j hj).2]; rfl
theorem tol_5 {v : Co} (h : Ico v) : cnt (hz v) 5 = tol v (cW v) := by
  have h1 := cnt_ext (hz v) (cW v) (fun j hj => hz_0 h j hj) (5 - cW v)
  have h2 := h.1
  rw [show cW v + (5 - cW v) = 5 by omega] at h1
  exact h1
theorem rkC_rnk (v : Co) (j : Nat) : rkC v j = rnk (hz v) (Brk (scr (cX v) (cZ v))) j 5 := rk_rnk _ _ _ _
theorem scq {v : Co} (h : Ico v) (hj : Jco v) {j : Nat} (hw : j < cW v) : scr (cX v) (cZ v) j = nI (sc v j) := by
  obtain ⟨x1, x2⟩ := h.2.1 j hw
  have c1 : cz v j ≤ 99999 := hj j
  have e : scr (cX v) (cZ v) j = nI 1000 * cZ v j / nI (cX v j) := rfl
  rw [e, cz_eq h j, show nI 1000 * nI (cz v j) = nI (1000 * cz v j) from (Int32.ofNat_mul 1000 (cz v j)).symm]
  unfold sc
  exact pk_div (by omega) (by omega) (by omega)
theorem sc_le {v : Co} (h : Ico v) (hj : Jco v) {j : Nat} (hw : j < cW v) : sc v j ≤ 99999000 := by
  have c1 : cz v j ≤ 99999 := hj j
  unfold sc
  exact Nat.le_trans (Nat.div_le_self _ _) (by omega)
/-- of two that have results, the lower rank has the lower score, or the same and the lower number -/
theorem rk_ord {v : Co} (h : Ico v) (hj : Jco v) {i j : Nat} (hi : i < cW v) (hj2 : j < cW v) (h1 : 0 < cz v i) (h2 : 0 < cz v j) (e : rkC v i < rkC v j) : sc v i < sc v j ∨ sc v i = sc v j ∧ i < j := by
  have h5 := h.1
  rw [rkC_rnk, rkC_rnk] at e
  have b := of_decide_eq_true (rnk_ahead (sord_rk _) (show j < 5 by omega) ((hz_iff h j).mpr h2) e)
  have s1 := sc_le h hj hi
  have s2 := sc_le h hj hj2
  rw [scq h hj hi, scq h hj hj2, nI_ltI (by omega) (by omega), nI_eq (by omega) (by omega)] at b
  exact b
theorem rk_holder {v : Co} (h : Ico v) {r : Nat} (hr : r < tol v (cW v)) : ∃ j, j < cW v ∧ 0 < cz v j ∧ rkC v j = r := by
  obtain ⟨l, h1, h2, h3⟩ := rnk_surj (h := hz v) (sord_rk (scr (cX v) (cZ v))) 5 r (by rw [tol_5 h]; exact hr)
  refine ⟨l, ?_, (hz_iff h l).mp h2, by rw [rkC_rnk]; exact h3⟩
  by_cases q : l < cW v
  · exact q
  · rw [hz_0 h l (by omega)] at h2; cases h2
theorem rk_lt {v : Co} (h : Ico v) {j : Nat} (hw : j < cW v) (h1 : 0 < cz v j) : rkC v j < tol v (cW v) := by
  have h5 := h.1
  rw [rkC_rnk, ← tol_5 h]
  exact rnk_lt (sord_rk _) ((hz_iff h j).mpr h1) 5 (by omega)
theorem fi_holder {v : Co} (h : Ico v) {j : Nat} (hw : j < cW v) (h1 : 0 < cz v j) : fi (rkd v (nI (rkC v j))) 5 0 = nI j := by
  have h5 := h.1
  have hr : ∀ i, rkC v i ≤ 5 := fun i => rk_le _ _ _ _
  have key : ∀ i, rkd v (nI (rkC v j)) i = true → i < 5 → i = j := fun i q hi => by
    obtain ⟨q1, q2⟩ := of_decide_eq_true q
    have q3 : nI (rkC v i) = nI (rkC v j) := q2
    have r1 := hr i
    have r2 := hr j
    rw [nI_eq (by omega) (by omega), rkC_rnk, rkC_rnk] at q3
    exact rnk_inj (sord_rk _) hi (by omega) (decide_eq_true q1) ((hz_iff h j).mpr h1) q3
  obtain ⟨i, a1, a2, a3, a4⟩ := fi_spec (rkd v (nI (rkC v j))) 5 0 ⟨j, by omega, by omega, decide_eq_true ⟨of_decide_eq_true ((hz_iff h j).mpr h1), rfl⟩⟩
  rw [a4, key i a3 (by omega)]
theorem fi_nobody {v : Co} (h : Ico v) : fi (rkd v (nI (tol v (cW v)))) 5 0 = -1 := by
  have h5 := h.1
  have ht : tol v (cW v) ≤ 5 := Nat.le_trans (cnt_le _ _) h5
  refine fi_none _ 5 0 (fun j h1 h2 => decide_eq_false (fun q => ?_))
  obtain ⟨q1, q2⟩ := q
  have q3 : nI (rkC v j) = nI (tol v (cW v)) := q2
  have r1 : rkC v j ≤ 5 := rk_le _ _ _ _
  rw [nI_eq (by omega) (by omega)] at q3
  have hj : hz v j = true := decide_eq_true q1
  have hw : j < cW v := by
    by_cases q : j < cW v
    · exact q
    · rw [hz_0 h j (by omega)] at hj; cases hj
  have := rk_lt h hw ((hz_iff h j).mp hj)
  omega
