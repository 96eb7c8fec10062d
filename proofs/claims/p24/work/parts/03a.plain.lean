/-! plain facts: reads within a row, keys, times -/
def hkAt (N : Nat) (f : Nat → Int32) (x : Int32) : Int32 := if x < 0 ∨ N ≤ x.toNatClampNeg then 0 else f x.toNatClampNeg
theorem hkAt_in {N : Nat} {f : Nat → Int32} {j : Nat} (h : j < N) (hN : N < 2 ^ 31) : hkAt N f (nI j) = f j := by
  unfold hkAt
  rw [if_neg (nI_in h hN), nI_clamp (by omega)]
theorem hk_ix {x : Int32} {N : Nat} (hN : N < 2 ^ 31) (h1 : ¬ x < 0) (h2 : ¬ nI N ≤ x) : ∃ j, j < N ∧ x = nI j := by
  obtain ⟨j, h3, h4, -⟩ := pk_mu h1 h2 hN
  exact ⟨j, h3, h4⟩
theorem hkAt_out {N : Nat} {f : Nat → Int32} {x : Int32} (hN : N < 2 ^ 31) (h : x < 0 ∨ nI N ≤ x) : hkAt N f x = 0 := by
  unfold hkAt
  rw [if_pos]
  rcases h with h | h
  · exact Or.inl h
  · by_cases h0 : x < 0
    · exact Or.inl h0
    · refine Or.inr ?_
      obtain ⟨j, h3, rfl⟩ := nI_of h0
      rw [nI_clamp h3]
      exact (nI_leI hN h3).mp h
theorem hk_lt_of {x : Int32} {N j : Nat} (hN : N < 2 ^ 31) (h1 : ¬ x < 0) (h2 : x < nI N) : ∃ j, j < N ∧ x = nI j := by
  obtain ⟨j, h3, rfl⟩ := nI_of h1
  exact ⟨j, (nI_ltI h3 hN).mp h2, rfl⟩
/-- out of range, as a program asks it -/
abbrev bd (x : Int32) (n : Nat) : Prop := x < 0 ∨ n ≤ x.toNatClampNeg
theorem bd_nI {j n : Nat} (h : j < n) (hn : n < 2 ^ 31) : ¬ bd (nI j) n := nI_in h hn
theorem bd_of {x : Int32} {n : Nat} (hn : n < 2 ^ 31) (h : ¬ bd x n) : ∃ j, j < n ∧ x = nI j := vp_in_of h hn
theorem bd_lt {x : Int32} {n : Nat} (h : x < 0) : bd x n := Or.inl h
theorem bd_ge {x : Int32} {n : Nat} (hn : n < 2 ^ 31) (h : nI n ≤ x) : bd x n := by
  by_cases h0 : x < 0
  · exact Or.inl h0
  · refine Or.inr ?_
    obtain ⟨j, h3, rfl⟩ := nI_of h0
    rw [nI_clamp h3]
    exact (nI_leI hn h3).mp h
/-- the time from a key to a key -/
def stp (a b : Nat) : Nat := if a = b then 3 else if a % 6 = b % 6 then 7 else if a % 6 / 3 = b % 6 / 3 then 4 else 2
theorem hk_abs : ∀ a, a < 12 → ∀ b, b < 12 → ¬ a = b → a % 6 = b % 6 → (if (0 : Int32) ≤ nI (a / 6) - nI (b / 6) then nI (a / 6) - nI (b / 6) else 0 - (nI (a / 6) - nI (b / 6))) = nI 1 := by decide +kernel
def hkSw (k one other : Int32) : Int32 := if k = one then other else if k = other then one else k
/-- the time of a text -/
def tt (g : Nat → Nat) : Nat → Nat
  | 0 => 0
  | 1 => 2
  | n + 2 => tt g (n + 1) + stp (g n) (g (n + 1))
theorem tt_1 (g : Nat → Nat) : tt g 1 = 2 := by rw [tt]
theorem tt_2 (g : Nat → Nat) (n : Nat) : tt g (n + 2) = tt g (n + 1) + stp (g n) (g (n + 1)) := by rw [tt]
