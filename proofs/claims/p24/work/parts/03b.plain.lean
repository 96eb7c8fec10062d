/-! what a student's and a contest's methods answer, in plain words -/
def swp (a b x : Nat) : Nat := if x = a then b else if x = b then a else x
theorem swp_lt {a b x n : Nat} (ha : a < n) (hb : b < n) (hx : x < n) : swp a b x < n := by
  unfold swp
  split
  · exact hb
  · split
    · exact ha
    · exact hx
theorem hkSw_nI {a b x : Nat} (ha : a < 12) (hb : b < 12) (hx : x < 12) : hkSw (nI x) (nI a) (nI b) = nI (swp a b x) := by
  unfold hkSw swp
  by_cases h1 : x = a
  · rw [if_pos (by rw [h1]), if_pos h1]
  · rw [if_neg (fun q => h1 ((nI_eq (by omega) (by omega)).mp q)), if_neg h1]
    by_cases h2 : x = b
    · rw [if_pos (by rw [h2]), if_pos h2]
    · rw [if_neg (fun q => h2 ((nI_eq (by omega) (by omega)).mp q)), if_neg h2]
theorem hkSw_m1 {x : Nat} (hx : x < 12) : hkSw (nI x) (-1) (-1) = nI x := by
  have h : ∀ x, x < 12 → hkSw (nI x) (-1) (-1) = nI x := by decide +kernel
  exact h x hx
/-- the keys of the history, two keys swapped -/
def gk (K T : Nat → Nat) : Nat → Nat := fun p => K (T p)
def gs (K T : Nat → Nat) (a b : Nat) : Nat → Nat := fun p => swp a b (K (T p))
/-- what a swap saves -/
def sv (K T : Nat → Nat) (q a b : Nat) : Int32 := nI (tt (gk K T) q) - nI (tt (gs K T a b) q)
/-- the best swap of those below k (12 times a key and another one), and what it saves -/
def bs (K T : Nat → Nat) (q : Nat) : Nat → Int32 × Int32
  | 0 => (-1, 0)
  | k + 1 => if k / 12 < k % 12 ∧ (bs K T q k).2 < sv K T q (k / 12) (k % 12) then (nI k, sv K T q (k / 12) (k % 12)) else bs K T q k
theorem bs_skip (K T : Nat → Nat) (q k : Nat) (hk : k < 12) : ∀ j, j ≤ k + 1 → bs K T q (12 * k + j) = bs K T q (12 * k) := by
  intro j
  induction j with
  | zero => intro _; rfl
  | succ j ih =>
    intro hj
    show bs K T q ((12 * k + j) + 1) = _
    rw [bs, if_neg (by intro h; have h1 := h.1; omega)]
    exact ih (by omega)
theorem bs_step (K T : Nat → Nat) (q k j : Nat) (hj : j < 12) (h : k < j) : bs K T q (12 * k + j + 1) = if (bs K T q (12 * k + j)).2 < sv K T q k j then (nI (12 * k + j), sv K T q k j) else bs K T q (12 * k + j) := by
  rw [bs]
  have h1 : (12 * k + j) / 12 = k := by omega
  have h2 : (12 * k + j) % 12 = j := by omega
  rw [h1, h2]
  by_cases h3 : (bs K T q (12 * k + j)).2 < sv K T q k j
  · rw [if_pos ⟨h, h3⟩, if_pos h3]
  · rw [if_neg (fun z => h3 z.2), if_neg h3]
/-- a group of keys: by key, finger, hand, all -/
def hkGr (w : Int32) (k : Nat) : Int32 := if w = 0 then nI k else if w = 1 then nI (k % 6) else if w = 2 then nI (k % 6 / 3) else 0
def hkGs (w : Int32) : Int32 := if w = 0 then 12 else if w = 1 then 6 else if w = 2 then 2 else if w = 3 then 1 else 0
def sl (S : Nat → Int32) (w x : Int32) : Nat → Int32
  | 0 => 0
  | k + 1 => if hkGr w k = x then sl S w x k + S k else sl S w x k
theorem hk_t2 (x : Int32) : x = 0 ∨ x = 1 ∨ x = 2 ∨ (¬ x = 0 ∧ ¬ x = 1 ∧ ¬ x = 2 ∧ (x.toInt < 0 ∨ 2 < x.toInt)) := by
  by_cases h0 : x = 0
  · exact Or.inl h0
  · by_cases h1 : x = 1
    · exact Or.inr (Or.inl h1)
    · by_cases h2 : x = 2
      · exact Or.inr (Or.inr (Or.inl h2))
      · have e0 := lv_neT (a := 0) h0 rfl
        have e1 := lv_neT (a := 1) h1 rfl
        have e2 := lv_neT (a := 2) h2 rfl
        exact Or.inr (Or.inr (Or.inr ⟨h0, h1, h2, by omega⟩))
theorem hk_t3 (x : Int32) : x = 0 ∨ x = 1 ∨ x = 2 ∨ x = 3 ∨ (¬ x = 0 ∧ ¬ x = 1 ∧ ¬ x = 2 ∧ ¬ x = 3 ∧ (x.toInt < 0 ∨ 3 < x.toInt)) := by
  rcases hk_t2 x with h | h | h | ⟨h0, h1, h2, h⟩
  · exact Or.inl h
  · exact Or.inr (Or.inl h)
  · exact Or.inr (Or.inr (Or.inl h))
  · by_cases h3 : x = 3
    · exact Or.inr (Or.inr (Or.inr (Or.inl h3)))
    · have e3 := lv_neT (a := 3) h3 rfl
      exact Or.inr (Or.inr (Or.inr (Or.inr ⟨h0, h1, h2, h3, by omega⟩)))
/-- how many are ahead of l, below r -/
def la (s : Nat → Int32) (l : Nat) : Nat → Nat
  | 0 => 0
  | r + 1 => if s l < s r ∨ (s r = s l ∧ r < l) then la s l r + 1 else la s l r
theorem la_le (s : Nat → Int32) (l : Nat) : ∀ r, la s l r ≤ r
  | 0 => Nat.le_refl 0
  | r + 1 => by
    have h := la_le s l r
    rw [la]
    split <;> omega
/-- the last below k for which it holds -/
def lf (q : Nat → Bool) (d : Int32) : Nat → Int32
  | 0 => d
  | k + 1 => if q k then nI k else lf q d k
/-- the first from i on, of n -/
def fi (q : Nat → Bool) : Nat → Nat → Int32
  | 0, _ => -1
  | n + 1, i => if q i then nI i else fi q n (i + 1)
/-- a contest: scores, ranks -/
def scr (X : Nat → Nat) (Z : Nat → Int32) : Nat → Int32 := fun j => nI 1000 * Z j / nI (X j)
def rk (X : Nat → Nat) (Z : Nat → Int32) (i : Nat) : Nat → Nat
  | 0 => 0
  | r + 1 => if 0 < Z r ∧ (scr X Z r < scr X Z i ∨ (scr X Z r = scr X Z i ∧ r < i)) then rk X Z i r + 1 else rk X Z i r
theorem rk_le (X : Nat → Nat) (Z : Nat → Int32) (i : Nat) : ∀ r, rk X Z i r ≤ r
  | 0 => Nat.le_refl 0
  | r + 1 => by
    have h := rk_le X Z i r
    rw [rk]
    split <;> omega
