/-! ranks, sums -/
def cnt (h : Nat → Bool) : Nat → Nat
  | 0 => 0
  | r + 1 => if h r then cnt h r + 1 else cnt h r
def rnk (h : Nat → Bool) (B : Nat → Nat → Bool) (l : Nat) : Nat → Nat
  | 0 => 0
  | r + 1 => if h r && B r l then rnk h B l r + 1 else rnk h B l r
theorem cnt_le (h : Nat → Bool) : ∀ n, cnt h n ≤ n
  | 0 => Nat.le_refl 0
  | n + 1 => by
    have h1 := cnt_le h n
    rw [cnt]
    split <;> omega
theorem cnt_ext (h : Nat → Bool) (n : Nat) (hn : ∀ j, n ≤ j → h j = false) : ∀ k, cnt h (n + k) = cnt h n
  | 0 => rfl
  | k + 1 => by
    show cnt h ((n + k) + 1) = _
    rw [cnt, hn (n + k) (by omega), if_neg (by decide)]
    exact cnt_ext h n hn k
theorem rnk_le (h : Nat → Bool) (B : Nat → Nat → Bool) (l : Nat) : ∀ n, rnk h B l n ≤ cnt h n
  | 0 => Nat.le_refl 0
  | n + 1 => by
    have h1 := rnk_le h B l n
    rw [rnk, cnt]
    cases h n <;> cases B n l <;> simp <;> omega
def sord (B : Nat → Nat → Bool) : Prop := (∀ x, B x x = false) ∧ (∀ x y z, B x y = true → B y z = true → B x z = true) ∧ ∀ x y, x ≠ y → B x y = true ∨ B y x = true
theorem rnk_mono {h : Nat → Bool} {B : Nat → Nat → Bool} (hB : sord B) {l k : Nat} (hlk : B l k = true) : ∀ n, rnk h B l n ≤ rnk h B k n ∧ (l < n → h l = true → rnk h B l n + 1 ≤ rnk h B k n)
  | 0 => ⟨Nat.le_refl 0, fun q => absurd q (Nat.not_lt_zero l)⟩
  | n + 1 => by
    obtain ⟨h1, h2⟩ := rnk_mono (h := h) hB hlk n
    rw [rnk, rnk]
    by_cases e : n = l
    · subst e
      rw [hB.1 n, hlk]
      cases hn : h n
      · simp; exact h1
      · simp; omega
    · have h3 : B n l = true → B n k = true := fun q => hB.2.1 _ _ _ q hlk
      cases hn : h n
      · simp
        exact ⟨h1, fun q q2 => h2 (by omega) q2⟩
      · cases q : B n l
        · cases q2 : B n k
          · simp
            exact ⟨h1, fun q q2 => h2 (by omega) q2⟩
          · simp
            exact ⟨by omega, fun q q2 => by have := h2 (by omega) q2; omega⟩
        · rw [h3 q]
          simp
          exact ⟨h1, fun q q2 => h2 (by omega) q2⟩
theorem rnk_lt {h : Nat → Bool} {B : Nat → Nat → Bool} (hB : sord B) {l : Nat} (hl : h l = true) : ∀ n, l < n → rnk h B l n < cnt h n
  | 0 => fun q => absurd q (Nat.not_lt_zero l)
  | n + 1 => fun q => by
    rw [rnk, cnt]
    by_cases e : n = l
    · subst e
      have := rnk_le h B n n
      rw [hB.1 n, hl]
      simp
      omega
    · have h1 := rnk_lt hB hl n (by omega)
      cases h n <;> cases B n l <;> simp <;> omega
theorem rnk_surj {h : Nat → Bool} {B : Nat → Nat → Bool} (hB : sord B) : ∀ n m, m < cnt h n → ∃ l, l < n ∧ h l = true ∧ rnk h B l n = m
  | 0 => fun m q => absurd q (Nat.not_lt_zero m)
  | n + 1 => fun m q => by
    rw [cnt] at q
    cases hn : h n
    · rw [hn, if_neg (by decide)] at q
      obtain ⟨l, h1, h2, h3⟩ := rnk_surj hB n m q
      exact ⟨l, by omega, h2, by rw [rnk, hn]; simp; exact h3⟩
    · rw [hn, if_pos rfl] at q
      have ht := rnk_le h B n n
      rcases Nat.lt_trichotomy m (rnk h B n n) with h4 | h4 | h4
      · obtain ⟨l, h1, h2, h3⟩ := rnk_surj (h := h) hB n m (by omega)
        refine ⟨l, by omega, h2, ?_⟩
        rw [rnk, hn]
        cases q5 : B n l
        · simp; exact h3
        · have := (rnk_mono (h := h) hB q5 n).1
          omega
      · exact ⟨n, by omega, hn, by rw [rnk, hB.1 n]; simp; exact h4.symm⟩
      · obtain ⟨l, h1, h2, h3⟩ := rnk_surj (h := h) hB n (m - 1) (by omega)
        refine ⟨l, by omega, h2, ?_⟩
        rw [rnk, hn]
        cases q5 : B n l
        · have h6 : B l n = true := (hB.2.2 n l (by omega)).resolve_left (by rw [q5]; decide)
          have := (rnk_mono (h := h) hB h6 n).2 h1 h2
          omega
        · simp; omega
theorem rnk_inj {h : Nat → Bool} {B : Nat → Nat → Bool} (hB : sord B) {n l k : Nat} (hl : l < n) (hk : k < n) (h1 : h l = true) (h2 : h k = true) (e : rnk h B l n = rnk h B k n) : l = k := by
  by_cases q : l = k
  · exact q
  · rcases hB.2.2 l k q with h3 | h3
    · have := (rnk_mono (h := h) hB h3 n).2 hl h1; omega
    · have := (rnk_mono (h := h) hB h3 n).2 hk h2; omega
/-- a lower rank lies ahead -/
theorem rnk_ahead {h : Nat → Bool} {B : Nat → Nat → Bool} (hB : sord B) {n l k : Nat} (hk : k < n) (h2 : h k = true) (e : rnk h B l n < rnk h B k n) : B l k = true := by
  rcases hB.2.2 l k (fun q => by rw [q] at e; omega) with h3 | h3
  · exact h3
  · have := (rnk_mono (h := h) hB h3 n).2 hk h2; omega
/-! the order of slips, and of scores -/
def Bla (s : Nat → Int32) : Nat → Nat → Bool := fun r l => decide (s l < s r ∨ (s r = s l ∧ r < l))
def Brk (s : Nat → Int32) : Nat → Nat → Bool := fun r l => decide (s r < s l ∨ (s r = s l ∧ r < l))
theorem sord_la (s : Nat → Int32) : sord (Bla s) := by
  refine ⟨fun x => ?_, fun x y z h1 h2 => ?_, fun x y h => ?_⟩
  · exact decide_eq_false (fun q => by rw [Int32.lt_iff_toInt_lt] at q; omega)
  · have h1 := of_decide_eq_true h1
    have h2 := of_decide_eq_true h2
    refine decide_eq_true ?_
    rw [Int32.lt_iff_toInt_lt, ← Int32.toInt_inj] at *
    omega
  · have h3 : (s x).toInt < (s y).toInt ∨ (s x).toInt = (s y).toInt ∨ (s y).toInt < (s x).toInt := by omega
    by_cases h4 : Bla s x y = true
    · exact Or.inl h4
    · refine Or.inr (decide_eq_true ?_)
      have h4 : ¬ (s y < s x ∨ (s x = s y ∧ x < y)) := fun q => h4 (decide_eq_true q)
      rw [Int32.lt_iff_toInt_lt, ← Int32.toInt_inj] at *
      omega
theorem sord_rk (s : Nat → Int32) : sord (Brk s) := by
  refine ⟨fun x => ?_, fun x y z h1 h2 => ?_, fun x y h => ?_⟩
  · exact decide_eq_false (fun q => by rw [Int32.lt_iff_toInt_lt] at q; omega)
  · have h1 := of_decide_eq_true h1
    have h2 := of_decide_eq_true h2
    refine decide_eq_true ?_
    rw [Int32.lt_iff_toInt_lt, ← Int32.toInt_inj] at *
    omega
  · by_cases h4 : Brk s x y = true
    · exact Or.inl h4
    · refine Or.inr (decide_eq_true ?_)
      have h4 : ¬ (s x < s y ∨ (s x = s y ∧ x < y)) := fun q => h4 (decide_eq_true q)
      rw [Int32.lt_iff_toInt_lt, ← Int32.toInt_inj] at *
      omega
theorem la_rnk (s : Nat → Int32) (l : Nat) : ∀ r, la s l r = rnk (fun _ => true) (Bla s) l r
  | 0 => rfl
  | r + 1 => by
    rw [la, rnk, la_rnk s l r]
    simp only [Bla, Bool.true_and, decide_eq_true_eq]
theorem cnt_true : ∀ n, cnt (fun _ => true) n = n
  | 0 => rfl
  | n + 1 => by rw [cnt, cnt_true n, if_pos rfl]
def hasZ (Z : Nat → Int32) : Nat → Bool := fun j => decide (0 < Z j)
theorem rk_rnk (X : Nat → Nat) (Z : Nat → Int32) (i : Nat) : ∀ r, rk X Z i r = rnk (hasZ Z) (Brk (scr X Z)) i r
  | 0 => rfl
  | r + 1 => by
    rw [rk, rnk, rk_rnk X Z i r]
    simp only [Brk, hasZ, Bool.and_eq_true, decide_eq_true_eq]
theorem lf_spec (q : Nat → Bool) (d : Int32) : ∀ k, (∃ j, j < k ∧ q j = true) → ∃ j, j < k ∧ q j = true ∧ lf q d k = nI j
  | 0 => fun ⟨j, h, _⟩ => absurd h (Nat.not_lt_zero j)
  | k + 1 => fun ⟨j, h, hj⟩ => by
    rw [lf]
    cases hk : q k
    · have h1 : j ≠ k := fun e => by rw [e, hk] at hj; cases hj
      obtain ⟨i, h2, h3, h4⟩ := lf_spec q d k ⟨j, by omega, hj⟩
      exact ⟨i, by omega, h3, by simp; exact h4⟩
    · exact ⟨k, by omega, hk, if_pos rfl⟩
theorem fi_none (q : Nat → Bool) : ∀ n i, (∀ j, i ≤ j → j < i + n → q j = false) → fi q n i = -1
  | 0 => fun _ _ => rfl
  | n + 1 => fun i h => by
    rw [fi, h i (by omega) (by omega), if_neg (by decide)]
    exact fi_none q n (i + 1) (fun j h1 h2 => h j (by omega) (by omega))
theorem fi_spec (q : Nat → Bool) : ∀ n i, (∃ j, i ≤ j ∧ j < i + n ∧ q j = true) → ∃ j, i ≤ j ∧ j < i + n ∧ q j = true ∧ fi q n i = nI j
  | 0 => fun i ⟨j, h1, h2, _⟩ => absurd h2 (by omega)
  | n + 1 => fun i ⟨j, h1, h2, hj⟩ => by
    rw [fi]
    cases hk : q i
    · have h3 : j ≠ i := fun e => by rw [e, hk] at hj; cases hj
      obtain ⟨k, h4, h5, h6, h7⟩ := fi_spec q n (i + 1) ⟨j, by omega, by omega, hj⟩
      exact ⟨k, by omega, by omega, h6, by simp; exact h7⟩
    · exact ⟨i, by omega, by omega, hk, if_pos rfl⟩
/-! sums -/
def sm (f : Nat → Nat) : Nat → Nat
  | 0 => 0
  | n + 1 => sm f n + f n
theorem sm_get (f : Nat → Nat) (k : Nat) : ∀ n, k < n → f k ≤ sm f n
  | 0 => fun h => absurd h (Nat.not_lt_zero k)
  | n + 1 => fun h => by
    rw [sm]
    by_cases e : k = n
    · rw [e]; omega
    · have := sm_get f k n (by omega); omega
theorem sm_cong (f f' : Nat → Nat) : ∀ n, (∀ k, k < n → f k = f' k) → sm f n = sm f' n
  | 0 => fun _ => rfl
  | n + 1 => fun h => by rw [sm, sm, sm_cong f f' n (fun k hk => h k (by omega)), h n (by omega)]
theorem sm_mono (f : Nat → Nat) (n : Nat) : ∀ k, sm f n ≤ sm f (n + k)
  | 0 => Nat.le_refl _
  | k + 1 => by
    have := sm_mono f n k
    show _ ≤ sm f (n + k) + f (n + k)
    omega
theorem sm_up (f : Nat → Nat) (a v : Nat) : ∀ n, a < n → sm (fun k => if k = a then v else f k) n + f a = sm f n + v
  | 0 => fun h => absurd h (Nat.not_lt_zero a)
  | n + 1 => fun h => by
    rw [sm, sm]
    by_cases e : n = a
    · subst e
      rw [sm_cong (fun k => if k = n then v else f k) f n (fun k hk => if_neg (by omega)), if_pos rfl]
      omega
    · have := sm_up f a v n (by omega)
      rw [if_neg e]
      omega
