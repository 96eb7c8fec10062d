/-! every call keeps the state sound -/
theorem ist_0 : Ist st0 := by
  refine ⟨?_, ?_, ?_, by decide, fun _ => (by decide : (0 : Nat) < 12), Or.inl rfl⟩
  · intro x hx9; show (if x < 12 then x else 0) < 12; rw [if_pos hx9]; exact hx9
  · intro x hx9; show (if x < 12 then x else 0) < 12; rw [if_pos hx9]; exact hx9
  · intro x hx9
    show (if (if x < 12 then x else 0) < 12 then (if x < 12 then x else 0) else 0) = x
    rw [if_pos hx9, if_pos hx9]
theorem ico_0 : Ico co0 := ⟨by decide, fun j h => absurd h (Nat.not_lt_zero _), fun _ _ => ⟨rfl, rfl⟩, fun _ => (by decide : ¬ (0 : Int32) < 0)⟩
theorem inv_0 : Inv g0 := ⟨by decide, by decide, by decide, fun _ => ist_0, fun _ => (by decide : (0 : Nat) < 12), fun _ _ => rfl, fun _ _ => rfl, fun _ => ico_0⟩
theorem inv_gU {g : Sg} {i : Nat} {u : St} (hI : Inv g) (hi : i < gN g) (hu : Ist u) : Inv (gU g i u) := by
  obtain ⟨h1, h2, h3, h4, h5, h6, h7, h8⟩ := hI
  refine ⟨h1, h2, h3, fun j => ?_, h5, fun j hj => ?_, h7, h8⟩
  · show Ist (va_up (gS g) i u j)
    by_cases e : j = i
    · rw [e, va_up_self]; exact hu
    · rw [va_up_ne _ _ e]; exact h4 j
  · show va_up (gS g) i u j = st0
    rw [va_up_ne _ _ (fun e => absurd hj (by rw [e]; exact Nat.not_le.mpr hi))]
    exact h6 j hj
theorem inv_gV {g : Sg} {i : Nat} {v : Co} (hI : Inv g) (hi : i < gc g) (hv : Ico v) : Inv (gV g i v) := by
  obtain ⟨h1, h2, h3, h4, h5, h6, h7, h8⟩ := hI
  refine ⟨h1, h2, h3, h4, h5, h6, fun j hj => ?_, fun j => ?_⟩
  · show va_up (gC g) i v j = co0
    rw [va_up_ne _ _ (fun e => absurd hj (by rw [e]; exact Nat.not_le.mpr hi))]
    exact h7 j hj
  · show Ico (va_up (gC g) i v j)
    by_cases e : j = i
    · rw [e, va_up_self]; exact hv
    · rw [va_up_ne _ _ e]; exact h8 j
theorem ist_wy {u : St} {y : Int32} (h : Ist u) (hy : y = 0 ∨ y = 1) : Ist (wyU u y) := ⟨h.1, h.2.1, h.2.2.1, h.2.2.2.1, h.2.2.2.2.1, hy⟩
theorem ist_ex {u : St} {a b : Nat} (h : Ist u) (ha : a < 12) (hb : b < 12) (hab : a ≠ b) : Ist (exU u a b) := by
  obtain ⟨h1, h2, h3, h4, h5, h6⟩ := h
  have hLL : sL u a ≠ sL u b := fun q => hab ((h3 a ha).symm.trans ((congrArg (sK u) q).trans (h3 b hb)))
  refine ⟨fun x hx9 => ?_, fun x hx9 => ?_, fun x hx9 => ?_, h4, h5, h6⟩
  · show (if x = sL u b then a else if x = sL u a then b else sK u x) < 12
    split
    · exact ha
    · split
      · exact hb
      · exact h1 x hx9
  · show (if x = b then sL u a else if x = a then sL u b else sL u x) < 12
    split
    · exact h2 a ha
    · split
      · exact h2 b hb
      · exact h2 x hx9
  · show exK (sK u) (sL u) a b (exL (sL u) a b x) = x
    unfold exK exL
    by_cases e1 : x = b
    · rw [if_pos e1, if_neg hLL, if_pos rfl, e1]
    · rw [if_neg e1]
      by_cases e2 : x = a
      · rw [if_pos e2, if_pos rfl, e2]
      · rw [if_neg e2, if_neg (fun q => e1 ((h3 x hx9).symm.trans ((congrArg (sK u) q).trans (h3 b hb)))), if_neg (fun q => e2 ((h3 x hx9).symm.trans ((congrArg (sK u) q).trans (h3 a ha)))), h3 x hx9]
theorem ist_tp {u : St} {a b : Nat} (h : Ist u) (ha : a < 12) : Ist (tpU u a b) := by
  obtain ⟨h1, h2, h3, h4, h5, h6⟩ := h
  refine ⟨h1, h2, h3, ?_, fun x => ?_, h6⟩
  · show kpN (sq u) ≤ 30
    unfold kpN
    split <;> omega
  · show kpT (sT u) (sq u) a x < 12
    unfold kpT
    split
    · split
      · exact ha
      · split
        · exact h5 _
        · exact h5 _
    · split
      · exact ha
      · exact h5 _
theorem ico_new {g : Sg} (hI : Inv g) (hd : ¬ gd g = 0) : Ico (newCo g) := by
  refine ⟨hI.1, fun j hj => ?_, fun j hj => ⟨?_, rfl⟩, fun _ => by show ¬ (0 : Int32) < 0; decide⟩
  · have hj : j < gN g := hj
    show 2 ≤ (if j < gN g then tt (gk (sK (gS g j)) (gD g)) (gd g) else 0) ∧ (if j < gN g then tt (gk (sK (gS g j)) (gD g)) (gd g) else 0) ≤ 200
    rw [if_pos hj]
    have h1 := tt_le (gk (sK (gS g j)) (gD g)) (gd g)
    have h2 := tt_ge (gk (sK (gS g j)) (gD g)) (gd g) (by omega)
    have h3 := hI.2.1
    omega
  · have hj : gN g ≤ j := hj
    show (if j < gN g then tt (gk (sK (gS g j)) (gD g)) (gd g) else 0) = 0
    rw [if_neg (by omega)]
theorem ico_rs {v : Co} {j : Nat} {z : Int32} (h : Ico v) (hj : j < cW v) (hz : ¬ z < 0) : Ico (rsU v j z) := by
  obtain ⟨h1, h2, h3, h4⟩ := h
  refine ⟨h1, h2, fun k hk => ⟨(h3 k hk).1, ?_⟩, fun k => ?_⟩
  · have hk : cW v ≤ k := hk
    show (if k = j then z else cZ v k) = 0
    rw [if_neg (by omega)]
    exact (h3 k hk).2
  · show ¬ (if k = j then z else cZ v k) < 0
    split
    · exact hz
    · exact h4 k
theorem ne_clamp {y z : Int32} (h : ¬ y = z) (hy : ¬ bd y 12) (hz : ¬ bd z 12) : ix y ≠ ix z := by
  obtain ⟨j, hj, rfl⟩ := bd_of (by decide) hy
  obtain ⟨k, hk, rfl⟩ := bd_of (by decide) hz
  intro e
  rw [ix, ix, nI_clamp (by omega), nI_clamp (by omega)] at e
  exact h (by rw [e])
theorem ix_lt {y : Int32} {n : Nat} (h : ¬ bd y n) : ix y < n := Nat.lt_of_not_le fun q => h (Or.inr q)
theorem inv_student {g : Sg} (hI : Inv g) : Inv (opStudent g).2.2 := by
  unfold opStudent
  split
  · exact hI
  · rename_i h
    obtain ⟨h1, h2, h3, h4, h5, h6, h7, h8⟩ := hI
    exact ⟨by show gN g + 1 ≤ 5; omega, h2, h3, h4, h5, fun j hj => h6 j (by have hj : gN g + 1 ≤ j := hj; omega), h7, h8⟩
theorem inv_carry {g : Sg} (hI : Inv g) (x y : Int32) : Inv (opCarry g x y).2.2 := by
  unfold opCarry
  split
  · exact hI
  · split
    · exact hI
    · rename_i h h2
      refine inv_gU hI (ix_lt h) (ist_wy (hI.2.2.2.1 _) ?_)
      by_cases e : y = 0
      · exact Or.inl e
      · by_cases e2 : y = 1
        · exact Or.inr e2
        · exact absurd ⟨e, e2⟩ h2
theorem inv_swap {g : Sg} (hI : Inv g) (x y z : Int32) : Inv (opSwap g x y z).2.2 := by
  unfold opSwap
  split
  · exact hI
  · split
    · exact hI
    · rename_i h h2
      have hy : ¬ bd y 12 := fun q => h (Or.inr (Or.inl q))
      have hz : ¬ bd z 12 := fun q => h (Or.inr (Or.inr q))
      exact inv_gU hI (ix_lt (fun q => h (Or.inl q))) (ist_ex (hI.2.2.2.1 _) (ix_lt hy) (ix_lt hz) (ne_clamp h2 hy hz))
theorem inv_press {g : Sg} (hI : Inv g) (x y z : Int32) : Inv (opPress g x y z).2.2 := by
  unfold opPress
  split
  · exact hI
  · rename_i h
    exact inv_gU hI (ix_lt (fun q => h (Or.inl q))) (ist_tp (hI.2.2.2.1 _) (ix_lt (fun q => h (Or.inr (Or.inl q)))))
theorem inv_draft {g : Sg} (hI : Inv g) (x : Int32) : Inv (opDraft g x).2.2 := by
  unfold opDraft
  split
  · exact hI
  · split
    · exact hI
    · rename_i h h2
      obtain ⟨h1, h3, h4, h5, h6, h7⟩ := hI
      refine ⟨h1, by show gd g + 1 ≤ 24; omega, h4, h5, fun j => ?_, h7⟩
      show va_up (gD g) (gd g) (ix x) j < 12
      by_cases e : j = gd g
      · rw [e, va_up_self]; exact ix_lt h
      · rw [va_up_ne _ _ e]; exact h6 j
theorem inv_clear {g : Sg} (hI : Inv g) : Inv (opClear g).2.2 := ⟨hI.1, Nat.zero_le _, hI.2.2⟩
theorem inv_contest {g : Sg} (hI : Inv g) : Inv (opContest g).2.2 := by
  unfold opContest
  split
  · exact hI
  · rename_i h
    obtain ⟨h1, h2, h3, h4, h5, h6, h7, h8⟩ := id hI
    refine ⟨h1, Nat.zero_le _, by show gc g + 1 ≤ 6; omega, h4, h5, h6, fun j hj => ?_, fun j => ?_⟩
    · have hj : gc g + 1 ≤ j := hj
      show va_up (gC g) (gc g) (newCo g) j = co0
      rw [va_up_ne _ _ (by omega)]
      exact h7 j (by omega)
    · show Ico (va_up (gC g) (gc g) (newCo g) j)
      by_cases e : j = gc g
      · rw [e, va_up_self]; exact ico_new hI (fun q => h (Or.inl q))
      · rw [va_up_ne _ _ e]; exact h8 j
theorem inv_result {g : Sg} (hI : Inv g) (x y z : Int32) : Inv (opResult g x y z).2.2 := by
  unfold opResult
  split
  · exact hI
  · split
    · exact hI
    · split
      · exact hI
      · rename_i h h2 h3
        refine inv_gV hI (ix_lt (fun q => h (Or.inl q))) (ico_rs (hI.2.2.2.2.2.2.2 _) (ix_lt (fun q => h (Or.inr q))) (fun q => h2 (Or.inl ?_)))
        exact Int32.lt_trans q (by decide)
theorem inv_keep {g : Sg} (hI : Inv g) {z : Op} (h : z.2.2 = g) : Inv z.2.2 := by rw [h]; exact hI
theorem rf_opStudent {g : Sg}  (h : ¬ (opStudent g).1 = 0) : (opStudent g).2.2 = g := by
  revert h
  unfold opStudent
  repeat' split
  all_goals first | (intro _; rfl) | (intro h; exact absurd rfl h)
theorem rf_opCarry {g : Sg} {x y : Int32} (h : ¬ (opCarry g x y).1 = 0) : (opCarry g x y).2.2 = g := by
  revert h
  unfold opCarry
  repeat' split
  all_goals first | (intro _; rfl) | (intro h; exact absurd rfl h)
theorem rf_opSwap {g : Sg} {x y z : Int32} (h : ¬ (opSwap g x y z).1 = 0) : (opSwap g x y z).2.2 = g := by
  revert h
  unfold opSwap
  repeat' split
  all_goals first | (intro _; rfl) | (intro h; exact absurd rfl h)
theorem rf_opKeyOf {g : Sg} {x y : Int32} (h : ¬ (opKeyOf g x y).1 = 0) : (opKeyOf g x y).2.2 = g := by
  revert h
  unfold opKeyOf
  repeat' split
  all_goals first | (intro _; rfl) | (intro h; exact absurd rfl h)
theorem inv_keyOf {g : Sg} (hI : Inv g) (x y : Int32) : Inv (opKeyOf g x y).2.2 := by
  unfold opKeyOf
  repeat' split
  all_goals exact hI
theorem rf_opLetterOn {g : Sg} {x y : Int32} (h : ¬ (opLetterOn g x y).1 = 0) : (opLetterOn g x y).2.2 = g := by
  revert h
  unfold opLetterOn
  repeat' split
  all_goals first | (intro _; rfl) | (intro h; exact absurd rfl h)
theorem inv_letterOn {g : Sg} (hI : Inv g) (x y : Int32) : Inv (opLetterOn g x y).2.2 := by
  unfold opLetterOn
  repeat' split
  all_goals exact hI
theorem rf_opPress {g : Sg} {x y z : Int32} (h : ¬ (opPress g x y z).1 = 0) : (opPress g x y z).2.2 = g := by
  revert h
  unfold opPress
  repeat' split
  all_goals first | (intro _; rfl) | (intro h; exact absurd rfl h)
theorem rf_opSlips {g : Sg} {x y z : Int32} (h : ¬ (opSlips g x y z).1 = 0) : (opSlips g x y z).2.2 = g := by
  revert h
  unfold opSlips
  repeat' split
  all_goals first | (intro _; rfl) | (intro h; exact absurd rfl h)
theorem inv_slips {g : Sg} (hI : Inv g) (x y z : Int32) : Inv (opSlips g x y z).2.2 := by
  unfold opSlips
  repeat' split
  all_goals exact hI
theorem rf_opPair {g : Sg} {x y z : Int32} (h : ¬ (opPair g x y z).1 = 0) : (opPair g x y z).2.2 = g := by
  revert h
  unfold opPair
  repeat' split
  all_goals first | (intro _; rfl) | (intro h; exact absurd rfl h)
theorem inv_pair {g : Sg} (hI : Inv g) (x y z : Int32) : Inv (opPair g x y z).2.2 := by
  unfold opPair
  repeat' split
  all_goals exact hI
theorem rf_opPressed {g : Sg} {x : Int32} (h : ¬ (opPressed g x).1 = 0) : (opPressed g x).2.2 = g := by
  revert h
  unfold opPressed
  repeat' split
  all_goals first | (intro _; rfl) | (intro h; exact absurd rfl h)
theorem inv_pressed {g : Sg} (hI : Inv g) (x : Int32) : Inv (opPressed g x).2.2 := by
  unfold opPressed
  repeat' split
  all_goals exact hI
theorem rf_opHistory {g : Sg} {x y : Int32} (h : ¬ (opHistory g x y).1 = 0) : (opHistory g x y).2.2 = g := by
  revert h
  unfold opHistory
  repeat' split
  all_goals first | (intro _; rfl) | (intro h; exact absurd rfl h)
theorem inv_history {g : Sg} (hI : Inv g) (x y : Int32) : Inv (opHistory g x y).2.2 := by
  unfold opHistory
  repeat' split
  all_goals exact hI
theorem rf_opTime {g : Sg} {x : Int32} (h : ¬ (opTime g x).1 = 0) : (opTime g x).2.2 = g := by
  revert h
  unfold opTime
  repeat' split
  all_goals first | (intro _; rfl) | (intro h; exact absurd rfl h)
theorem inv_time {g : Sg} (hI : Inv g) (x : Int32) : Inv (opTime g x).2.2 := by
  unfold opTime
  repeat' split
  all_goals exact hI
theorem rf_opLesson {g : Sg} {x y : Int32} (h : ¬ (opLesson g x y).1 = 0) : (opLesson g x y).2.2 = g := by
  revert h
  unfold opLesson
  repeat' split
  all_goals first | (intro _; rfl) | (intro h; exact absurd rfl h)
theorem inv_lesson {g : Sg} (hI : Inv g) (x y : Int32) : Inv (opLesson g x y).2.2 := by
  unfold opLesson
  repeat' split
  all_goals exact hI
theorem rf_opSaves {g : Sg} {x y z : Int32} (h : ¬ (opSaves g x y z).1 = 0) : (opSaves g x y z).2.2 = g := by
  revert h
  unfold opSaves
  repeat' split
  all_goals first | (intro _; rfl) | (intro h; exact absurd rfl h)
theorem inv_saves {g : Sg} (hI : Inv g) (x y z : Int32) : Inv (opSaves g x y z).2.2 := by
  unfold opSaves
  repeat' split
  all_goals exact hI
theorem rf_opBest {g : Sg} {x : Int32} (h : ¬ (opBest g x).1 = 0) : (opBest g x).2.2 = g := by
  revert h
  unfold opBest
  repeat' split
  all_goals first | (intro _; rfl) | (intro h; exact absurd rfl h)
theorem inv_best {g : Sg} (hI : Inv g) (x : Int32) : Inv (opBest g x).2.2 := by
  unfold opBest
  repeat' split
  all_goals exact hI
theorem rf_opDraft {g : Sg} {x : Int32} (h : ¬ (opDraft g x).1 = 0) : (opDraft g x).2.2 = g := by
  revert h
  unfold opDraft
  repeat' split
  all_goals first | (intro _; rfl) | (intro h; exact absurd rfl h)
theorem rf_opClear {g : Sg}  (h : ¬ (opClear g).1 = 0) : (opClear g).2.2 = g := by
  revert h
  unfold opClear
  repeat' split
  all_goals first | (intro _; rfl) | (intro h; exact absurd rfl h)
theorem rf_opContest {g : Sg}  (h : ¬ (opContest g).1 = 0) : (opContest g).2.2 = g := by
  revert h
  unfold opContest
  repeat' split
  all_goals first | (intro _; rfl) | (intro h; exact absurd rfl h)
theorem rf_opResult {g : Sg} {x y z : Int32} (h : ¬ (opResult g x y z).1 = 0) : (opResult g x y z).2.2 = g := by
  revert h
  unfold opResult
  repeat' split
  all_goals first | (intro _; rfl) | (intro h; exact absurd rfl h)
theorem rf_opOf {g : Sg} {x y z : Int32} (h : ¬ (opOf g x y z).1 = 0) : (opOf g x y z).2.2 = g := by
  revert h
  unfold opOf
  repeat' split
  all_goals first | (intro _; rfl) | (intro h; exact absurd rfl h)
theorem inv_of {g : Sg} (hI : Inv g) (x y z : Int32) : Inv (opOf g x y z).2.2 := by
  unfold opOf
  repeat' split
  all_goals exact hI
theorem rf_opRanked {g : Sg} {x y : Int32} (h : ¬ (opRanked g x y).1 = 0) : (opRanked g x y).2.2 = g := by
  revert h
  unfold opRanked
  repeat' split
  all_goals first | (intro _; rfl) | (intro h; exact absurd rfl h)
theorem inv_ranked {g : Sg} (hI : Inv g) (x y : Int32) : Inv (opRanked g x y).2.2 := by
  unfold opRanked
  repeat' split
  all_goals exact hI
