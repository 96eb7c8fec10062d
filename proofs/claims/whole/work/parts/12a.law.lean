section HKW
variable {p : Program} {l : Launch} {e : Env} {R : Room} {s : State} {m : MethodId} {args : Array Value} {below : List Frame} {meth : Method} {c : Code} {H : Heap} {locs : List Loc} {cells slots : Nat} {Q : State → Prop}
variable {cc : ByteArray} {pc : Nat} {ls : Array Slot} {rest st0 : List Value} {D : va_G} {ct : Nat → ClassId} {sa : Nat → Nat} {ws : va_W} {A : Nat → Prop} {H0 : Heap} {a : Nat}
theorem hk_lcmpE (hexec : p.tables.exec = Jvm.exec) (hb : c.code = cc) {x : Int64} (hdg : decode cc pc = .ok (.lcmp, 1)) (k : W p l e R s m args below meth c H locs cells slots Q (F0 m (pc + 1) ls (.int 0 :: rest))) : W p l e R s m args below meth c H locs cells slots Q (F0 m pc ls (.long x :: .long x :: rest)) := by
  intro T hT X
  obtain ⟨t, a, b⟩ := k T hT X
  refine ⟨t, ?_, b⟩
  jvm_step X.here [X.here.top, hexec, hb, hdg]
  simpa using a
theorem hk_sld (hx : p.tables.exec = Jvm.exec) (hb : c.code = cc) {b L : Nat} {xs : Nat → Int32} (hX : va_X b L xs s H0) (hbl : b < H0.size) (hbA : ¬ A b) (hS : va_S A H0 H locs) {j : Nat} (hj : j < L) (hL : L ≤ 2048) (hdg : decode cc pc = .ok (.iaload, 1))
    (kk : W p l e R s m args below meth c H locs cells slots Q (F0 m (pc + 1) ls (.int (xs j) :: rest))) : W p l e R s m args below meth c H locs cells slots Q (F0 m pc ls (.int (nI j) :: .ref b :: rest)) :=
  va_sld hx hb hX hbl hbA hS (vp_in_nI hj (by omega)) hdg (by rw [nI_clamp (by omega)]; exact kk)
/-- a law's call of the face: it hands back a code -/
theorem hk_LL {b : Nat → Nat} {d : Ad} {g : Sg} {o : Nat} {f : Nat → Int64} {z : Op} {sz mc ms : Nat} {aa : Array Value} {wr : va_W} (hr : va_Run p l e R s m args below meth c H locs cells slots mc ms (F0 m pc ls st0) rest (hkLQ D ct b o (va_A (hkLW ct b d g o f) sz) z aa) (va_A (hkLW ct b d g o f) sz)) (hsz : H.size = sz) (hP : va_P D vwCl (wr ++ hkLW ct b d g o f) H) (hD : va_D A (wr ++ hkLW ct b d g o f)) (hS : va_S A H0 H locs) (hA : ∀ q, H0.size ≤ q → A q)
    (kk : ∀ (d' : Ad) (f' : Nat → Int64) (H1 : Heap) (locs1 : List Loc), (z.1 = 0 → f' 0 = z.2.1.toInt64) → va_P D vwCl (wr ++ hkLW ct b d' z.2.2 o f') H1 → va_D A (wr ++ hkLW ct b d' z.2.2 o f') → va_S A H0 H1 locs1 → W p l e R s m args below meth c H1 locs1 (cells + mc) (slots + ms) Q (F0 m (pc + 3) ls (.int z.1 :: rest))) : W p l e R s m args below meth c H locs cells slots Q (F0 m pc ls st0) := by
  subst hsz
  have hF := hk_free hD hS hA
  intro T hT X
  obtain ⟨v', st₀, t, T', L, h0, X', hL, e1, e2, ⟨hv, ⟨d', f', hP1, hD1, hf1⟩, hF9⟩, st⟩ := hr T hT X
  cases hv
  obtain ⟨hz1, hk1, hS1⟩ := vx_keep h0 e1 hS (fun q _ h => hF q h) hF hL hF9
  rw [← e1] at hP1
  obtain ⟨j1, j2⟩ := hk_split hP hD hk1 hF hP1 hD1
  obtain ⟨t2, a1, b1⟩ := kk d' f' T'.heap (locs ++ L) hf1 j1 j2 hS1 T' rfl X'
  exact ⟨t2, st t2 a1, b1⟩
/-- the same of a call that hands its answer back, and throws nothing -/
theorem hk_LF {b : Nat → Nat} {d : Ad} {g : Sg} {z : Op} {sz mc ms : Nat} {aa : Array Value} {wr : va_W} (hr : va_Run p l e R s m args below meth c H locs cells slots mc ms (F0 m pc ls st0) rest (hkFQ D ct b (va_A (hkW ct b d g) sz) z aa) (va_A (hkW ct b d g) sz)) (hsz : H.size = sz) (hP : va_P D vwCl (wr ++ hkW ct b d g) H) (hD : va_D A (wr ++ hkW ct b d g)) (hS : va_S A H0 H locs) (hA : ∀ q, H0.size ≤ q → A q)
    (kk : ∀ (d' : Ad) (H1 : Heap) (locs1 : List Loc), va_P D vwCl (wr ++ hkW ct b d' z.2.2) H1 → va_D A (wr ++ hkW ct b d' z.2.2) → va_S A H0 H1 locs1 → W p l e R s m args below meth c H1 locs1 (cells + mc) (slots + ms) Q (F0 m (pc + 3) ls (.int z.2.1 :: rest))) : W p l e R s m args below meth c H locs cells slots Q (F0 m pc ls st0) := by
  subst hsz
  have hF := hk_free hD hS hA
  intro T hT X
  obtain ⟨v', st₀, t, T', L, h0, X', hL, e1, e2, ⟨hv, hz0, ⟨d', hP1, hD1⟩, hF9⟩, st⟩ := hr T hT X
  cases hv
  obtain ⟨hz1, hk1, hS1⟩ := vx_keep h0 e1 hS (fun q _ h => hF q h) hF hL hF9
  rw [← e1] at hP1
  obtain ⟨j1, j2⟩ := hk_split hP hD hk1 hF hP1 hD1
  obtain ⟨t2, a1, b1⟩ := kk d' T'.heap (locs ++ L) j1 j2 hS1 T' rfl X'
  exact ⟨t2, st t2 a1, b1⟩
end HKW
theorem hk_t20 (x : Int32) : (∃ k : Nat, k ≤ 20 ∧ x = nI k) ∨ (x.toInt < 0 ∨ 20 < x.toInt) := by
  by_cases h : x.toInt < 0
  · exact Or.inr (Or.inl h)
  · by_cases h2 : 20 < x.toInt
    · exact Or.inr (Or.inr h2)
    · refine Or.inl ⟨x.toInt.toNat, by omega, Int32.toInt_inj.mp ?_⟩
      rw [nI_toInt (by omega)]
      omega
theorem lw_cmp {i L : Nat} (hi : i < 2 ^ 30) (hL : L ≤ 2048) (h : ¬ nI L - nI 4 < nI i) : i + 4 ≤ L := by
  have h1 : (nI L - nI 4).toInt = (L : Int) - 4 := pk_sub_toInt (by omega) (by decide)
  have h2 : ¬ (nI L - nI 4).toInt < (nI i).toInt := fun q => h (Int32.lt_iff_toInt_lt.mpr q)
  rw [h1, nI_toInt (by omega)] at h2
  omega
theorem hkH.at {G0 : Nat} {U : State} {H H1 : Heap} {locs : List Loc} (h : hkH G0 U H) (hS : va_S (fun q => G0 ≤ q) H H1 locs) : hkH G0 U H1 := h.kept hS.1 hS.2.1
