theorem fill_0 (f : Nat → Int32) (v : Int32) : f = fun j => if j < 0 then v else f j := by
  funext j
  rw [if_neg (Nat.not_lt_zero j)]
theorem fill_s (f : Nat → Int32) (v : Int32) (i : Nat) : upd (fun j => if j < i then v else f j) i v = fun j => if j < i + 1 then v else f j := by
  funext j
  show (if j = i then v else if j < i then v else f j) = if j < i + 1 then v else f j
  by_cases h : j = i
  · rw [if_pos h, if_pos (by omega)]
  · by_cases h2 : j < i
    · rw [if_neg h, if_pos h2, if_pos (by omega)]
    · rw [if_neg h, if_neg h2, if_neg (by omega)]
/-- how often the pair x comes among the first i pairs -/
def cn (T : Nat → Nat) (x : Nat) : Nat → Nat
  | 0 => 0
  | i + 1 => if x = 12 * T i + T (i + 1) then cn T x i + 1 else cn T x i
def cn_m (kp : Nat) : Nat := kp - 1
theorem cn_upd (T : Nat → Nat) (F : Nat → Int32) (i : Nat) (h : 12 * T i + T (i + 1) < 144) : upd (fun j => if j < 144 then nI (cn T j i) else F j) (12 * T i + T (i + 1)) ((fun j => if j < 144 then nI (cn T j i) else F j) (12 * T i + T (i + 1)) + nI 1) = fun j => if j < 144 then nI (cn T j (i + 1)) else F j := by
  funext j
  unfold upd
  by_cases hj : j = 12 * T i + T (i + 1)
  · subst hj
    rw [if_pos rfl]
    show (if _ then _ else _) + nI 1 = _
    rw [if_pos h, if_pos h, cn, if_pos rfl, nI_add]
  · rw [if_neg hj]
    show (if _ then _ else _) = if _ then _ else _
    rw [cn, if_neg hj]
def stK (K : Nat → Nat) (x : Nat) : Nat := stp (K (x / 12)) (K (x % 12))
def su (K T : Nat → Nat) (i : Nat) : Nat → Nat
  | 0 => 0
  | x + 1 => su K T i x + cn T x i * stK K x
theorem su_step (K T : Nat → Nat) (i a b : Nat) (hb : b < 12) : su K T i (12 * a + b + 1) = su K T i (12 * a + b) + cn T (12 * a + b) i * stp (K a) (K b) := by
  rw [su, stK]
  rw [show (12 * a + b) / 12 = a by omega, show (12 * a + b) % 12 = b by omega]
theorem su_0 (K T : Nat → Nat) : ∀ x, su K T 0 x = 0
  | 0 => rfl
  | x + 1 => by rw [su, su_0 K T x, cn, Nat.zero_mul]
theorem su_s (K T : Nat → Nat) (i : Nat) : ∀ x, su K T (i + 1) x = su K T i x + if 12 * T i + T (i + 1) < x then stK K (12 * T i + T (i + 1)) else 0
  | 0 => by rw [su, su, if_neg (Nat.not_lt_zero _)]
  | x + 1 => by
    rw [su, su, su_s K T i x, cn]
    by_cases h : x = 12 * T i + T (i + 1)
    · rw [if_pos h, if_neg (by omega), if_pos (by omega), ← h, Nat.add_mul, Nat.one_mul]
      omega
    · by_cases h2 : 12 * T i + T (i + 1) < x
      · rw [if_neg h, if_pos h2, if_pos (by omega)]
        omega
      · rw [if_neg h, if_neg h2, if_neg (by omega)]
        omega
theorem su_tt (K T : Nat → Nat) (hT : ∀ p, T p < 12) : ∀ i, 2 + su K T i 144 = tt (gk K T) (i + 1)
  | 0 => by rw [su_0, tt_1]
  | i + 1 => by
    have h1 := hT i
    have h2 := hT (i + 1)
    rw [su_s, if_pos (by omega), tt_2, ← su_tt K T hT i, stK, show (12 * T i + T (i + 1)) / 12 = T i by omega, show (12 * T i + T (i + 1)) % 12 = T (i + 1) by omega]
    show 2 + (_ + stp _ _) = 2 + _ + stp (K (T i)) (K (T (i + 1)))
    omega
theorem su_tt0 (K T : Nat → Nat) (kp i : Nat) (h : kp = 0) (hi : i = 0) : 0 + su K T i (12 * 12) = tt (gk K T) kp := by
  subst h; subst hi
  rw [su_0, tt]
theorem su_tt2 (K T : Nat → Nat) (kp i : Nat) (h : kp = i + 1) (hT : ∀ p, T p < 12) : 2 + su K T i (12 * 12) = tt (gk K T) kp := by
  subst h
  exact su_tt K T hT i
theorem id_0 : (fun _ => 0 : Nat → Int32) = fun j => if j < 0 then nI j else 0 := by
  funext j
  rw [if_neg (Nat.not_lt_zero j)]
theorem id_s (i : Nat) : upd (fun j => if j < i then nI j else 0) i (nI i) = fun j => if j < i + 1 then nI j else 0 := by
  funext j
  show (if j = i then nI i else if j < i then nI j else 0) = if j < i + 1 then nI j else 0
  by_cases h : j = i
  · rw [if_pos h, if_pos (by omega), h]
  · by_cases h2 : j < i
    · rw [if_neg h, if_pos h2, if_pos (by omega)]
    · rw [if_neg h, if_neg h2, if_neg (by omega)]
set_option maxHeartbeats 4000000 in
set_option maxRecDepth 100000 in
theorem c_J7_fill_53178 (l : Launch) (D : va_G) (ct : Nat → ClassId) (sa : Nat → Nat) (a N : Nat) (f : Nat → Int32) (v : Int32) (hN : N < 2 ^ 31) : Met l yJ7_fill_53178 wsJ7_fill_53178 ({ frames := 0, cells := 0, slots := 0, locals := 0 }) (hkPc D ct sa [.ref a, .int v] (fun H => va_P D vwCl [(a, .inl (ct 0, N, .inl f))] H ∧ va_D (fun _ => True) [(a, .inl (ct 0, N, .inl f))])) (hkQ none D [(a, .inl (ct 0, N, .inl (fun j => if j < N then v else f j)))] [a]) 0 0 (hkA [a]) := by
  refine Met.ofW (cc := cJ7_fill_53178) (maxL := 4) (ret := none) (by decide) rfl ?_
  intro p e s m args below meth c s₁ B hml hv
  obtain ⟨rfl, hE, hp⟩ := hv
  have hx := B.exec
  have hb := B.bytes
  have hr := B.returns
  have hts := atoms_spec (ws := wsJ7_fill_53178) B.pre
  have hown : s.vm.findClass RJ7 = some m.cls := findClass_of_methodNamed B.named
  have hlocks := B.notSynchronized
  obtain ⟨hP, hD0⟩ := hp
  have hD : va_D (hkA [a]) [(a, .inl (ct 0, N, .inl f))] := hD0.weaken (fun k q hk _ => hk_mem hk)
  have hS : va_S (hkA [a]) s.heap s.heap [] := va_S.rf
  have hl := lv_entry ([.ref a, .int v]) (n := 4) (Nat.le_of_ble_eq_true rfl)
  rw [lg_entry_eq]
  generalize (lg_sl ([.ref a, .int v]) ++ List.replicate (4 - (lg_sl ([.ref a, .int v])).length) Slot.unset).toArray = ls at hl ⊢
  have hl : lv_has ls 4 [(0, .ref a), (1, .int v)] := hl
  refine lv_iconst (v := nI 0) hx hb dJ7_fill_53178_0 (by decide) ?_
  refine lv_istore_n (lv' := [(2, .int (nI 0)), (0, .ref a), (1, .int v)]) hx hb dJ7_fill_53178_1 rfl hl (by decide) rfl (fun ls hl => ?_)
  refine lv_aload_n hx hb dJ7_fill_53178_2 rfl (lv_at hl 1 rfl) ?_
  refine hk_alen0 hx hb hE hP 0 rfl dJ7_fill_53178_3 ?_
  refine lv_istore_n (lv' := [(3, .int (nI N)), (2, .int (nI 0)), (0, .ref a), (1, .int v)]) hx hb dJ7_fill_53178_4 rfl hl (by decide) rfl (fun ls hl => ?_)
  have hP : va_P D vwCl [(a, .inl (ct 0, N, .inl (fun j => if j < 0 then v else f j)))] s.heap := by rw [fill_0 f v] at hP; exact hP
  have hD : va_D (hkA [a]) [(a, .inl (ct 0, N, .inl (fun j => if j < 0 then v else f j)))] := by rw [fill_0 f v] at hD; exact hD
  have loop : ∀ (k : Nat) (i : Nat), N < i + k → i ≤ N → ∀ (H : Heap) (locs : List Loc), va_P D vwCl [(a, .inl (ct 0, N, .inl (fun j => if j < i then v else f j)))] H → va_D (hkA [a]) [(a, .inl (ct 0, N, .inl (fun j => if j < i then v else f j)))] → va_S (hkA [a]) s.heap H locs → ∀ (ls : Array Slot), lv_has ls 4 [(0, .ref a), (1, .int v), (3, .int (nI N)), (2, .int (nI i))] → W p l e (headSpec wsJ7_fill_53178 ({ frames := 0, cells := 0, slots := 0, locals := 0 })).room s m ([.ref a, .int v] : List Value).toArray below meth c H locs 0 0 (MQ below (hkQ none D [(a, .inl (ct 0, N, .inl (fun j => if j < N then v else f j)))] [a]) ([.ref a, .int v] : List Value).toArray s 0 0 (hkA [a])) (F0 m 5 ls []) := by
    intro k
    induction k with
    | zero => intro i hk; intros; exact absurd hk (by omega)
    | succ k ih_loop =>
      intro i hk hi H locs hP hD hS ls hl
      refine lv_iload_n hx hb dJ7_fill_53178_5 rfl (lv_at hl 3 rfl) ?_
      refine lv_iload_n hx hb dJ7_fill_53178_6 rfl (lv_at hl 2 rfl) ?_
      refine hk_geN (tgt := 20) hx hb (by omega) (by omega) dJ7_fill_53178_7 (by decide) (fun hc => ?_) (fun hc => ?_)
      · obtain rfl : i = N := by omega
        have hP9 : va_P D vwCl [(a, .inl (ct 0, i, .inl (fun j => if j < i then v else f j)))] H := hP
        exact W.vret hx hb hr (fun t ht hW => ⟨rfl, by rw [ht]; exact hP9, by rw [ht]; exact ⟨hS.1, hS.2.1⟩⟩) hS.2.2 dJ7_fill_53178_20
      · refine lv_aload_n hx hb dJ7_fill_53178_10 rfl (lv_at hl 0 rfl) ?_
        refine lv_iload_n hx hb dJ7_fill_53178_11 rfl (lv_at hl 3 rfl) ?_
        refine lv_iload_n hx hb dJ7_fill_53178_12 rfl (lv_at hl 1 rfl) ?_
        refine hk_iast hx hb hE hP hD hS 0 rfl (j := i) (x := v) (by omega) (by omega) dJ7_fill_53178_13 (fun H locs hP hD hS => ?_)
        have hP : va_P D vwCl [(a, .inl (ct 0, N, .inl (upd (fun j => if j < i then v else f j) i v)))] H := hP
        have hD : va_D (hkA [a]) [(a, .inl (ct 0, N, .inl (upd (fun j => if j < i then v else f j) i v)))] := hD
        have hP : va_P D vwCl [(a, .inl (ct 0, N, .inl (fun j => if j < (i + 1) then v else f j)))] H := by rw [fill_s f v i] at hP; exact hP
        have hD : va_D (hkA [a]) [(a, .inl (ct 0, N, .inl (fun j => if j < (i + 1) then v else f j)))] := by rw [fill_s f v i] at hD; exact hD
        refine lv_iinc (v := nI (i + 1)) (lv' := [(2, .int (nI (i + 1))), (0, .ref a), (1, .int v), (3, .int (nI N))]) hx hb dJ7_fill_53178_14 hl (k := 3) rfl (nI_add _ _) (by decide) rfl (fun ls hl => ?_)
        refine lv_goto (tgt := 5) hx hb dJ7_fill_53178_17 (by decide) ?_
        exact ih_loop (i + 1) (by omega) (by omega) H locs hP hD hS ls (lv_sub hl [1, 2, 3, 0] rfl)
  exact loop (N + 1) 0 (by omega) (by omega) s.heap [] hP hD hS ls (lv_sub hl [2, 3, 0, 1] rfl)

set_option maxHeartbeats 4000000 in
set_option maxRecDepth 100000 in
theorem c_X1_timeByCounts (l : Launch) (D : va_G) (ct : Nat → ClassId) (sa : Nat → Nat) (q0 q1 q2 q3 q4 q5 kp : Nat) (K L T : Nat → Nat) (S P : Nat → Int32) (Y C : Int32) (q6 : Nat) (F : Nat → Int32) (hkp : kp ≤ 30) (hK : ∀ x, x < 12 → K x < 12) (hT : ∀ p, T p < 12) : Met l yX1_timeByCounts wsX1_timeByCounts ({ frames := 2, cells := 0, slots := 0, locals := 43 }) (hkPc D ct sa [.ref q0, .ref q6] (fun H => va_P D vwCl [(q0, .inr (1, [.ref q1, .ref q2, .int Y, .ref q3, .ref q4, .ref q5, .int (nI kp), .int C])), (q1, .inl (ct 0, 12, .inl (fun j => nI (K j)))), (q2, .inl (ct 0, 12, .inl (fun j => nI (L j)))), (q3, .inl (ct 0, 12, .inl S)), (q4, .inl (ct 0, 144, .inl P)), (q5, .inl (ct 0, 30, .inl (fun j => nI (T j)))), (q6, .inl (ct 0, 144, .inl F))] H ∧ va_D (fun _ => True) [(q0, .inr (1, [.ref q1, .ref q2, .int Y, .ref q3, .ref q4, .ref q5, .int (nI kp), .int C])), (q1, .inl (ct 0, 12, .inl (fun j => nI (K j)))), (q2, .inl (ct 0, 12, .inl (fun j => nI (L j)))), (q3, .inl (ct 0, 12, .inl S)), (q4, .inl (ct 0, 144, .inl P)), (q5, .inl (ct 0, 30, .inl (fun j => nI (T j)))), (q6, .inl (ct 0, 144, .inl F))])) (hkQ (some (.int (nI (tt (gk K T) kp)))) D [(q0, .inr (1, [.ref q1, .ref q2, .int Y, .ref q3, .ref q4, .ref q5, .int (nI kp), .int C])), (q1, .inl (ct 0, 12, .inl (fun j => nI (K j)))), (q2, .inl (ct 0, 12, .inl (fun j => nI (L j)))), (q3, .inl (ct 0, 12, .inl S)), (q4, .inl (ct 0, 144, .inl P)), (q5, .inl (ct 0, 30, .inl (fun j => nI (T j)))), (q6, .inl (ct 0, 144, .inl (fun j => if j < 144 then nI (cn T j (cn_m kp)) else F j)))] [q0, q1, q2, q3, q4, q5, q6]) 0 0 (hkA [q0, q1, q2, q3, q4, q5, q6]) := by
  refine Met.ofW (cc := cX1_timeByCounts) (maxL := 6) (ret := (some .int)) (by decide) rfl ?_
  intro p e s m args below meth c s₁ B hml hv
  obtain ⟨rfl, hE, hp⟩ := hv
  have hx := B.exec
  have hb := B.bytes
  have hr := B.returns
  have hts := atoms_spec (ws := wsX1_timeByCounts) B.pre
  have hown : s.vm.findClass RX1 = some m.cls := findClass_of_methodNamed B.named
  have hlocks := B.notSynchronized
  have hin1 : ∀ w ∈ wsX10, w ∈ wsX1_timeByCounts := by decide +kernel
  obtain ⟨hP, hD0⟩ := hp
  have hD : va_D (hkA [q0, q1, q2, q3, q4, q5, q6]) [(q0, .inr (1, [.ref q1, .ref q2, .int Y, .ref q3, .ref q4, .ref q5, .int (nI kp), .int C])), (q1, .inl (ct 0, 12, .inl (fun j => nI (K j)))), (q2, .inl (ct 0, 12, .inl (fun j => nI (L j)))), (q3, .inl (ct 0, 12, .inl S)), (q4, .inl (ct 0, 144, .inl P)), (q5, .inl (ct 0, 30, .inl (fun j => nI (T j)))), (q6, .inl (ct 0, 144, .inl F))] := hD0.weaken (fun k q hk _ => hk_mem hk)
  have hS : va_S (hkA [q0, q1, q2, q3, q4, q5, q6]) s.heap s.heap [] := va_S.rf
  have hl := lv_entry ([.ref q0, .ref q6]) (n := 6) (Nat.le_of_ble_eq_true rfl)
  rw [lg_entry_eq]
  generalize (lg_sl ([.ref q0, .ref q6]) ++ List.replicate (6 - (lg_sl ([.ref q0, .ref q6])).length) Slot.unset).toArray = ls at hl ⊢
  have hl : lv_has ls 6 [(0, .ref q0), (1, .ref q6)] := hl
  refine lv_aload_n hx hb dX1_timeByCounts_0 rfl (lv_at hl 1 rfl) ?_
  refine lv_iconst (v := nI 0) hx hb dX1_timeByCounts_1 (by decide) ?_
  refine hk_M (rest := []) (va_Run.run (va_runS (As := [.ref q6, .int (nI 0)]) (rest := []) ⟨hx, hb, hml, hown, hts⟩ (c_J7_fill_53178 l D ct sa q6 144 F (nI 0) (by decide)) (va_cwS 2 hts gX1_timeByCounts_J7_fill_53178 rfl rfl rfl (by decide +kernel) ⟨Nat.le_of_ble_eq_true rfl, Nat.le_of_ble_eq_true rfl⟩) (hk_preS hE ⟨hP.sub (ws' := [(q6, .inl (ct 0, 144, .inl F))]) [6] rfl, (hD.sub (ws' := [(q6, .inl (ct 0, 144, .inl F))]) [6] (by decide) rfl).weaken (fun _ _ _ _ => trivial)⟩) rfl rfl hl.1 rfl (lv_room (Nat.le_of_ble_eq_true rfl)) dX1_timeByCounts_2 ⟨Nat.zero_le _, Nat.zero_le _⟩)) hP hD hS [6] (wc := [(q6, .inl (ct 0, 144, .inl F))]) rfl rfl rfl (fun H locs hP hD hS => ?_)
  have hP : va_P D vwCl [(q0, .inr (1, [.ref q1, .ref q2, .int Y, .ref q3, .ref q4, .ref q5, .int (nI kp), .int C])), (q1, .inl (ct 0, 12, .inl (fun j => nI (K j)))), (q2, .inl (ct 0, 12, .inl (fun j => nI (L j)))), (q3, .inl (ct 0, 12, .inl S)), (q4, .inl (ct 0, 144, .inl P)), (q5, .inl (ct 0, 30, .inl (fun j => nI (T j)))), (q6, .inl (ct 0, 144, .inl (fun j => if j < 144 then nI 0 else F j)))] H := hP
  have hD : va_D (hkA [q0, q1, q2, q3, q4, q5, q6]) [(q0, .inr (1, [.ref q1, .ref q2, .int Y, .ref q3, .ref q4, .ref q5, .int (nI kp), .int C])), (q1, .inl (ct 0, 12, .inl (fun j => nI (K j)))), (q2, .inl (ct 0, 12, .inl (fun j => nI (L j)))), (q3, .inl (ct 0, 12, .inl S)), (q4, .inl (ct 0, 144, .inl P)), (q5, .inl (ct 0, 30, .inl (fun j => nI (T j)))), (q6, .inl (ct 0, 144, .inl (fun j => if j < 144 then nI 0 else F j)))] := hD
  have hP : va_P D vwCl [(q0, .inr (1, [.ref q1, .ref q2, .int Y, .ref q3, .ref q4, .ref q5, .int (nI kp), .int C])), (q1, .inl (ct 0, 12, .inl (fun j => nI (K j)))), (q2, .inl (ct 0, 12, .inl (fun j => nI (L j)))), (q3, .inl (ct 0, 12, .inl S)), (q4, .inl (ct 0, 144, .inl P)), (q5, .inl (ct 0, 30, .inl (fun j => nI (T j)))), (q6, .inl (ct 0, 144, .inl (fun j => if j < 144 then nI (cn T j 0) else F j)))] H := by rw [show (fun j => if j < 144 then nI 0 else F j) = fun j => if j < 144 then nI (cn T j 0) else F j from rfl] at hP; exact hP
  have hD : va_D (hkA [q0, q1, q2, q3, q4, q5, q6]) [(q0, .inr (1, [.ref q1, .ref q2, .int Y, .ref q3, .ref q4, .ref q5, .int (nI kp), .int C])), (q1, .inl (ct 0, 12, .inl (fun j => nI (K j)))), (q2, .inl (ct 0, 12, .inl (fun j => nI (L j)))), (q3, .inl (ct 0, 12, .inl S)), (q4, .inl (ct 0, 144, .inl P)), (q5, .inl (ct 0, 30, .inl (fun j => nI (T j)))), (q6, .inl (ct 0, 144, .inl (fun j => if j < 144 then nI (cn T j 0) else F j)))] := by rw [show (fun j => if j < 144 then nI 0 else F j) = fun j => if j < 144 then nI (cn T j 0) else F j from rfl] at hD; exact hD
  refine lv_iconst (v := nI 1) hx hb dX1_timeByCounts_5 (by decide) ?_
  refine lv_istore_n (lv' := [(2, .int (nI 1)), (0, .ref q0), (1, .ref q6)]) hx hb dX1_timeByCounts_6 rfl hl (by decide) rfl (fun ls hl => ?_)
  have loop : ∀ (k : Nat) (i : Nat), kp < i + k → i + 1 ≤ kp ∨ (kp = 0 ∧ i = 0) → ∀ (H : Heap) (locs : List Loc), va_P D vwCl [(q0, .inr (1, [.ref q1, .ref q2, .int Y, .ref q3, .ref q4, .ref q5, .int (nI kp), .int C])), (q1, .inl (ct 0, 12, .inl (fun j => nI (K j)))), (q2, .inl (ct 0, 12, .inl (fun j => nI (L j)))), (q3, .inl (ct 0, 12, .inl S)), (q4, .inl (ct 0, 144, .inl P)), (q5, .inl (ct 0, 30, .inl (fun j => nI (T j)))), (q6, .inl (ct 0, 144, .inl (fun j => if j < 144 then nI (cn T j i) else F j)))] H → va_D (hkA [q0, q1, q2, q3, q4, q5, q6]) [(q0, .inr (1, [.ref q1, .ref q2, .int Y, .ref q3, .ref q4, .ref q5, .int (nI kp), .int C])), (q1, .inl (ct 0, 12, .inl (fun j => nI (K j)))), (q2, .inl (ct 0, 12, .inl (fun j => nI (L j)))), (q3, .inl (ct 0, 12, .inl S)), (q4, .inl (ct 0, 144, .inl P)), (q5, .inl (ct 0, 30, .inl (fun j => nI (T j)))), (q6, .inl (ct 0, 144, .inl (fun j => if j < 144 then nI (cn T j i) else F j)))] → va_S (hkA [q0, q1, q2, q3, q4, q5, q6]) s.heap H locs → ∀ (ls : Array Slot), lv_has ls 6 [(0, .ref q0), (1, .ref q6), (2, .int (nI (i + 1)))] → W p l e (headSpec wsX1_timeByCounts ({ frames := 2, cells := 0, slots := 0, locals := 43 })).room s m ([.ref q0, .ref q6] : List Value).toArray below meth c H locs 0 0 (MQ below (hkQ (some (.int (nI (tt (gk K T) kp)))) D [(q0, .inr (1, [.ref q1, .ref q2, .int Y, .ref q3, .ref q4, .ref q5, .int (nI kp), .int C])), (q1, .inl (ct 0, 12, .inl (fun j => nI (K j)))), (q2, .inl (ct 0, 12, .inl (fun j => nI (L j)))), (q3, .inl (ct 0, 12, .inl S)), (q4, .inl (ct 0, 144, .inl P)), (q5, .inl (ct 0, 30, .inl (fun j => nI (T j)))), (q6, .inl (ct 0, 144, .inl (fun j => if j < 144 then nI (cn T j (cn_m kp)) else F j)))] [q0, q1, q2, q3, q4, q5, q6]) ([.ref q0, .ref q6] : List Value).toArray s 0 0 (hkA [q0, q1, q2, q3, q4, q5, q6])) (F0 m 7 ls []) := by
    intro k
    induction k with
    | zero => intro i hk; intros; exact absurd hk (by omega)
    | succ k ih_loop =>
      intro i hk hi H locs hP hD hS ls hl
      refine lv_iload_n hx hb dX1_timeByCounts_7 rfl (lv_at hl 2 rfl) ?_
      refine lv_aload_n hx hb dX1_timeByCounts_8 rfl (lv_at hl 0 rfl) ?_
      refine va_get (D := D) (ci := 1) (v := .int (nI kp)) (C := RX1) (T := TX1) (N := 8) hx hb hts hin1 hown hE.1 hP 0 rfl rfl 6 (by decide) (hts (.fieldLink RX1 31 "Homekeys$Student" "kept" "I") (by decide +kernel)) (fun _ h9 => h9) rfl dX1_timeByCounts_9 ?_
      refine hk_geN (tgt := 46) hx hb (by omega) (by omega) dX1_timeByCounts_12 (by decide) (fun hc => ?_) (fun hc => ?_)
      · have hik : cn_m kp = i := by unfold cn_m; omega
        refine lv_aload_n hx hb dX1_timeByCounts_46 rfl (lv_at hl 0 rfl) ?_
        refine va_get (D := D) (ci := 1) (v := .int (nI kp)) (C := RX1) (T := TX1) (N := 8) hx hb hts hin1 hown hE.1 hP 0 rfl rfl 6 (by decide) (hts (.fieldLink RX1 31 "Homekeys$Student" "kept" "I") (by decide +kernel)) (fun _ h9 => h9) rfl dX1_timeByCounts_47 ?_
        refine hk_le0N (tgt := 57) hx hb (by omega) dX1_timeByCounts_50 (by decide) (fun h0 => ?_) (fun h0 => ?_)
        · refine lv_iconst (v := nI 0) hx hb dX1_timeByCounts_57 (by decide) ?_
          refine lv_istore_n (lv' := [(2, .int (nI 0)), (0, .ref q0), (1, .ref q6)]) hx hb dX1_timeByCounts_58 rfl hl (by decide) rfl (fun ls hl => ?_)
          refine lv_iconst (v := nI 0) hx hb dX1_timeByCounts_59 (by decide) ?_
          refine lv_istore_n (lv' := [(3, .int (nI 0)), (2, .int (nI 0)), (0, .ref q0), (1, .ref q6)]) hx hb dX1_timeByCounts_60 rfl hl (by decide) rfl (fun ls hl => ?_)
          have lo20 : ∀ (k : Nat) (a : Nat), 12 < a + k → a ≤ 12 → ∀ (ls : Array Slot), lv_has ls 6 [(0, .ref q0), (1, .ref q6), (2, .int (nI (0 + su K T i (12 * a)))), (3, .int (nI a))] → W p l e (headSpec wsX1_timeByCounts ({ frames := 2, cells := 0, slots := 0, locals := 43 })).room s m ([.ref q0, .ref q6] : List Value).toArray below meth c H locs 0 0 (MQ below (hkQ (some (.int (nI (tt (gk K T) kp)))) D [(q0, .inr (1, [.ref q1, .ref q2, .int Y, .ref q3, .ref q4, .ref q5, .int (nI kp), .int C])), (q1, .inl (ct 0, 12, .inl (fun j => nI (K j)))), (q2, .inl (ct 0, 12, .inl (fun j => nI (L j)))), (q3, .inl (ct 0, 12, .inl S)), (q4, .inl (ct 0, 144, .inl P)), (q5, .inl (ct 0, 30, .inl (fun j => nI (T j)))), (q6, .inl (ct 0, 144, .inl (fun j => if j < 144 then nI (cn T j (cn_m kp)) else F j)))] [q0, q1, q2, q3, q4, q5, q6]) ([.ref q0, .ref q6] : List Value).toArray s 0 0 (hkA [q0, q1, q2, q3, q4, q5, q6])) (F0 m 61 ls []) := by
            intro k
            induction k with
            | zero => intro a hk; intros; exact absurd hk (by omega)
            | succ k ih_lo20 =>
              intro a hk ha ls hl
              refine lv_iload_n hx hb dX1_timeByCounts_61 rfl (lv_at hl 3 rfl) ?_
              refine lv_bipush (v := nI 12) hx hb dX1_timeByCounts_62 (by decide) ?_
              refine hk_geN (tgt := 127) hx hb (by omega) (by omega) dX1_timeByCounts_64 (by decide) (fun h5 => ?_) (fun h5 => ?_)
              · obtain rfl : a = 12 := by omega
                refine lv_iload_n hx hb dX1_timeByCounts_127 rfl (lv_at hl 2 rfl) ?_
                have hP : va_P D vwCl [(q0, .inr (1, [.ref q1, .ref q2, .int Y, .ref q3, .ref q4, .ref q5, .int (nI kp), .int C])), (q1, .inl (ct 0, 12, .inl (fun j => nI (K j)))), (q2, .inl (ct 0, 12, .inl (fun j => nI (L j)))), (q3, .inl (ct 0, 12, .inl S)), (q4, .inl (ct 0, 144, .inl P)), (q5, .inl (ct 0, 30, .inl (fun j => nI (T j)))), (q6, .inl (ct 0, 144, .inl (fun j => if j < 144 then nI (cn T j i) else F j)))] H := hP
                have hP9 : va_P D vwCl [(q0, .inr (1, [.ref q1, .ref q2, .int Y, .ref q3, .ref q4, .ref q5, .int (nI kp), .int C])), (q1, .inl (ct 0, 12, .inl (fun j => nI (K j)))), (q2, .inl (ct 0, 12, .inl (fun j => nI (L j)))), (q3, .inl (ct 0, 12, .inl S)), (q4, .inl (ct 0, 144, .inl P)), (q5, .inl (ct 0, 30, .inl (fun j => nI (T j)))), (q6, .inl (ct 0, 144, .inl (fun j => if j < 144 then nI (cn T j i) else F j)))] H := hP
                exact W.iret (v := nI (0 + su K T i (12 * 12))) hx hb hr (fun t ht hW => ⟨by rw [su_tt0 K T kp i (by omega) (by omega)], by rw [ht]; rw [hik]; exact hP9, by rw [ht]; exact ⟨hS.1, hS.2.1⟩⟩) hS.2.2 dX1_timeByCounts_128
              · refine lv_iconst (v := nI 0) hx hb dX1_timeByCounts_67 (by decide) ?_
                refine lv_istore (lv' := [(4, .int (nI 0)), (0, .ref q0), (1, .ref q6), (2, .int (nI (0 + su K T i (12 * a)))), (3, .int (nI a))]) hx hb dX1_timeByCounts_68 hl (by decide) rfl (fun ls hl => ?_)
                have lo30 : ∀ (k : Nat) (b : Nat), 12 < b + k → b ≤ 12 → ∀ (ls : Array Slot), lv_has ls 6 [(0, .ref q0), (1, .ref q6), (2, .int (nI (0 + su K T i (12 * a + b)))), (3, .int (nI a)), (4, .int (nI b))] → W p l e (headSpec wsX1_timeByCounts ({ frames := 2, cells := 0, slots := 0, locals := 43 })).room s m ([.ref q0, .ref q6] : List Value).toArray below meth c H locs 0 0 (MQ below (hkQ (some (.int (nI (tt (gk K T) kp)))) D [(q0, .inr (1, [.ref q1, .ref q2, .int Y, .ref q3, .ref q4, .ref q5, .int (nI kp), .int C])), (q1, .inl (ct 0, 12, .inl (fun j => nI (K j)))), (q2, .inl (ct 0, 12, .inl (fun j => nI (L j)))), (q3, .inl (ct 0, 12, .inl S)), (q4, .inl (ct 0, 144, .inl P)), (q5, .inl (ct 0, 30, .inl (fun j => nI (T j)))), (q6, .inl (ct 0, 144, .inl (fun j => if j < 144 then nI (cn T j (cn_m kp)) else F j)))] [q0, q1, q2, q3, q4, q5, q6]) ([.ref q0, .ref q6] : List Value).toArray s 0 0 (hkA [q0, q1, q2, q3, q4, q5, q6])) (F0 m 70 ls []) := by
                  intro k
                  induction k with
                  | zero => intro b hk; intros; exact absurd hk (by omega)
                  | succ k ih_lo30 =>
                    intro b hk hb0 ls hl
                    refine lv_iload hx hb dX1_timeByCounts_70 (lv_at hl 4 rfl) ?_
                    refine lv_bipush (v := nI 12) hx hb dX1_timeByCounts_72 (by decide) ?_
                    refine hk_geN (tgt := 121) hx hb (by omega) (by omega) dX1_timeByCounts_74 (by decide) (fun h6 => ?_) (fun h6 => ?_)
                    · obtain rfl : b = 12 := by omega
                      refine lv_iinc (v := nI (a + 1)) (lv' := [(3, .int (nI (a + 1))), (0, .ref q0), (1, .ref q6), (2, .int (nI (0 + su K T i (12 * a + 12)))), (4, .int (nI 12))]) hx hb dX1_timeByCounts_121 hl (k := 3) rfl (nI_add _ _) (by decide) rfl (fun ls hl => ?_)
                      refine lv_goto (tgt := 61) hx hb dX1_timeByCounts_124 (by decide) ?_
                      exact ih_lo20 (a + 1) (by omega) (by omega) ls (lv_sub hl [1, 2, 3, 0] rfl)
                    · have hKa := hK a (by omega)
                      have hKb := hK b (by omega)
                      refine lv_aload_n hx hb dX1_timeByCounts_77 rfl (lv_at hl 0 rfl) ?_
                      refine va_get (D := D) (ci := 1) (v := .ref q1) (C := RX1) (T := TX1) (N := 8) hx hb hts hin1 hown hE.1 hP 0 rfl rfl 0 (by decide) (hts (.fieldLink RX1 9 "Homekeys$Student" "keys" "[I") (by decide +kernel)) (fun _ h9 => h9) rfl dX1_timeByCounts_78 ?_
                      refine lv_iload_n hx hb dX1_timeByCounts_81 rfl (lv_at hl 3 rfl) ?_
                      refine hk_R (rest := []) (va_Run.run (va_runSN (host := RX2) (As := [.ref q1, .int (nI a)]) (rest := []) ⟨hx, hb, hml, hown, hts⟩ (c_X2_at l D ct sa q1 12 (fun j => nI (K j)) (nI a) (by decide)) ⟨va_cnB 2 hts gX1_timeByCounts_X2_at_n41 rfl rfl rfl (hE.nw hkN_X1_41) (hts (.initialized RX2) (by decide +kernel)) (by decide +kernel) ⟨Nat.le_of_ble_eq_true rfl, Nat.le_of_ble_eq_true rfl⟩, hts (.static yX2_at) (by decide +kernel), trivial⟩ (hk_preS hE (hP.sub (ws' := [(q1, .inl (ct 0, 12, .inl (fun j => nI (K j))))]) [1] rfl)) rfl rfl hl.1 rfl (lv_room (Nat.le_of_ble_eq_true rfl)) dX1_timeByCounts_82 ⟨Nat.zero_le _, Nat.zero_le _⟩)) ?_
                      refine hk_top (y := nI (K a)) (hkAt_in (by omega) (by decide)) ?_
                      refine lv_aload_n hx hb dX1_timeByCounts_85 rfl (lv_at hl 0 rfl) ?_
                      refine va_get (D := D) (ci := 1) (v := .ref q1) (C := RX1) (T := TX1) (N := 8) hx hb hts hin1 hown hE.1 hP 0 rfl rfl 0 (by decide) (hts (.fieldLink RX1 9 "Homekeys$Student" "keys" "[I") (by decide +kernel)) (fun _ h9 => h9) rfl dX1_timeByCounts_86 ?_
                      refine lv_iload hx hb dX1_timeByCounts_89 (lv_at hl 4 rfl) ?_
                      refine hk_R (rest := [.int (nI (K a))]) (va_Run.run (va_runSN (host := RX2) (As := [.ref q1, .int (nI b)]) (rest := [.int (nI (K a))]) ⟨hx, hb, hml, hown, hts⟩ (c_X2_at l D ct sa q1 12 (fun j => nI (K j)) (nI b) (by decide)) ⟨va_cnB 2 hts gX1_timeByCounts_X2_at_n41 rfl rfl rfl (hE.nw hkN_X1_41) (hts (.initialized RX2) (by decide +kernel)) (by decide +kernel) ⟨Nat.le_of_ble_eq_true rfl, Nat.le_of_ble_eq_true rfl⟩, hts (.static yX2_at) (by decide +kernel), trivial⟩ (hk_preS hE (hP.sub (ws' := [(q1, .inl (ct 0, 12, .inl (fun j => nI (K j))))]) [1] rfl)) rfl rfl hl.1 rfl (lv_room (Nat.le_of_ble_eq_true rfl)) dX1_timeByCounts_91 ⟨Nat.zero_le _, Nat.zero_le _⟩)) ?_
                      refine hk_top (y := nI (K b)) (hkAt_in (by omega) (by decide)) ?_
                      refine hk_R (rest := []) (va_Run.run (va_runSN (host := RX2) (As := [.int (nI (K a)), .int (nI (K b))]) (rest := []) ⟨hx, hb, hml, hown, hts⟩ (c_X2_stepTime l D ct sa (K a) (K b) hKa hKb) ⟨va_cnB 2 hts gX1_timeByCounts_X2_stepTime_n78 rfl rfl rfl (hE.nw hkN_X1_78) (hts (.initialized RX2) (by decide +kernel)) (by decide +kernel) ⟨Nat.le_of_ble_eq_true rfl, Nat.le_of_ble_eq_true rfl⟩, hts (.static yX2_stepTime) (by decide +kernel), trivial⟩ (hk_preS hE trivial) rfl rfl hl.1 rfl (lv_room (Nat.le_of_ble_eq_true rfl)) dX1_timeByCounts_94 ⟨Nat.zero_le _, Nat.zero_le _⟩)) ?_
                      refine lv_istore (lv' := [(5, .int (nI (stp (K a) (K b)))), (0, .ref q0), (1, .ref q6), (2, .int (nI (0 + su K T i (12 * a + b)))), (3, .int (nI a)), (4, .int (nI b))]) hx hb dX1_timeByCounts_97 hl (by decide) rfl (fun ls hl => ?_)
                      refine lv_iload_n hx hb dX1_timeByCounts_99 rfl (lv_at hl 3 rfl) ?_
                      refine lv_aload_n hx hb dX1_timeByCounts_100 rfl (lv_at hl 2 rfl) ?_
                      refine lv_iload_n hx hb dX1_timeByCounts_101 rfl (lv_at hl 4 rfl) ?_
                      refine lv_iload hx hb dX1_timeByCounts_102 (lv_at hl 5 rfl) ?_
                      refine hk_R (rest := [.ref q6, .int (nI (0 + su K T i (12 * a + b)))]) (va_Run.run (va_runSN (host := RX2) (As := [.int (nI a), .int (nI b)]) (rest := [.ref q6, .int (nI (0 + su K T i (12 * a + b)))]) ⟨hx, hb, hml, hown, hts⟩ (c_X2_pairPlace l D ct sa a b) ⟨va_cnB 2 hts gX1_timeByCounts_X2_pairPlace_n49 rfl rfl rfl (hE.nw hkN_X1_49) (hts (.initialized RX2) (by decide +kernel)) (by decide +kernel) ⟨Nat.le_of_ble_eq_true rfl, Nat.le_of_ble_eq_true rfl⟩, hts (.static yX2_pairPlace) (by decide +kernel), trivial⟩ (hk_preS hE trivial) rfl rfl hl.1 rfl (lv_room (Nat.le_of_ble_eq_true rfl)) dX1_timeByCounts_104 ⟨Nat.zero_le _, Nat.zero_le _⟩)) ?_
                      refine hk_R (rest := [.int (nI (0 + su K T i (12 * a + b)))]) (va_Run.run (va_runSN (host := RX2) (As := [.ref q6, .int (nI (12 * a + b))]) (rest := [.int (nI (0 + su K T i (12 * a + b)))]) ⟨hx, hb, hml, hown, hts⟩ (c_X2_at l D ct sa q6 144 (fun j => if j < 144 then nI (cn T j i) else F j) (nI (12 * a + b)) (by decide)) ⟨va_cnB 2 hts gX1_timeByCounts_X2_at_n41 rfl rfl rfl (hE.nw hkN_X1_41) (hts (.initialized RX2) (by decide +kernel)) (by decide +kernel) ⟨Nat.le_of_ble_eq_true rfl, Nat.le_of_ble_eq_true rfl⟩, hts (.static yX2_at) (by decide +kernel), trivial⟩ (hk_preS hE (hP.sub (ws' := [(q6, .inl (ct 0, 144, .inl (fun j => if j < 144 then nI (cn T j i) else F j)))]) [6] rfl)) rfl rfl hl.1 rfl (lv_room (Nat.le_of_ble_eq_true rfl)) dX1_timeByCounts_107 ⟨Nat.zero_le _, Nat.zero_le _⟩)) ?_
                      refine hk_top (y := nI (cn T (12 * a + b) i)) ((hkAt_in (by omega) (by decide)).trans (if_pos (by omega))) ?_
                      refine lv_iload hx hb dX1_timeByCounts_110 (lv_at hl 0 rfl) ?_
                      refine hk_mulN hx hb dX1_timeByCounts_112 ?_
                      refine hk_addN hx hb dX1_timeByCounts_113 ?_
                      refine lv_istore_n (lv' := [(2, .int (nI ((0 + su K T i (12 * a + b)) + ((cn T (12 * a + b) i) * (stp (K a) (K b)))))), (5, .int (nI (stp (K a) (K b)))), (0, .ref q0), (1, .ref q6), (3, .int (nI a)), (4, .int (nI b))]) hx hb dX1_timeByCounts_114 rfl hl (by decide) rfl (fun ls hl => ?_)
                      refine lv_iinc (v := nI (b + 1)) (lv' := [(4, .int (nI (b + 1))), (2, .int (nI ((0 + su K T i (12 * a + b)) + ((cn T (12 * a + b) i) * (stp (K a) (K b)))))), (5, .int (nI (stp (K a) (K b)))), (0, .ref q0), (1, .ref q6), (3, .int (nI a))]) hx hb dX1_timeByCounts_115 hl (k := 5) rfl (nI_add _ _) (by decide) rfl (fun ls hl => ?_)
                      refine lv_goto (tgt := 70) hx hb dX1_timeByCounts_118 (by decide) ?_
                      exact ih_lo30 (b + 1) (by omega) (by omega) ls (by rw [show 12 * a + (b + 1) = 12 * a + b + 1 from rfl, su_step K T i a b (by omega), ← Nat.add_assoc]; exact lv_sub hl [3, 4, 1, 5, 0] rfl)
                exact lo30 13 0 (by omega) (by omega) ls (lv_sub hl [1, 2, 3, 4, 0] rfl)
          exact lo20 13 0 (by omega) (by omega) ls (lv_sub hl [2, 3, 1, 0] rfl)
        · refine lv_iconst (v := nI 2) hx hb dX1_timeByCounts_53 (by decide) ?_
          refine lv_goto (tgt := 58) hx hb dX1_timeByCounts_54 (by decide) ?_
          refine lv_istore_n (lv' := [(2, .int (nI 2)), (0, .ref q0), (1, .ref q6)]) hx hb dX1_timeByCounts_58 rfl hl (by decide) rfl (fun ls hl => ?_)
          refine lv_iconst (v := nI 0) hx hb dX1_timeByCounts_59 (by decide) ?_
          refine lv_istore_n (lv' := [(3, .int (nI 0)), (2, .int (nI 2)), (0, .ref q0), (1, .ref q6)]) hx hb dX1_timeByCounts_60 rfl hl (by decide) rfl (fun ls hl => ?_)
          have lo22 : ∀ (k : Nat) (a : Nat), 12 < a + k → a ≤ 12 → ∀ (ls : Array Slot), lv_has ls 6 [(0, .ref q0), (1, .ref q6), (2, .int (nI (2 + su K T i (12 * a)))), (3, .int (nI a))] → W p l e (headSpec wsX1_timeByCounts ({ frames := 2, cells := 0, slots := 0, locals := 43 })).room s m ([.ref q0, .ref q6] : List Value).toArray below meth c H locs 0 0 (MQ below (hkQ (some (.int (nI (tt (gk K T) kp)))) D [(q0, .inr (1, [.ref q1, .ref q2, .int Y, .ref q3, .ref q4, .ref q5, .int (nI kp), .int C])), (q1, .inl (ct 0, 12, .inl (fun j => nI (K j)))), (q2, .inl (ct 0, 12, .inl (fun j => nI (L j)))), (q3, .inl (ct 0, 12, .inl S)), (q4, .inl (ct 0, 144, .inl P)), (q5, .inl (ct 0, 30, .inl (fun j => nI (T j)))), (q6, .inl (ct 0, 144, .inl (fun j => if j < 144 then nI (cn T j (cn_m kp)) else F j)))] [q0, q1, q2, q3, q4, q5, q6]) ([.ref q0, .ref q6] : List Value).toArray s 0 0 (hkA [q0, q1, q2, q3, q4, q5, q6])) (F0 m 61 ls []) := by
            intro k
            induction k with
            | zero => intro a hk; intros; exact absurd hk (by omega)
            | succ k ih_lo22 =>
              intro a hk ha ls hl
              refine lv_iload_n hx hb dX1_timeByCounts_61 rfl (lv_at hl 3 rfl) ?_
              refine lv_bipush (v := nI 12) hx hb dX1_timeByCounts_62 (by decide) ?_
              refine hk_geN (tgt := 127) hx hb (by omega) (by omega) dX1_timeByCounts_64 (by decide) (fun h5 => ?_) (fun h5 => ?_)
              · obtain rfl : a = 12 := by omega
                refine lv_iload_n hx hb dX1_timeByCounts_127 rfl (lv_at hl 2 rfl) ?_
                have hP : va_P D vwCl [(q0, .inr (1, [.ref q1, .ref q2, .int Y, .ref q3, .ref q4, .ref q5, .int (nI kp), .int C])), (q1, .inl (ct 0, 12, .inl (fun j => nI (K j)))), (q2, .inl (ct 0, 12, .inl (fun j => nI (L j)))), (q3, .inl (ct 0, 12, .inl S)), (q4, .inl (ct 0, 144, .inl P)), (q5, .inl (ct 0, 30, .inl (fun j => nI (T j)))), (q6, .inl (ct 0, 144, .inl (fun j => if j < 144 then nI (cn T j i) else F j)))] H := hP
                have hP9 : va_P D vwCl [(q0, .inr (1, [.ref q1, .ref q2, .int Y, .ref q3, .ref q4, .ref q5, .int (nI kp), .int C])), (q1, .inl (ct 0, 12, .inl (fun j => nI (K j)))), (q2, .inl (ct 0, 12, .inl (fun j => nI (L j)))), (q3, .inl (ct 0, 12, .inl S)), (q4, .inl (ct 0, 144, .inl P)), (q5, .inl (ct 0, 30, .inl (fun j => nI (T j)))), (q6, .inl (ct 0, 144, .inl (fun j => if j < 144 then nI (cn T j i) else F j)))] H := hP
                exact W.iret (v := nI (2 + su K T i (12 * 12))) hx hb hr (fun t ht hW => ⟨by rw [su_tt2 K T kp i (by omega) hT], by rw [ht]; rw [hik]; exact hP9, by rw [ht]; exact ⟨hS.1, hS.2.1⟩⟩) hS.2.2 dX1_timeByCounts_128
              · refine lv_iconst (v := nI 0) hx hb dX1_timeByCounts_67 (by decide) ?_
                refine lv_istore (lv' := [(4, .int (nI 0)), (0, .ref q0), (1, .ref q6), (2, .int (nI (2 + su K T i (12 * a)))), (3, .int (nI a))]) hx hb dX1_timeByCounts_68 hl (by decide) rfl (fun ls hl => ?_)
                have lo32 : ∀ (k : Nat) (b : Nat), 12 < b + k → b ≤ 12 → ∀ (ls : Array Slot), lv_has ls 6 [(0, .ref q0), (1, .ref q6), (2, .int (nI (2 + su K T i (12 * a + b)))), (3, .int (nI a)), (4, .int (nI b))] → W p l e (headSpec wsX1_timeByCounts ({ frames := 2, cells := 0, slots := 0, locals := 43 })).room s m ([.ref q0, .ref q6] : List Value).toArray below meth c H locs 0 0 (MQ below (hkQ (some (.int (nI (tt (gk K T) kp)))) D [(q0, .inr (1, [.ref q1, .ref q2, .int Y, .ref q3, .ref q4, .ref q5, .int (nI kp), .int C])), (q1, .inl (ct 0, 12, .inl (fun j => nI (K j)))), (q2, .inl (ct 0, 12, .inl (fun j => nI (L j)))), (q3, .inl (ct 0, 12, .inl S)), (q4, .inl (ct 0, 144, .inl P)), (q5, .inl (ct 0, 30, .inl (fun j => nI (T j)))), (q6, .inl (ct 0, 144, .inl (fun j => if j < 144 then nI (cn T j (cn_m kp)) else F j)))] [q0, q1, q2, q3, q4, q5, q6]) ([.ref q0, .ref q6] : List Value).toArray s 0 0 (hkA [q0, q1, q2, q3, q4, q5, q6])) (F0 m 70 ls []) := by
                  intro k
                  induction k with
                  | zero => intro b hk; intros; exact absurd hk (by omega)
                  | succ k ih_lo32 =>
                    intro b hk hb0 ls hl
                    refine lv_iload hx hb dX1_timeByCounts_70 (lv_at hl 4 rfl) ?_
                    refine lv_bipush (v := nI 12) hx hb dX1_timeByCounts_72 (by decide) ?_
                    refine hk_geN (tgt := 121) hx hb (by omega) (by omega) dX1_timeByCounts_74 (by decide) (fun h6 => ?_) (fun h6 => ?_)
                    · obtain rfl : b = 12 := by omega
                      refine lv_iinc (v := nI (a + 1)) (lv' := [(3, .int (nI (a + 1))), (0, .ref q0), (1, .ref q6), (2, .int (nI (2 + su K T i (12 * a + 12)))), (4, .int (nI 12))]) hx hb dX1_timeByCounts_121 hl (k := 3) rfl (nI_add _ _) (by decide) rfl (fun ls hl => ?_)
                      refine lv_goto (tgt := 61) hx hb dX1_timeByCounts_124 (by decide) ?_
                      exact ih_lo22 (a + 1) (by omega) (by omega) ls (lv_sub hl [1, 2, 3, 0] rfl)
                    · have hKa := hK a (by omega)
                      have hKb := hK b (by omega)
                      refine lv_aload_n hx hb dX1_timeByCounts_77 rfl (lv_at hl 0 rfl) ?_
                      refine va_get (D := D) (ci := 1) (v := .ref q1) (C := RX1) (T := TX1) (N := 8) hx hb hts hin1 hown hE.1 hP 0 rfl rfl 0 (by decide) (hts (.fieldLink RX1 9 "Homekeys$Student" "keys" "[I") (by decide +kernel)) (fun _ h9 => h9) rfl dX1_timeByCounts_78 ?_
                      refine lv_iload_n hx hb dX1_timeByCounts_81 rfl (lv_at hl 3 rfl) ?_
                      refine hk_R (rest := []) (va_Run.run (va_runSN (host := RX2) (As := [.ref q1, .int (nI a)]) (rest := []) ⟨hx, hb, hml, hown, hts⟩ (c_X2_at l D ct sa q1 12 (fun j => nI (K j)) (nI a) (by decide)) ⟨va_cnB 2 hts gX1_timeByCounts_X2_at_n41 rfl rfl rfl (hE.nw hkN_X1_41) (hts (.initialized RX2) (by decide +kernel)) (by decide +kernel) ⟨Nat.le_of_ble_eq_true rfl, Nat.le_of_ble_eq_true rfl⟩, hts (.static yX2_at) (by decide +kernel), trivial⟩ (hk_preS hE (hP.sub (ws' := [(q1, .inl (ct 0, 12, .inl (fun j => nI (K j))))]) [1] rfl)) rfl rfl hl.1 rfl (lv_room (Nat.le_of_ble_eq_true rfl)) dX1_timeByCounts_82 ⟨Nat.zero_le _, Nat.zero_le _⟩)) ?_
                      refine hk_top (y := nI (K a)) (hkAt_in (by omega) (by decide)) ?_
                      refine lv_aload_n hx hb dX1_timeByCounts_85 rfl (lv_at hl 0 rfl) ?_
                      refine va_get (D := D) (ci := 1) (v := .ref q1) (C := RX1) (T := TX1) (N := 8) hx hb hts hin1 hown hE.1 hP 0 rfl rfl 0 (by decide) (hts (.fieldLink RX1 9 "Homekeys$Student" "keys" "[I") (by decide +kernel)) (fun _ h9 => h9) rfl dX1_timeByCounts_86 ?_
                      refine lv_iload hx hb dX1_timeByCounts_89 (lv_at hl 4 rfl) ?_
                      refine hk_R (rest := [.int (nI (K a))]) (va_Run.run (va_runSN (host := RX2) (As := [.ref q1, .int (nI b)]) (rest := [.int (nI (K a))]) ⟨hx, hb, hml, hown, hts⟩ (c_X2_at l D ct sa q1 12 (fun j => nI (K j)) (nI b) (by decide)) ⟨va_cnB 2 hts gX1_timeByCounts_X2_at_n41 rfl rfl rfl (hE.nw hkN_X1_41) (hts (.initialized RX2) (by decide +kernel)) (by decide +kernel) ⟨Nat.le_of_ble_eq_true rfl, Nat.le_of_ble_eq_true rfl⟩, hts (.static yX2_at) (by decide +kernel), trivial⟩ (hk_preS hE (hP.sub (ws' := [(q1, .inl (ct 0, 12, .inl (fun j => nI (K j))))]) [1] rfl)) rfl rfl hl.1 rfl (lv_room (Nat.le_of_ble_eq_true rfl)) dX1_timeByCounts_91 ⟨Nat.zero_le _, Nat.zero_le _⟩)) ?_
                      refine hk_top (y := nI (K b)) (hkAt_in (by omega) (by decide)) ?_
                      refine hk_R (rest := []) (va_Run.run (va_runSN (host := RX2) (As := [.int (nI (K a)), .int (nI (K b))]) (rest := []) ⟨hx, hb, hml, hown, hts⟩ (c_X2_stepTime l D ct sa (K a) (K b) hKa hKb) ⟨va_cnB 2 hts gX1_timeByCounts_X2_stepTime_n78 rfl rfl rfl (hE.nw hkN_X1_78) (hts (.initialized RX2) (by decide +kernel)) (by decide +kernel) ⟨Nat.le_of_ble_eq_true rfl, Nat.le_of_ble_eq_true rfl⟩, hts (.static yX2_stepTime) (by decide +kernel), trivial⟩ (hk_preS hE trivial) rfl rfl hl.1 rfl (lv_room (Nat.le_of_ble_eq_true rfl)) dX1_timeByCounts_94 ⟨Nat.zero_le _, Nat.zero_le _⟩)) ?_
                      refine lv_istore (lv' := [(5, .int (nI (stp (K a) (K b)))), (0, .ref q0), (1, .ref q6), (2, .int (nI (2 + su K T i (12 * a + b)))), (3, .int (nI a)), (4, .int (nI b))]) hx hb dX1_timeByCounts_97 hl (by decide) rfl (fun ls hl => ?_)
                      refine lv_iload_n hx hb dX1_timeByCounts_99 rfl (lv_at hl 3 rfl) ?_
                      refine lv_aload_n hx hb dX1_timeByCounts_100 rfl (lv_at hl 2 rfl) ?_
                      refine lv_iload_n hx hb dX1_timeByCounts_101 rfl (lv_at hl 4 rfl) ?_
                      refine lv_iload hx hb dX1_timeByCounts_102 (lv_at hl 5 rfl) ?_
                      refine hk_R (rest := [.ref q6, .int (nI (2 + su K T i (12 * a + b)))]) (va_Run.run (va_runSN (host := RX2) (As := [.int (nI a), .int (nI b)]) (rest := [.ref q6, .int (nI (2 + su K T i (12 * a + b)))]) ⟨hx, hb, hml, hown, hts⟩ (c_X2_pairPlace l D ct sa a b) ⟨va_cnB 2 hts gX1_timeByCounts_X2_pairPlace_n49 rfl rfl rfl (hE.nw hkN_X1_49) (hts (.initialized RX2) (by decide +kernel)) (by decide +kernel) ⟨Nat.le_of_ble_eq_true rfl, Nat.le_of_ble_eq_true rfl⟩, hts (.static yX2_pairPlace) (by decide +kernel), trivial⟩ (hk_preS hE trivial) rfl rfl hl.1 rfl (lv_room (Nat.le_of_ble_eq_true rfl)) dX1_timeByCounts_104 ⟨Nat.zero_le _, Nat.zero_le _⟩)) ?_
                      refine hk_R (rest := [.int (nI (2 + su K T i (12 * a + b)))]) (va_Run.run (va_runSN (host := RX2) (As := [.ref q6, .int (nI (12 * a + b))]) (rest := [.int (nI (2 + su K T i (12 * a + b)))]) ⟨hx, hb, hml, hown, hts⟩ (c_X2_at l D ct sa q6 144 (fun j => if j < 144 then nI (cn T j i) else F j) (nI (12 * a + b)) (by decide)) ⟨va_cnB 2 hts gX1_timeByCounts_X2_at_n41 rfl rfl rfl (hE.nw hkN_X1_41) (hts (.initialized RX2) (by decide +kernel)) (by decide +kernel) ⟨Nat.le_of_ble_eq_true rfl, Nat.le_of_ble_eq_true rfl⟩, hts (.static yX2_at) (by decide +kernel), trivial⟩ (hk_preS hE (hP.sub (ws' := [(q6, .inl (ct 0, 144, .inl (fun j => if j < 144 then nI (cn T j i) else F j)))]) [6] rfl)) rfl rfl hl.1 rfl (lv_room (Nat.le_of_ble_eq_true rfl)) dX1_timeByCounts_107 ⟨Nat.zero_le _, Nat.zero_le _⟩)) ?_
                      refine hk_top (y := nI (cn T (12 * a + b) i)) ((hkAt_in (by omega) (by decide)).trans (if_pos (by omega))) ?_
                      refine lv_iload hx hb dX1_timeByCounts_110 (lv_at hl 0 rfl) ?_
                      refine hk_mulN hx hb dX1_timeByCounts_112 ?_
                      refine hk_addN hx hb dX1_timeByCounts_113 ?_
                      refine lv_istore_n (lv' := [(2, .int (nI ((2 + su K T i (12 * a + b)) + ((cn T (12 * a + b) i) * (stp (K a) (K b)))))), (5, .int (nI (stp (K a) (K b)))), (0, .ref q0), (1, .ref q6), (3, .int (nI a)), (4, .int (nI b))]) hx hb dX1_timeByCounts_114 rfl hl (by decide) rfl (fun ls hl => ?_)
                      refine lv_iinc (v := nI (b + 1)) (lv' := [(4, .int (nI (b + 1))), (2, .int (nI ((2 + su K T i (12 * a + b)) + ((cn T (12 * a + b) i) * (stp (K a) (K b)))))), (5, .int (nI (stp (K a) (K b)))), (0, .ref q0), (1, .ref q6), (3, .int (nI a))]) hx hb dX1_timeByCounts_115 hl (k := 5) rfl (nI_add _ _) (by decide) rfl (fun ls hl => ?_)
                      refine lv_goto (tgt := 70) hx hb dX1_timeByCounts_118 (by decide) ?_
                      exact ih_lo32 (b + 1) (by omega) (by omega) ls (by rw [show 12 * a + (b + 1) = 12 * a + b + 1 from rfl, su_step K T i a b (by omega), ← Nat.add_assoc]; exact lv_sub hl [3, 4, 1, 5, 0] rfl)
                exact lo32 13 0 (by omega) (by omega) ls (lv_sub hl [1, 2, 3, 4, 0] rfl)
          exact lo22 13 0 (by omega) (by omega) ls (lv_sub hl [2, 3, 1, 0] rfl)
      · have h1 := hT i
        have h2 := hT (i + 1)
        refine lv_aload_n hx hb dX1_timeByCounts_15 rfl (lv_at hl 1 rfl) ?_
        refine lv_aload_n hx hb dX1_timeByCounts_16 rfl (lv_at hl 0 rfl) ?_
        refine va_get (D := D) (ci := 1) (v := .ref q5) (C := RX1) (T := TX1) (N := 8) hx hb hts hin1 hown hE.1 hP 0 rfl rfl 5 (by decide) (hts (.fieldLink RX1 28 "Homekeys$Student" "typed" "[I") (by decide +kernel)) (fun _ h9 => h9) rfl dX1_timeByCounts_17 ?_
        refine lv_iload_n hx hb dX1_timeByCounts_20 rfl (lv_at hl 2 rfl) ?_
        refine lv_iconst (v := nI 1) hx hb dX1_timeByCounts_21 (by decide) ?_
        refine hk_subN hx hb (by omega) dX1_timeByCounts_22 ?_
        refine hk_R (rest := [.ref q6]) (va_Run.run (va_runSN (host := RX2) (As := [.ref q5, .int (nI i)]) (rest := [.ref q6]) ⟨hx, hb, hml, hown, hts⟩ (c_X2_at l D ct sa q5 30 (fun j => nI (T j)) (nI i) (by decide)) ⟨va_cnB 2 hts gX1_timeByCounts_X2_at_n41 rfl rfl rfl (hE.nw hkN_X1_41) (hts (.initialized RX2) (by decide +kernel)) (by decide +kernel) ⟨Nat.le_of_ble_eq_true rfl, Nat.le_of_ble_eq_true rfl⟩, hts (.static yX2_at) (by decide +kernel), trivial⟩ (hk_preS hE (hP.sub (ws' := [(q5, .inl (ct 0, 30, .inl (fun j => nI (T j))))]) [5] rfl)) rfl rfl hl.1 rfl (lv_room (Nat.le_of_ble_eq_true rfl)) dX1_timeByCounts_23 ⟨Nat.zero_le _, Nat.zero_le _⟩)) ?_
        refine hk_top (y := nI (T i)) (hkAt_in (by omega) (by decide)) ?_
        refine lv_aload_n hx hb dX1_timeByCounts_26 rfl (lv_at hl 0 rfl) ?_
        refine va_get (D := D) (ci := 1) (v := .ref q5) (C := RX1) (T := TX1) (N := 8) hx hb hts hin1 hown hE.1 hP 0 rfl rfl 5 (by decide) (hts (.fieldLink RX1 28 "Homekeys$Student" "typed" "[I") (by decide +kernel)) (fun _ h9 => h9) rfl dX1_timeByCounts_27 ?_
        refine lv_iload_n hx hb dX1_timeByCounts_30 rfl (lv_at hl 2 rfl) ?_
        refine hk_R (rest := [.int (nI (T i)), .ref q6]) (va_Run.run (va_runSN (host := RX2) (As := [.ref q5, .int (nI (i + 1))]) (rest := [.int (nI (T i)), .ref q6]) ⟨hx, hb, hml, hown, hts⟩ (c_X2_at l D ct sa q5 30 (fun j => nI (T j)) (nI (i + 1)) (by decide)) ⟨va_cnB 2 hts gX1_timeByCounts_X2_at_n41 rfl rfl rfl (hE.nw hkN_X1_41) (hts (.initialized RX2) (by decide +kernel)) (by decide +kernel) ⟨Nat.le_of_ble_eq_true rfl, Nat.le_of_ble_eq_true rfl⟩, hts (.static yX2_at) (by decide +kernel), trivial⟩ (hk_preS hE (hP.sub (ws' := [(q5, .inl (ct 0, 30, .inl (fun j => nI (T j))))]) [5] rfl)) rfl rfl hl.1 rfl (lv_room (Nat.le_of_ble_eq_true rfl)) dX1_timeByCounts_31 ⟨Nat.zero_le _, Nat.zero_le _⟩)) ?_
        refine hk_top (y := nI (T (i + 1))) (hkAt_in (by omega) (by decide)) ?_
        refine hk_R (rest := [.ref q6]) (va_Run.run (va_runSN (host := RX2) (As := [.int (nI (T i)), .int (nI (T (i + 1)))]) (rest := [.ref q6]) ⟨hx, hb, hml, hown, hts⟩ (c_X2_pairPlace l D ct sa (T i) (T (i + 1))) ⟨va_cnB 2 hts gX1_timeByCounts_X2_pairPlace_n49 rfl rfl rfl (hE.nw hkN_X1_49) (hts (.initialized RX2) (by decide +kernel)) (by decide +kernel) ⟨Nat.le_of_ble_eq_true rfl, Nat.le_of_ble_eq_true rfl⟩, hts (.static yX2_pairPlace) (by decide +kernel), trivial⟩ (hk_preS hE trivial) rfl rfl hl.1 rfl (lv_room (Nat.le_of_ble_eq_true rfl)) dX1_timeByCounts_34 ⟨Nat.zero_le _, Nat.zero_le _⟩)) ?_
        refine hk_M (rest := []) (va_Run.run (va_runSN (host := RX2) (As := [.ref q6, .int (nI (12 * T i + T (i + 1)))]) (rest := []) ⟨hx, hb, hml, hown, hts⟩ (c_X2_count l D ct sa q6 144 (fun j => if j < 144 then nI (cn T j i) else F j) (12 * T i + T (i + 1)) (by decide) (by omega)) ⟨va_cnB 2 hts gX1_timeByCounts_X2_count_n45 rfl rfl rfl (hE.nw hkN_X1_45) (hts (.initialized RX2) (by decide +kernel)) (by decide +kernel) ⟨Nat.le_of_ble_eq_true rfl, Nat.le_of_ble_eq_true rfl⟩, hts (.static yX2_count) (by decide +kernel), trivial⟩ (hk_preS hE ⟨hP.sub (ws' := [(q6, .inl (ct 0, 144, .inl (fun j => if j < 144 then nI (cn T j i) else F j)))]) [6] rfl, (hD.sub (ws' := [(q6, .inl (ct 0, 144, .inl (fun j => if j < 144 then nI (cn T j i) else F j)))]) [6] (by decide) rfl).weaken (fun _ _ _ _ => trivial)⟩) rfl rfl hl.1 rfl (lv_room (Nat.le_of_ble_eq_true rfl)) dX1_timeByCounts_37 ⟨Nat.zero_le _, Nat.zero_le _⟩)) hP hD hS [6] (wc := [(q6, .inl (ct 0, 144, .inl (fun j => if j < 144 then nI (cn T j i) else F j)))]) rfl rfl rfl (fun H locs hP hD hS => ?_)
        have hP : va_P D vwCl [(q0, .inr (1, [.ref q1, .ref q2, .int Y, .ref q3, .ref q4, .ref q5, .int (nI kp), .int C])), (q1, .inl (ct 0, 12, .inl (fun j => nI (K j)))), (q2, .inl (ct 0, 12, .inl (fun j => nI (L j)))), (q3, .inl (ct 0, 12, .inl S)), (q4, .inl (ct 0, 144, .inl P)), (q5, .inl (ct 0, 30, .inl (fun j => nI (T j)))), (q6, .inl (ct 0, 144, .inl (upd (fun j => if j < 144 then nI (cn T j i) else F j) (12 * T i + T (i + 1)) ((fun j => if j < 144 then nI (cn T j i) else F j) (12 * T i + T (i + 1)) + nI 1))))] H := hP
        have hD : va_D (hkA [q0, q1, q2, q3, q4, q5, q6]) [(q0, .inr (1, [.ref q1, .ref q2, .int Y, .ref q3, .ref q4, .ref q5, .int (nI kp), .int C])), (q1, .inl (ct 0, 12, .inl (fun j => nI (K j)))), (q2, .inl (ct 0, 12, .inl (fun j => nI (L j)))), (q3, .inl (ct 0, 12, .inl S)), (q4, .inl (ct 0, 144, .inl P)), (q5, .inl (ct 0, 30, .inl (fun j => nI (T j)))), (q6, .inl (ct 0, 144, .inl (upd (fun j => if j < 144 then nI (cn T j i) else F j) (12 * T i + T (i + 1)) ((fun j => if j < 144 then nI (cn T j i) else F j) (12 * T i + T (i + 1)) + nI 1))))] := hD
        have hP : va_P D vwCl [(q0, .inr (1, [.ref q1, .ref q2, .int Y, .ref q3, .ref q4, .ref q5, .int (nI kp), .int C])), (q1, .inl (ct 0, 12, .inl (fun j => nI (K j)))), (q2, .inl (ct 0, 12, .inl (fun j => nI (L j)))), (q3, .inl (ct 0, 12, .inl S)), (q4, .inl (ct 0, 144, .inl P)), (q5, .inl (ct 0, 30, .inl (fun j => nI (T j)))), (q6, .inl (ct 0, 144, .inl (fun j => if j < 144 then nI (cn T j (i + 1)) else F j)))] H := by rw [cn_upd T F i (by omega)] at hP; exact hP
        have hD : va_D (hkA [q0, q1, q2, q3, q4, q5, q6]) [(q0, .inr (1, [.ref q1, .ref q2, .int Y, .ref q3, .ref q4, .ref q5, .int (nI kp), .int C])), (q1, .inl (ct 0, 12, .inl (fun j => nI (K j)))), (q2, .inl (ct 0, 12, .inl (fun j => nI (L j)))), (q3, .inl (ct 0, 12, .inl S)), (q4, .inl (ct 0, 144, .inl P)), (q5, .inl (ct 0, 30, .inl (fun j => nI (T j)))), (q6, .inl (ct 0, 144, .inl (fun j => if j < 144 then nI (cn T j (i + 1)) else F j)))] := by rw [cn_upd T F i (by omega)] at hD; exact hD
        refine lv_iinc (v := nI (i + 1 + 1)) (lv' := [(2, .int (nI (i + 1 + 1))), (0, .ref q0), (1, .ref q6)]) hx hb dX1_timeByCounts_40 hl (k := 2) rfl (nI_add _ _) (by decide) rfl (fun ls hl => ?_)
        refine lv_goto (tgt := 7) hx hb dX1_timeByCounts_43 (by decide) ?_
        exact ih_loop (i + 1) (by omega) (by omega) H locs hP hD hS ls (lv_sub hl [1, 2, 0] rfl)
  exact loop (kp + 1) 0 (by omega) (by omega) H locs hP hD hS ls (lv_sub hl [1, 2, 0] rfl)

set_option maxHeartbeats 4000000 in
set_option maxRecDepth 100000 in
theorem c_X1_init (l : Launch) (D : va_G) (ct : Nat → ClassId) (sa : Nat → Nat) (q0 sz : Nat) : Met l yX1_init wsX1_init ({ frames := 1, cells := 5, slots := 210, locals := 22 }) (hkPc D ct sa [.ref q0] (fun H => H.size = sz ∧ va_P D vwCl [(q0, .inr (1, [.null, .null, .int 0, .null, .null, .null, .int 0, .int 0]))] H ∧ va_D (fun _ => True) [(q0, .inr (1, [.null, .null, .int 0, .null, .null, .null, .int 0, .int 0]))])) (va_Qv (fun _ : Nat × Nat × Nat × Nat × Nat => True) (hkB D (va_A [(q0, .inr (1, [.null, .null, .int 0, .null, .null, .null, .int 0, .int 0]))] sz) (fun u => [(q0, .inr (1, [.ref u.1, .ref u.2.1, .int (nI 0), .ref u.2.2.1, .ref u.2.2.2.1, .ref u.2.2.2.2, .int (nI 0), .int (nI 0)])), (u.1, .inl (ct 0, 12, .inl (fun j => if j < 12 then nI j else 0))), (u.2.1, .inl (ct 0, 12, .inl (fun j => if j < 12 then nI j else 0))), (u.2.2.1, .inl (ct 0, 12, .inl (fun _ => 0))), (u.2.2.2.1, .inl (ct 0, 144, .inl (fun _ => 0))), (u.2.2.2.2, .inl (ct 0, 30, .inl (fun _ => 0)))])) (va_A [(q0, .inr (1, [.null, .null, .int 0, .null, .null, .null, .int 0, .int 0]))] sz)) 5 210 (va_A [(q0, .inr (1, [.null, .null, .int 0, .null, .null, .null, .int 0, .int 0]))] sz) := by
  refine Met.ofW (cc := cX1_init) (maxL := 2) (ret := none) (by decide) rfl ?_
  intro p e s m args below meth c s₁ B hml hv
  obtain ⟨rfl, hE, hp⟩ := hv
  have hx := B.exec
  have hb := B.bytes
  have hr := B.returns
  have hts := atoms_spec (ws := wsX1_init) B.pre
  have hown : s.vm.findClass RX1 = some m.cls := findClass_of_methodNamed B.named
  have hlocks := B.notSynchronized
  have hin1 : ∀ w ∈ wsX10, w ∈ wsX1_init := by decide +kernel
  have hin : meth.name = "<init>" := (name_of_methodNamed B.named B.method).1
  obtain ⟨hsz, hP, hD0⟩ := hp
  subst hsz
  have hD := hD0.self (sz := s.heap.size)
  generalize hAe : va_A [(q0, .inr (1, [.null, .null, .int 0, .null, .null, .null, .int 0, .int 0]))] s.heap.size = A at hD ⊢
  have hA : ∀ q : Nat, s.heap.size ≤ q → A q := fun q h => by rw [← hAe]; exact Or.inr h
  have hS : va_S A s.heap s.heap [] := va_S.rf
  have hl := lv_entry ([.ref q0]) (n := 2) (Nat.le_of_ble_eq_true rfl)
  rw [lg_entry_eq]
  generalize (lg_sl ([.ref q0]) ++ List.replicate (2 - (lg_sl ([.ref q0])).length) Slot.unset).toArray = ls at hl ⊢
  have hl : lv_has ls 2 [(0, .ref q0)] := hl
  refine lv_aload_n hx hb dX1_init_0 rfl (lv_at hl 0 rfl) ?_
  refine W.objInit hx hb hown (hts (.methodLink RX1 3 objectInit) (by decide +kernel)) (hts (.instanceMethod objectInit) (by decide +kernel)) (hts (.code objectInit ⟨#[0xb1]⟩ 1 none) (by decide +kernel)) rfl (by rw [hml]; exact hl.1) rfl dX1_init_1 (Nat.le_of_ble_eq_true rfl) (Nat.le_of_ble_eq_true rfl) ?_
  refine W.eq (g2 := F0 m 4 ls []) rfl ?_
  refine lv_aload_n hx hb dX1_init_4 rfl (lv_at hl 0 rfl) ?_
  refine lv_bipush (v := nI 12) hx hb dX1_init_5 (by decide) ?_
  refine hk_newi hx hb (hts (.arrayClass .int) (by decide +kernel)) hE hP hD hS hA (n := 12) (by decide) (by decide) (Nat.le_of_ble_eq_true rfl) (Nat.le_of_ble_eq_true rfl) dX1_init_7 (fun q1 H hP hD hS => ?_)
  have hP : va_P D vwCl [(q0, .inr (1, [.null, .null, .int 0, .null, .null, .null, .int 0, .int 0])), (q1, .inl (ct 0, 12, .inl (fun _ => 0)))] H := hP
  have hD : va_D A [(q0, .inr (1, [.null, .null, .int 0, .null, .null, .null, .int 0, .int 0])), (q1, .inl (ct 0, 12, .inl (fun _ => 0)))] := hD
  refine va_putF (D := D) (ci := 1) (v := .ref q1) (ty := .array .int) (C := RX1) (T := TX1) (N := 8) hx hb hts hin1 tyX1 tyX1_ok nmX1 hown hE.1 hP hD hS 0 rfl rfl 0 (by decide) (hts (.fieldLink RX1 9 "Homekeys$Student" "keys" "[I") (by decide +kernel)) (fun _ h9 => h9) rfl hin rfl (by decide +kernel) rfl rfl (Nat.le_of_ble_eq_true rfl) dX1_init_9 (fun H locs hP hD hS => ?_)
  have hP : va_P D vwCl [(q0, .inr (1, [.ref q1, .null, .int 0, .null, .null, .null, .int 0, .int 0])), (q1, .inl (ct 0, 12, .inl (fun _ => 0)))] H := hP
  have hD : va_D A [(q0, .inr (1, [.ref q1, .null, .int 0, .null, .null, .null, .int 0, .int 0])), (q1, .inl (ct 0, 12, .inl (fun _ => 0)))] := hD
  refine lv_aload_n hx hb dX1_init_12 rfl (lv_at hl 0 rfl) ?_
  refine lv_bipush (v := nI 12) hx hb dX1_init_13 (by decide) ?_
  refine hk_newi hx hb (hts (.arrayClass .int) (by decide +kernel)) hE hP hD hS hA (n := 12) (by decide) (by decide) (Nat.le_of_ble_eq_true rfl) (Nat.le_of_ble_eq_true rfl) dX1_init_15 (fun q2 H hP hD hS => ?_)
  have hP : va_P D vwCl [(q0, .inr (1, [.ref q1, .null, .int 0, .null, .null, .null, .int 0, .int 0])), (q1, .inl (ct 0, 12, .inl (fun _ => 0))), (q2, .inl (ct 0, 12, .inl (fun _ => 0)))] H := hP
  have hD : va_D A [(q0, .inr (1, [.ref q1, .null, .int 0, .null, .null, .null, .int 0, .int 0])), (q1, .inl (ct 0, 12, .inl (fun _ => 0))), (q2, .inl (ct 0, 12, .inl (fun _ => 0)))] := hD
  refine va_putF (D := D) (ci := 1) (v := .ref q2) (ty := .array .int) (C := RX1) (T := TX1) (N := 8) hx hb hts hin1 tyX1 tyX1_ok nmX1 hown hE.1 hP hD hS 0 rfl rfl 1 (by decide) (hts (.fieldLink RX1 15 "Homekeys$Student" "letters" "[I") (by decide +kernel)) (fun _ h9 => h9) rfl hin rfl (by decide +kernel) rfl rfl (Nat.le_of_ble_eq_true rfl) dX1_init_17 (fun H locs hP hD hS => ?_)
  have hP : va_P D vwCl [(q0, .inr (1, [.ref q1, .ref q2, .int 0, .null, .null, .null, .int 0, .int 0])), (q1, .inl (ct 0, 12, .inl (fun _ => 0))), (q2, .inl (ct 0, 12, .inl (fun _ => 0)))] H := hP
  have hD : va_D A [(q0, .inr (1, [.ref q1, .ref q2, .int 0, .null, .null, .null, .int 0, .int 0])), (q1, .inl (ct 0, 12, .inl (fun _ => 0))), (q2, .inl (ct 0, 12, .inl (fun _ => 0)))] := hD
  refine lv_aload_n hx hb dX1_init_20 rfl (lv_at hl 0 rfl) ?_
  refine lv_iconst (v := nI 0) hx hb dX1_init_21 (by decide) ?_
  refine va_put (D := D) (ci := 1) (v := .int (nI 0)) (ty := .int) (C := RX1) (T := TX1) (N := 8) hx hb hts hin1 tyX1 tyX1_ok nmX1 hown hE.1 hP hD hS 0 rfl rfl 2 (by decide) (hts (.fieldLink RX1 18 "Homekeys$Student" "way" "I") (by decide +kernel)) (fun _ h9 => h9) rfl (by decide +kernel) rfl rfl (Nat.le_of_ble_eq_true rfl) dX1_init_22 (fun H locs hP hD hS => ?_)
  have hP : va_P D vwCl [(q0, .inr (1, [.ref q1, .ref q2, .int (nI 0), .null, .null, .null, .int 0, .int 0])), (q1, .inl (ct 0, 12, .inl (fun _ => 0))), (q2, .inl (ct 0, 12, .inl (fun _ => 0)))] H := hP
  have hD : va_D A [(q0, .inr (1, [.ref q1, .ref q2, .int (nI 0), .null, .null, .null, .int 0, .int 0])), (q1, .inl (ct 0, 12, .inl (fun _ => 0))), (q2, .inl (ct 0, 12, .inl (fun _ => 0)))] := hD
  refine lv_aload_n hx hb dX1_init_25 rfl (lv_at hl 0 rfl) ?_
  refine lv_bipush (v := nI 12) hx hb dX1_init_26 (by decide) ?_
  refine hk_newi hx hb (hts (.arrayClass .int) (by decide +kernel)) hE hP hD hS hA (n := 12) (by decide) (by decide) (Nat.le_of_ble_eq_true rfl) (Nat.le_of_ble_eq_true rfl) dX1_init_28 (fun q3 H hP hD hS => ?_)
  have hP : va_P D vwCl [(q0, .inr (1, [.ref q1, .ref q2, .int (nI 0), .null, .null, .null, .int 0, .int 0])), (q1, .inl (ct 0, 12, .inl (fun _ => 0))), (q2, .inl (ct 0, 12, .inl (fun _ => 0))), (q3, .inl (ct 0, 12, .inl (fun _ => 0)))] H := hP
  have hD : va_D A [(q0, .inr (1, [.ref q1, .ref q2, .int (nI 0), .null, .null, .null, .int 0, .int 0])), (q1, .inl (ct 0, 12, .inl (fun _ => 0))), (q2, .inl (ct 0, 12, .inl (fun _ => 0))), (q3, .inl (ct 0, 12, .inl (fun _ => 0)))] := hD
  refine va_putF (D := D) (ci := 1) (v := .ref q3) (ty := .array .int) (C := RX1) (T := TX1) (N := 8) hx hb hts hin1 tyX1 tyX1_ok nmX1 hown hE.1 hP hD hS 0 rfl rfl 3 (by decide) (hts (.fieldLink RX1 22 "Homekeys$Student" "keySlips" "[I") (by decide +kernel)) (fun _ h9 => h9) rfl hin rfl (by decide +kernel) rfl rfl (Nat.le_of_ble_eq_true rfl) dX1_init_30 (fun H locs hP hD hS => ?_)
  have hP : va_P D vwCl [(q0, .inr (1, [.ref q1, .ref q2, .int (nI 0), .ref q3, .null, .null, .int 0, .int 0])), (q1, .inl (ct 0, 12, .inl (fun _ => 0))), (q2, .inl (ct 0, 12, .inl (fun _ => 0))), (q3, .inl (ct 0, 12, .inl (fun _ => 0)))] H := hP
  have hD : va_D A [(q0, .inr (1, [.ref q1, .ref q2, .int (nI 0), .ref q3, .null, .null, .int 0, .int 0])), (q1, .inl (ct 0, 12, .inl (fun _ => 0))), (q2, .inl (ct 0, 12, .inl (fun _ => 0))), (q3, .inl (ct 0, 12, .inl (fun _ => 0)))] := hD
  refine lv_aload_n hx hb dX1_init_33 rfl (lv_at hl 0 rfl) ?_
  refine lv_sipush (v := nI 144) hx hb dX1_init_34 (by decide) ?_
  refine hk_newi hx hb (hts (.arrayClass .int) (by decide +kernel)) hE hP hD hS hA (n := 144) (by decide) (by decide) (Nat.le_of_ble_eq_true rfl) (Nat.le_of_ble_eq_true rfl) dX1_init_37 (fun q4 H hP hD hS => ?_)
  have hP : va_P D vwCl [(q0, .inr (1, [.ref q1, .ref q2, .int (nI 0), .ref q3, .null, .null, .int 0, .int 0])), (q1, .inl (ct 0, 12, .inl (fun _ => 0))), (q2, .inl (ct 0, 12, .inl (fun _ => 0))), (q3, .inl (ct 0, 12, .inl (fun _ => 0))), (q4, .inl (ct 0, 144, .inl (fun _ => 0)))] H := hP
  have hD : va_D A [(q0, .inr (1, [.ref q1, .ref q2, .int (nI 0), .ref q3, .null, .null, .int 0, .int 0])), (q1, .inl (ct 0, 12, .inl (fun _ => 0))), (q2, .inl (ct 0, 12, .inl (fun _ => 0))), (q3, .inl (ct 0, 12, .inl (fun _ => 0))), (q4, .inl (ct 0, 144, .inl (fun _ => 0)))] := hD
  refine va_putF (D := D) (ci := 1) (v := .ref q4) (ty := .array .int) (C := RX1) (T := TX1) (N := 8) hx hb hts hin1 tyX1 tyX1_ok nmX1 hown hE.1 hP hD hS 0 rfl rfl 4 (by decide) (hts (.fieldLink RX1 25 "Homekeys$Student" "pairSlips" "[I") (by decide +kernel)) (fun _ h9 => h9) rfl hin rfl (by decide +kernel) rfl rfl (Nat.le_of_ble_eq_true rfl) dX1_init_39 (fun H locs hP hD hS => ?_)
  have hP : va_P D vwCl [(q0, .inr (1, [.ref q1, .ref q2, .int (nI 0), .ref q3, .ref q4, .null, .int 0, .int 0])), (q1, .inl (ct 0, 12, .inl (fun _ => 0))), (q2, .inl (ct 0, 12, .inl (fun _ => 0))), (q3, .inl (ct 0, 12, .inl (fun _ => 0))), (q4, .inl (ct 0, 144, .inl (fun _ => 0)))] H := hP
  have hD : va_D A [(q0, .inr (1, [.ref q1, .ref q2, .int (nI 0), .ref q3, .ref q4, .null, .int 0, .int 0])), (q1, .inl (ct 0, 12, .inl (fun _ => 0))), (q2, .inl (ct 0, 12, .inl (fun _ => 0))), (q3, .inl (ct 0, 12, .inl (fun _ => 0))), (q4, .inl (ct 0, 144, .inl (fun _ => 0)))] := hD
  refine lv_aload_n hx hb dX1_init_42 rfl (lv_at hl 0 rfl) ?_
  refine lv_bipush (v := nI 30) hx hb dX1_init_43 (by decide) ?_
  refine hk_newi hx hb (hts (.arrayClass .int) (by decide +kernel)) hE hP hD hS hA (n := 30) (by decide) (by decide) (Nat.le_of_ble_eq_true rfl) (Nat.le_of_ble_eq_true rfl) dX1_init_45 (fun q5 H hP hD hS => ?_)
  have hP : va_P D vwCl [(q0, .inr (1, [.ref q1, .ref q2, .int (nI 0), .ref q3, .ref q4, .null, .int 0, .int 0])), (q1, .inl (ct 0, 12, .inl (fun _ => 0))), (q2, .inl (ct 0, 12, .inl (fun _ => 0))), (q3, .inl (ct 0, 12, .inl (fun _ => 0))), (q4, .inl (ct 0, 144, .inl (fun _ => 0))), (q5, .inl (ct 0, 30, .inl (fun _ => 0)))] H := hP
  have hD : va_D A [(q0, .inr (1, [.ref q1, .ref q2, .int (nI 0), .ref q3, .ref q4, .null, .int 0, .int 0])), (q1, .inl (ct 0, 12, .inl (fun _ => 0))), (q2, .inl (ct 0, 12, .inl (fun _ => 0))), (q3, .inl (ct 0, 12, .inl (fun _ => 0))), (q4, .inl (ct 0, 144, .inl (fun _ => 0))), (q5, .inl (ct 0, 30, .inl (fun _ => 0)))] := hD
  refine va_putF (D := D) (ci := 1) (v := .ref q5) (ty := .array .int) (C := RX1) (T := TX1) (N := 8) hx hb hts hin1 tyX1 tyX1_ok nmX1 hown hE.1 hP hD hS 0 rfl rfl 5 (by decide) (hts (.fieldLink RX1 28 "Homekeys$Student" "typed" "[I") (by decide +kernel)) (fun _ h9 => h9) rfl hin rfl (by decide +kernel) rfl rfl (Nat.le_of_ble_eq_true rfl) dX1_init_47 (fun H locs hP hD hS => ?_)
  have hP : va_P D vwCl [(q0, .inr (1, [.ref q1, .ref q2, .int (nI 0), .ref q3, .ref q4, .ref q5, .int 0, .int 0])), (q1, .inl (ct 0, 12, .inl (fun _ => 0))), (q2, .inl (ct 0, 12, .inl (fun _ => 0))), (q3, .inl (ct 0, 12, .inl (fun _ => 0))), (q4, .inl (ct 0, 144, .inl (fun _ => 0))), (q5, .inl (ct 0, 30, .inl (fun _ => 0)))] H := hP
  have hD : va_D A [(q0, .inr (1, [.ref q1, .ref q2, .int (nI 0), .ref q3, .ref q4, .ref q5, .int 0, .int 0])), (q1, .inl (ct 0, 12, .inl (fun _ => 0))), (q2, .inl (ct 0, 12, .inl (fun _ => 0))), (q3, .inl (ct 0, 12, .inl (fun _ => 0))), (q4, .inl (ct 0, 144, .inl (fun _ => 0))), (q5, .inl (ct 0, 30, .inl (fun _ => 0)))] := hD
  refine lv_aload_n hx hb dX1_init_50 rfl (lv_at hl 0 rfl) ?_
  refine lv_iconst (v := nI 0) hx hb dX1_init_51 (by decide) ?_
  refine va_put (D := D) (ci := 1) (v := .int (nI 0)) (ty := .int) (C := RX1) (T := TX1) (N := 8) hx hb hts hin1 tyX1 tyX1_ok nmX1 hown hE.1 hP hD hS 0 rfl rfl 6 (by decide) (hts (.fieldLink RX1 31 "Homekeys$Student" "kept" "I") (by decide +kernel)) (fun _ h9 => h9) rfl (by decide +kernel) rfl rfl (Nat.le_of_ble_eq_true rfl) dX1_init_52 (fun H locs hP hD hS => ?_)
  have hP : va_P D vwCl [(q0, .inr (1, [.ref q1, .ref q2, .int (nI 0), .ref q3, .ref q4, .ref q5, .int (nI 0), .int 0])), (q1, .inl (ct 0, 12, .inl (fun _ => 0))), (q2, .inl (ct 0, 12, .inl (fun _ => 0))), (q3, .inl (ct 0, 12, .inl (fun _ => 0))), (q4, .inl (ct 0, 144, .inl (fun _ => 0))), (q5, .inl (ct 0, 30, .inl (fun _ => 0)))] H := hP
  have hD : va_D A [(q0, .inr (1, [.ref q1, .ref q2, .int (nI 0), .ref q3, .ref q4, .ref q5, .int (nI 0), .int 0])), (q1, .inl (ct 0, 12, .inl (fun _ => 0))), (q2, .inl (ct 0, 12, .inl (fun _ => 0))), (q3, .inl (ct 0, 12, .inl (fun _ => 0))), (q4, .inl (ct 0, 144, .inl (fun _ => 0))), (q5, .inl (ct 0, 30, .inl (fun _ => 0)))] := hD
  refine lv_aload_n hx hb dX1_init_55 rfl (lv_at hl 0 rfl) ?_
  refine lv_iconst (v := nI 0) hx hb dX1_init_56 (by decide) ?_
  refine va_put (D := D) (ci := 1) (v := .int (nI 0)) (ty := .int) (C := RX1) (T := TX1) (N := 8) hx hb hts hin1 tyX1 tyX1_ok nmX1 hown hE.1 hP hD hS 0 rfl rfl 7 (by decide) (hts (.fieldLink RX1 34 "Homekeys$Student" "presses" "I") (by decide +kernel)) (fun _ h9 => h9) rfl (by decide +kernel) rfl rfl (Nat.le_of_ble_eq_true rfl) dX1_init_57 (fun H locs hP hD hS => ?_)
  have hP : va_P D vwCl [(q0, .inr (1, [.ref q1, .ref q2, .int (nI 0), .ref q3, .ref q4, .ref q5, .int (nI 0), .int (nI 0)])), (q1, .inl (ct 0, 12, .inl (fun _ => 0))), (q2, .inl (ct 0, 12, .inl (fun _ => 0))), (q3, .inl (ct 0, 12, .inl (fun _ => 0))), (q4, .inl (ct 0, 144, .inl (fun _ => 0))), (q5, .inl (ct 0, 30, .inl (fun _ => 0)))] H := hP
  have hD : va_D A [(q0, .inr (1, [.ref q1, .ref q2, .int (nI 0), .ref q3, .ref q4, .ref q5, .int (nI 0), .int (nI 0)])), (q1, .inl (ct 0, 12, .inl (fun _ => 0))), (q2, .inl (ct 0, 12, .inl (fun _ => 0))), (q3, .inl (ct 0, 12, .inl (fun _ => 0))), (q4, .inl (ct 0, 144, .inl (fun _ => 0))), (q5, .inl (ct 0, 30, .inl (fun _ => 0)))] := hD
  refine lv_iconst (v := nI 0) hx hb dX1_init_60 (by decide) ?_
  refine lv_istore_n (lv' := [(1, .int (nI 0)), (0, .ref q0)]) hx hb dX1_init_61 rfl hl (by decide) rfl (fun ls hl => ?_)
  have hP : va_P D vwCl [(q0, .inr (1, [.ref q1, .ref q2, .int (nI 0), .ref q3, .ref q4, .ref q5, .int (nI 0), .int (nI 0)])), (q1, .inl (ct 0, 12, .inl (fun j => if j < 0 then nI j else 0))), (q2, .inl (ct 0, 12, .inl (fun _ => 0))), (q3, .inl (ct 0, 12, .inl (fun _ => 0))), (q4, .inl (ct 0, 144, .inl (fun _ => 0))), (q5, .inl (ct 0, 30, .inl (fun _ => 0)))] H := by rw [id_0] at hP; exact hP
  have hD : va_D A [(q0, .inr (1, [.ref q1, .ref q2, .int (nI 0), .ref q3, .ref q4, .ref q5, .int (nI 0), .int (nI 0)])), (q1, .inl (ct 0, 12, .inl (fun j => if j < 0 then nI j else 0))), (q2, .inl (ct 0, 12, .inl (fun _ => 0))), (q3, .inl (ct 0, 12, .inl (fun _ => 0))), (q4, .inl (ct 0, 144, .inl (fun _ => 0))), (q5, .inl (ct 0, 30, .inl (fun _ => 0)))] := by rw [id_0] at hD; exact hD
  have hP : va_P D vwCl [(q0, .inr (1, [.ref q1, .ref q2, .int (nI 0), .ref q3, .ref q4, .ref q5, .int (nI 0), .int (nI 0)])), (q1, .inl (ct 0, 12, .inl (fun j => if j < 0 then nI j else 0))), (q2, .inl (ct 0, 12, .inl (fun j => if j < 0 then nI j else 0))), (q3, .inl (ct 0, 12, .inl (fun _ => 0))), (q4, .inl (ct 0, 144, .inl (fun _ => 0))), (q5, .inl (ct 0, 30, .inl (fun _ => 0)))] H := by rw [id_0] at hP; exact hP
  have hD : va_D A [(q0, .inr (1, [.ref q1, .ref q2, .int (nI 0), .ref q3, .ref q4, .ref q5, .int (nI 0), .int (nI 0)])), (q1, .inl (ct 0, 12, .inl (fun j => if j < 0 then nI j else 0))), (q2, .inl (ct 0, 12, .inl (fun j => if j < 0 then nI j else 0))), (q3, .inl (ct 0, 12, .inl (fun _ => 0))), (q4, .inl (ct 0, 144, .inl (fun _ => 0))), (q5, .inl (ct 0, 30, .inl (fun _ => 0)))] := by rw [id_0] at hD; exact hD
  have loop : ∀ (k : Nat) (i : Nat), 12 < i + k → i ≤ 12 → ∀ (H : Heap) (locs : List Loc), va_P D vwCl [(q0, .inr (1, [.ref q1, .ref q2, .int (nI 0), .ref q3, .ref q4, .ref q5, .int (nI 0), .int (nI 0)])), (q1, .inl (ct 0, 12, .inl (fun j => if j < i then nI j else 0))), (q2, .inl (ct 0, 12, .inl (fun j => if j < i then nI j else 0))), (q3, .inl (ct 0, 12, .inl (fun _ => 0))), (q4, .inl (ct 0, 144, .inl (fun _ => 0))), (q5, .inl (ct 0, 30, .inl (fun _ => 0)))] H → va_D A [(q0, .inr (1, [.ref q1, .ref q2, .int (nI 0), .ref q3, .ref q4, .ref q5, .int (nI 0), .int (nI 0)])), (q1, .inl (ct 0, 12, .inl (fun j => if j < i then nI j else 0))), (q2, .inl (ct 0, 12, .inl (fun j => if j < i then nI j else 0))), (q3, .inl (ct 0, 12, .inl (fun _ => 0))), (q4, .inl (ct 0, 144, .inl (fun _ => 0))), (q5, .inl (ct 0, 30, .inl (fun _ => 0)))] → va_S A s.heap H locs → ∀ (ls : Array Slot), lv_has ls 2 [(0, .ref q0), (1, .int (nI i))] → W p l e (headSpec wsX1_init ({ frames := 1, cells := 5, slots := 210, locals := 22 })).room s m ([.ref q0] : List Value).toArray below meth c H locs 5 210 (MQ below (va_Qv (fun _ : Nat × Nat × Nat × Nat × Nat => True) (hkB D A (fun u => [(q0, .inr (1, [.ref u.1, .ref u.2.1, .int (nI 0), .ref u.2.2.1, .ref u.2.2.2.1, .ref u.2.2.2.2, .int (nI 0), .int (nI 0)])), (u.1, .inl (ct 0, 12, .inl (fun j => if j < 12 then nI j else 0))), (u.2.1, .inl (ct 0, 12, .inl (fun j => if j < 12 then nI j else 0))), (u.2.2.1, .inl (ct 0, 12, .inl (fun _ => 0))), (u.2.2.2.1, .inl (ct 0, 144, .inl (fun _ => 0))), (u.2.2.2.2, .inl (ct 0, 30, .inl (fun _ => 0)))])) A) ([.ref q0] : List Value).toArray s 5 210 A) (F0 m 62 ls []) := by
    intro k
    induction k with
    | zero => intro i hk; intros; exact absurd hk (by omega)
    | succ k ih_loop =>
      intro i hk hi H locs hP hD hS ls hl
      refine lv_iload_n hx hb dX1_init_62 rfl (lv_at hl 1 rfl) ?_
      refine lv_bipush (v := nI 12) hx hb dX1_init_63 (by decide) ?_
      refine hk_geN (tgt := 92) hx hb (by omega) (by omega) dX1_init_65 (by decide) (fun hc => ?_) (fun hc => ?_)
      · obtain rfl : i = 12 := by omega
        have hP9 : va_P D vwCl [(q0, .inr (1, [.ref q1, .ref q2, .int (nI 0), .ref q3, .ref q4, .ref q5, .int (nI 0), .int (nI 0)])), (q1, .inl (ct 0, 12, .inl (fun j => if j < 12 then nI j else 0))), (q2, .inl (ct 0, 12, .inl (fun j => if j < 12 then nI j else 0))), (q3, .inl (ct 0, 12, .inl (fun _ => 0))), (q4, .inl (ct 0, 144, .inl (fun _ => 0))), (q5, .inl (ct 0, 30, .inl (fun _ => 0)))] H := hP
        have hD9 : va_D A [(q0, .inr (1, [.ref q1, .ref q2, .int (nI 0), .ref q3, .ref q4, .ref q5, .int (nI 0), .int (nI 0)])), (q1, .inl (ct 0, 12, .inl (fun j => if j < 12 then nI j else 0))), (q2, .inl (ct 0, 12, .inl (fun j => if j < 12 then nI j else 0))), (q3, .inl (ct 0, 12, .inl (fun _ => 0))), (q4, .inl (ct 0, 144, .inl (fun _ => 0))), (q5, .inl (ct 0, 30, .inl (fun _ => 0)))] := hD
        exact W.vret hx hb hr (fun t ht hW => ⟨⟨(q1, q2, q3, q4, q5), rfl, trivial, by rw [ht]; exact hP9, hD9⟩, hS.F ht⟩) hS.2.2 dX1_init_92
      · refine lv_aload_n hx hb dX1_init_68 rfl (lv_at hl 0 rfl) ?_
        refine va_get (D := D) (ci := 1) (v := .ref q1) (C := RX1) (T := TX1) (N := 8) hx hb hts hin1 hown hE.1 hP 0 rfl rfl 0 (by decide) (hts (.fieldLink RX1 9 "Homekeys$Student" "keys" "[I") (by decide +kernel)) (fun _ h9 => h9) rfl dX1_init_69 ?_
        refine lv_iload_n hx hb dX1_init_72 rfl (lv_at hl 1 rfl) ?_
        refine lv_iload_n hx hb dX1_init_73 rfl (lv_at hl 1 rfl) ?_
        refine hk_M (rest := []) (va_Run.run (va_runSN (host := RX2) (As := [.ref q1, .int (nI i), .int (nI i)]) (rest := []) ⟨hx, hb, hml, hown, hts⟩ (c_X2_put l D ct sa q1 12 (fun j => if j < i then nI j else 0) i (nI i) (by decide) (by omega)) ⟨va_cnB 3 hts gX1_init_X2_put_n37 rfl rfl rfl (hE.nw hkN_X1_37) (hts (.initialized RX2) (by decide +kernel)) (by decide +kernel) ⟨Nat.le_of_ble_eq_true rfl, Nat.le_of_ble_eq_true rfl⟩, hts (.static yX2_put) (by decide +kernel), trivial⟩ (hk_preS hE ⟨hP.sub (ws' := [(q1, .inl (ct 0, 12, .inl (fun j => if j < i then nI j else 0)))]) [1] rfl, (hD.sub (ws' := [(q1, .inl (ct 0, 12, .inl (fun j => if j < i then nI j else 0)))]) [1] (by decide) rfl).weaken (fun _ _ _ _ => trivial)⟩) rfl rfl hl.1 rfl (lv_room (Nat.le_of_ble_eq_true rfl)) dX1_init_74 ⟨Nat.le_of_ble_eq_true rfl, Nat.le_of_ble_eq_true rfl⟩)) hP hD hS [1] (wc := [(q1, .inl (ct 0, 12, .inl (fun j => if j < i then nI j else 0)))]) rfl rfl rfl (fun H locs hP hD hS => ?_)
        have hP : va_P D vwCl [(q0, .inr (1, [.ref q1, .ref q2, .int (nI 0), .ref q3, .ref q4, .ref q5, .int (nI 0), .int (nI 0)])), (q1, .inl (ct 0, 12, .inl (upd (fun j => if j < i then nI j else 0) i (nI i)))), (q2, .inl (ct 0, 12, .inl (fun j => if j < i then nI j else 0))), (q3, .inl (ct 0, 12, .inl (fun _ => 0))), (q4, .inl (ct 0, 144, .inl (fun _ => 0))), (q5, .inl (ct 0, 30, .inl (fun _ => 0)))] H := hP
        have hD : va_D A [(q0, .inr (1, [.ref q1, .ref q2, .int (nI 0), .ref q3, .ref q4, .ref q5, .int (nI 0), .int (nI 0)])), (q1, .inl (ct 0, 12, .inl (upd (fun j => if j < i then nI j else 0) i (nI i)))), (q2, .inl (ct 0, 12, .inl (fun j => if j < i then nI j else 0))), (q3, .inl (ct 0, 12, .inl (fun _ => 0))), (q4, .inl (ct 0, 144, .inl (fun _ => 0))), (q5, .inl (ct 0, 30, .inl (fun _ => 0)))] := hD
        refine lv_aload_n hx hb dX1_init_77 rfl (lv_at hl 0 rfl) ?_
        refine va_get (D := D) (ci := 1) (v := .ref q2) (C := RX1) (T := TX1) (N := 8) hx hb hts hin1 hown hE.1 hP 0 rfl rfl 1 (by decide) (hts (.fieldLink RX1 15 "Homekeys$Student" "letters" "[I") (by decide +kernel)) (fun _ h9 => h9) rfl dX1_init_78 ?_
        refine lv_iload_n hx hb dX1_init_81 rfl (lv_at hl 1 rfl) ?_
        refine lv_iload_n hx hb dX1_init_82 rfl (lv_at hl 1 rfl) ?_
        refine hk_M (rest := []) (va_Run.run (va_runSN (host := RX2) (As := [.ref q2, .int (nI i), .int (nI i)]) (rest := []) ⟨hx, hb, hml, hown, hts⟩ (c_X2_put l D ct sa q2 12 (fun j => if j < i then nI j else 0) i (nI i) (by decide) (by omega)) ⟨va_cnB 3 hts gX1_init_X2_put_n37 rfl rfl rfl (hE.nw hkN_X1_37) (hts (.initialized RX2) (by decide +kernel)) (by decide +kernel) ⟨Nat.le_of_ble_eq_true rfl, Nat.le_of_ble_eq_true rfl⟩, hts (.static yX2_put) (by decide +kernel), trivial⟩ (hk_preS hE ⟨hP.sub (ws' := [(q2, .inl (ct 0, 12, .inl (fun j => if j < i then nI j else 0)))]) [2] rfl, (hD.sub (ws' := [(q2, .inl (ct 0, 12, .inl (fun j => if j < i then nI j else 0)))]) [2] (by decide) rfl).weaken (fun _ _ _ _ => trivial)⟩) rfl rfl hl.1 rfl (lv_room (Nat.le_of_ble_eq_true rfl)) dX1_init_83 ⟨Nat.le_of_ble_eq_true rfl, Nat.le_of_ble_eq_true rfl⟩)) hP hD hS [2] (wc := [(q2, .inl (ct 0, 12, .inl (fun j => if j < i then nI j else 0)))]) rfl rfl rfl (fun H locs hP hD hS => ?_)
        have hP : va_P D vwCl [(q0, .inr (1, [.ref q1, .ref q2, .int (nI 0), .ref q3, .ref q4, .ref q5, .int (nI 0), .int (nI 0)])), (q1, .inl (ct 0, 12, .inl (upd (fun j => if j < i then nI j else 0) i (nI i)))), (q2, .inl (ct 0, 12, .inl (upd (fun j => if j < i then nI j else 0) i (nI i)))), (q3, .inl (ct 0, 12, .inl (fun _ => 0))), (q4, .inl (ct 0, 144, .inl (fun _ => 0))), (q5, .inl (ct 0, 30, .inl (fun _ => 0)))] H := hP
        have hD : va_D A [(q0, .inr (1, [.ref q1, .ref q2, .int (nI 0), .ref q3, .ref q4, .ref q5, .int (nI 0), .int (nI 0)])), (q1, .inl (ct 0, 12, .inl (upd (fun j => if j < i then nI j else 0) i (nI i)))), (q2, .inl (ct 0, 12, .inl (upd (fun j => if j < i then nI j else 0) i (nI i)))), (q3, .inl (ct 0, 12, .inl (fun _ => 0))), (q4, .inl (ct 0, 144, .inl (fun _ => 0))), (q5, .inl (ct 0, 30, .inl (fun _ => 0)))] := hD
        have hP : va_P D vwCl [(q0, .inr (1, [.ref q1, .ref q2, .int (nI 0), .ref q3, .ref q4, .ref q5, .int (nI 0), .int (nI 0)])), (q1, .inl (ct 0, 12, .inl (fun j => if j < (i + 1) then nI j else 0))), (q2, .inl (ct 0, 12, .inl (fun j => if j < (i + 1) then nI j else 0))), (q3, .inl (ct 0, 12, .inl (fun _ => 0))), (q4, .inl (ct 0, 144, .inl (fun _ => 0))), (q5, .inl (ct 0, 30, .inl (fun _ => 0)))] H := by rw [id_s i] at hP; exact hP
        have hD : va_D A [(q0, .inr (1, [.ref q1, .ref q2, .int (nI 0), .ref q3, .ref q4, .ref q5, .int (nI 0), .int (nI 0)])), (q1, .inl (ct 0, 12, .inl (fun j => if j < (i + 1) then nI j else 0))), (q2, .inl (ct 0, 12, .inl (fun j => if j < (i + 1) then nI j else 0))), (q3, .inl (ct 0, 12, .inl (fun _ => 0))), (q4, .inl (ct 0, 144, .inl (fun _ => 0))), (q5, .inl (ct 0, 30, .inl (fun _ => 0)))] := by rw [id_s i] at hD; exact hD
        refine lv_iinc (v := nI (i + 1)) (lv' := [(1, .int (nI (i + 1))), (0, .ref q0)]) hx hb dX1_init_86 hl (k := 1) rfl (nI_add _ _) (by decide) rfl (fun ls hl => ?_)
        refine lv_goto (tgt := 62) hx hb dX1_init_89 (by decide) ?_
        exact ih_loop (i + 1) (by omega) (by omega) H locs hP hD hS ls (lv_sub hl [1, 0] rfl)
  exact loop 13 0 (by omega) (by omega) H locs hP hD hS ls (lv_sub hl [1, 0] rfl)
