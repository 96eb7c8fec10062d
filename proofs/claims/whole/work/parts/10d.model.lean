theorem hkIs_0 {v a b : Int32} (h : v < a ∨ b < v) : hkIs v a b = 0 := if_neg (fun q => h.elim q.1 q.2)
theorem hkIs_1 {v a b : Int32} (h : ¬ (v < a ∨ b < v)) : hkIs v a b = 1 := if_pos ⟨fun q => h (Or.inl q), fun q => h (Or.inr q)⟩
theorem hk_pos0 {z : Int32} (h0 : ¬ z < 0) (h1 : ¬ z = 0) : 0 < z := by
  have a0 : ¬ z.toInt < (0 : Int32).toInt := fun q => h0 (Int32.lt_iff_toInt_lt.mpr q)
  have a1 : ¬ z.toInt = (0 : Int32).toInt := fun q => h1 (Int32.toInt_inj.mp q)
  refine Int32.lt_iff_toInt_lt.mpr ?_
  omega
/-- the world of the reference, cell by cell -/
theorem mdW_of {D : va_G} {ct : Nat → ClassId} {aa : Nat → Nat} {rf : Int32} {H : Heap} {n nd nc : Nat} {K L Y S P C La Q T d W X Z : Nat → Int32} (g : Sg) (h : va_P D vwCl [(aa 0, .inr (3, [.int rf, .int (nI n), .ref (aa 1), .ref (aa 2), .ref (aa 3), .ref (aa 4), .ref (aa 5), .ref (aa 6), .ref (aa 7), .ref (aa 8), .ref (aa 9), .int (nI nd), .ref (aa 10), .int (nI nc), .ref (aa 11), .ref (aa 12), .ref (aa 13)])), (aa 1, .inl (ct 0, 60, .inl K)), (aa 2, .inl (ct 0, 60, .inl L)), (aa 3, .inl (ct 0, 5, .inl Y)), (aa 4, .inl (ct 0, 60, .inl S)), (aa 5, .inl (ct 0, 720, .inl P)), (aa 6, .inl (ct 0, 5, .inl C)), (aa 7, .inl (ct 0, 5, .inl La)), (aa 8, .inl (ct 0, 5, .inl Q)), (aa 9, .inl (ct 0, 150, .inl T)), (aa 10, .inl (ct 0, 24, .inl d)), (aa 11, .inl (ct 0, 6, .inl W)), (aa 12, .inl (ct 0, 30, .inl X)), (aa 13, .inl (ct 0, 30, .inl Z))] H)
    (en : gN g = n) (eK : mK g = K) (eL : mL g = L) (eY : mY g = Y) (eS : mS g = S) (eP : mP g = P) (eC : mC g = C) (eLa : mLa g = La) (eQ : mQ g = Q) (eT : mT g = T) (ed : gd g = nd) (eD : mD g = d) (ec : gc g = nc) (eW : mW g = W) (eX : mX g = X) (eZ : mZ g = Z) : va_P D vwCl (mdW ct aa g rf) H := by
  subst en eK eL eY eS eP eC eLa eQ eT ed eD ec eW eX eZ
  exact h
theorem mLa_new (g : Sg) (h : gS g (gN g) = st0) : mLa (gN g + 1, gS g, gd g, gD g, gc g, gC g) = upd (mLa g) (gN g) (-1) := by
  funext j
  unfold upd
  by_cases hj : j = gN g
  · subst hj
    rw [if_pos rfl]
    refine (if_pos (Nat.lt_succ_self _)).trans ?_
    show lst (gS g (gN g)) = -1
    rw [h]
    rfl
  · rw [if_neg hj]
    by_cases h2 : j < gN g
    · exact (if_pos (show j < gN g + 1 by omega)).trans (if_pos h2).symm
    · exact (if_neg (show ¬ j < gN g + 1 by omega)).trans (if_neg h2).symm
theorem mD_up (g : Sg) (d x n : Nat) : mD (gN g, gS g, n, va_up (gD g) d x, gc g, gC g) = upd (mD g) d (nI x) := by
  funext j
  unfold upd
  by_cases hj : j = d
  · subst hj
    rw [if_pos rfl]
    show nI (va_up (gD g) j x j) = nI x
    rw [va_up_self]
  · rw [if_neg hj]
    show nI (va_up (gD g) d x j) = nI (gD g j)
    rw [va_up_ne _ _ hj]
theorem mZ_rs (g : Sg) (i j : Nat) (hj : j < 5) (z : Int32) : mZ (gV g i (rsU (gC g i) j z)) = upd (mZ g) (5 * i + j) z := by
  rw [mZ_gV]
  show row2 5 i (upd (cZ (gC g i)) j z) (mZ g) = _
  rw [← row2_up _ _ _ hj, ← mZ_row g i]
def hkIn (g : Sg) (x y : Int32) : Int32 := if bd x (gc g) ∨ bd y (cW (gC g (ix x))) then 0 else 1
theorem hkIn_z (g : Sg) (x y : Int32) : narrow .boolean (.int (hkIn g x y)) = .int (hkIn g x y) := by
  unfold hkIn
  split <;> rfl
/-! ranks: two of one rank are one -/
def ahd (X : Nat → Nat) (Z : Nat → Int32) (r i : Nat) : Prop := 0 < Z r ∧ (scr X Z r < scr X Z i ∨ (scr X Z r = scr X Z i ∧ r < i))
theorem rk_1 {X : Nat → Nat} {Z : Nat → Int32} {i r : Nat} (h : ahd X Z r i) : rk X Z i (r + 1) = rk X Z i r + 1 := by rw [rk]; exact if_pos h
theorem rk_0 {X : Nat → Nat} {Z : Nat → Int32} {i r : Nat} (h : ¬ ahd X Z r i) : rk X Z i (r + 1) = rk X Z i r := by rw [rk]; exact if_neg h
theorem ahd_tr {X : Nat → Nat} {Z : Nat → Int32} {r i j : Nat} (h : ahd X Z r i) (h2 : ahd X Z i j) : ahd X Z r j := by
  refine ⟨h.1, ?_⟩
  rcases h.2 with a | ⟨a, a1⟩
  · rcases h2.2 with b | ⟨b, b1⟩
    · exact Or.inl (Int32.lt_trans a b)
    · exact Or.inl (b ▸ a)
  · rcases h2.2 with b | ⟨b, b1⟩
    · exact Or.inl (a ▸ b)
    · exact Or.inr ⟨a.trans b, by omega⟩
theorem ahd_ir {X : Nat → Nat} {Z : Nat → Int32} {i : Nat} (h : ahd X Z i i) : False := by
  rcases h.2 with a | ⟨a, a1⟩
  · exact Int32.lt_irrefl a
  · omega
theorem rk_lt {X : Nat → Nat} {Z : Nat → Int32} {i j : Nat} (h : ahd X Z i j) : ∀ n, rk X Z i n ≤ rk X Z j n ∧ (i < n → rk X Z i n < rk X Z j n)
  | 0 => ⟨Nat.le_refl _, fun q => absurd q (Nat.not_lt_zero _)⟩
  | n + 1 => by
    obtain ⟨h1, h2⟩ := rk_lt h n
    by_cases e : n = i
    · subst e
      rw [rk_0 (fun q => ahd_ir q), rk_1 h]
      exact ⟨by omega, fun _ => by omega⟩
    · by_cases a : ahd X Z n i
      · rw [rk_1 a, rk_1 (ahd_tr a h)]
        exact ⟨by omega, fun q => by have := h2 (by omega); omega⟩
      · rw [rk_0 a]
        by_cases b : ahd X Z n j
        · rw [rk_1 b]
          exact ⟨by omega, fun q => by have := h2 (by omega); omega⟩
        · rw [rk_0 b]
          exact ⟨h1, fun q => h2 (by omega)⟩
theorem i32_tri (a b : Int32) : a < b ∨ a = b ∨ b < a := by
  rcases Int.lt_trichotomy a.toInt b.toInt with h | h | h
  · exact Or.inl (Int32.lt_iff_toInt_lt.mpr h)
  · exact Or.inr (Or.inl (Int32.toInt_inj.mp h))
  · exact Or.inr (Or.inr (Int32.lt_iff_toInt_lt.mpr h))
theorem rk_inj {X : Nat → Nat} {Z : Nat → Int32} {i j n : Nat} (hi : i < n) (hj : j < n) (zi : 0 < Z i) (zj : 0 < Z j) (h : rk X Z i n = rk X Z j n) : i = j := by
  by_cases e : i = j
  · exact e
  · have h1 : ahd X Z i j ∨ ahd X Z j i := by
      rcases i32_tri (scr X Z i) (scr X Z j) with a | a | a
      · exact Or.inl ⟨zi, Or.inl a⟩
      · by_cases q : i < j
        · exact Or.inl ⟨zi, Or.inr ⟨a, q⟩⟩
        · exact Or.inr ⟨zj, Or.inr ⟨a.symm, by omega⟩⟩
      · exact Or.inr ⟨zj, Or.inl a⟩
    rcases h1 with a | a
    · have := (rk_lt a n).2 hi; omega
    · have := (rk_lt a n).2 hj; omega
theorem rk_up {X : Nat → Nat} {Z : Nat → Int32} {i m : Nat} (h : ∀ r, m ≤ r → Z r = 0) : ∀ n, rk X Z i (m + n) = rk X Z i m
  | 0 => rfl
  | n + 1 => by
    show rk X Z i ((m + n) + 1) = _
    rw [rk_0 (fun q => absurd q.1 (by rw [h (m + n) (by omega)]; decide)), rk_up h n]
theorem fi_none (q : Nat → Bool) : ∀ n i, (∀ j, i ≤ j → j < i + n → ¬ q j = true) → fi q n i = -1
  | 0, _, _ => rfl
  | n + 1, i, h => by
    rw [fi, if_neg (h i (Nat.le_refl _) (by omega))]
    exact fi_none q n (i + 1) (fun j h1 h2 => h j (by omega) (by omega))
theorem fi_some (q : Nat → Bool) {k : Nat} (hk : q k = true) : ∀ n i, i ≤ k → k < i + n → (∀ j, q j = true → i ≤ j → j < i + n → j = k) → fi q n i = nI k
  | 0, i, h1, h2, _ => absurd h2 (by omega)
  | n + 1, i, h1, h2, h => by
    rw [fi]
    by_cases hq : q i = true
    · rw [if_pos hq, h i hq (Nat.le_refl _) (by omega)]
    · rw [if_neg hq]
      exact fi_some q hk n (i + 1) (by
        have : i ≠ k := fun e => hq (by rw [e]; exact hk)
        omega) (by omega) (fun j a b d => h j a (by omega) (by omega))
theorem lf_none (q : Nat → Bool) (d : Int32) : ∀ n, (∀ j, j < n → ¬ q j = true) → lf q d n = d
  | 0, _ => rfl
  | n + 1, h => by
    rw [lf, if_neg (h n (by omega))]
    exact lf_none q d n (fun j hj => h j (by omega))
theorem lf_some (q : Nat → Bool) (d : Int32) {k : Nat} (hk : q k = true) : ∀ n, k < n → (∀ j, q j = true → j < n → j = k) → lf q d n = nI k
  | 0, h1, _ => absurd h1 (by omega)
  | n + 1, h1, h => by
    rw [lf]
    by_cases hq : q n = true
    · rw [if_pos hq, h n hq (by omega)]
    · rw [if_neg hq]
      exact lf_some q d hk n (by
        have : n ≠ k := fun e => hq (by rw [e]; exact hk)
        omega) (fun j a b => h j a (by omega))
theorem lf_any (q : Nat → Bool) (a b : Int32) : ∀ n, (∃ k, k < n ∧ q k = true) → lf q a n = lf q b n
  | 0, h => by obtain ⟨k, hk, -⟩ := h; omega
  | n + 1, h => by
    rw [lf, lf]
    by_cases hq : q n = true
    · rw [if_pos hq, if_pos hq]
    · rw [if_neg hq, if_neg hq]
      obtain ⟨k, hk, h2⟩ := h
      exact lf_any q a b n ⟨k, by
        have : k ≠ n := fun e => hq (by rw [← e]; exact h2)
        omega, h2⟩
theorem lf_fi {v : Co} {y : Int32} (hv : Ico v) : lf (rkd v y) (-1) (cW v) = fi (rkd v y) 5 0 := by
  obtain ⟨hw, hx, hz, hn⟩ := hv
  have inj : ∀ i j, i < 5 → j < 5 → rkd v y i = true → rkd v y j = true → i = j := by
    intro i j hi hj h1 h2
    have a1 := of_decide_eq_true h1
    have a2 := of_decide_eq_true h2
    have b1 := rk_le (cX v) (cZ v) i 5
    have b2 := rk_le (cX v) (cZ v) j 5
    exact rk_inj hi hj a1.1 a2.1 ((nI_eq (by omega) (by omega)).mp (a1.2.trans a2.2.symm))
  have out : ∀ j, cW v ≤ j → ¬ rkd v y j = true := by
    intro j hj h1
    have a1 := of_decide_eq_true h1
    rw [(hz j hj).2] at a1
    exact absurd a1.1 (by decide)
  by_cases h : ∃ k, k < 5 ∧ rkd v y k = true
  · obtain ⟨k, hk, hq⟩ := h
    rw [fi_some (rkd v y) hq 5 0 (Nat.zero_le _) (by omega) (fun j a _ b => inj j k (by omega) hk a hq)]
    exact lf_some (rkd v y) _ hq _ (Nat.lt_of_not_le fun q => out k q hq) (fun j a b => inj j k (by omega) hk a hq)
  · rw [fi_none (rkd v y) 5 0 (fun j _ hj hq => h ⟨j, by omega, hq⟩)]
    exact lf_none (rkd v y) _ _ (fun j hj hq => h ⟨j, by omega, hq⟩)
set_option maxHeartbeats 4000000 in
set_option maxRecDepth 100000 in
theorem c_X3_student (l : Launch) (D : va_G) (ct : Nat → ClassId) (sa : Nat → Nat) (aa : Nat → Nat) (g : Sg) (rf : Int32)  (hI : Inv g) : Met l yX3_student wsX3_student ({ frames := 1, cells := 0, slots := 0, locals := 21 }) (hkPc D ct sa [.ref (aa 0)] (fun H => va_P D vwCl (mdW ct aa g rf) H ∧ va_D (fun _ => True) (mdW ct aa g rf))) (hkQ (some (.int (opStudent g).2.1)) D (mdW ct aa (opStudent g).2.2 (opStudent g).1) [(aa 0), (aa 1), (aa 2), (aa 3), (aa 4), (aa 5), (aa 6), (aa 7), (aa 8), (aa 9), (aa 10), (aa 11), (aa 12), (aa 13)]) 0 0 (hkA [(aa 0), (aa 1), (aa 2), (aa 3), (aa 4), (aa 5), (aa 6), (aa 7), (aa 8), (aa 9), (aa 10), (aa 11), (aa 12), (aa 13)]) := by
  refine Met.ofW (cc := cX3_student) (maxL := 1) (ret := (some .int)) (by decide) rfl ?_
  intro p e s m args below meth c s₁ B hml hv
  obtain ⟨rfl, hE, hp⟩ := hv
  have hx := B.exec
  have hb := B.bytes
  have hr := B.returns
  have hts := atoms_spec (ws := wsX3_student) B.pre
  have hown : s.vm.findClass RX3 = some m.cls := findClass_of_methodNamed B.named
  have hlocks := B.notSynchronized
  have hin3 : ∀ w ∈ wsX30, w ∈ wsX3_student := by decide +kernel
  obtain ⟨hP, hD0⟩ := hp
  have hD : va_D (hkA [(aa 0), (aa 1), (aa 2), (aa 3), (aa 4), (aa 5), (aa 6), (aa 7), (aa 8), (aa 9), (aa 10), (aa 11), (aa 12), (aa 13)]) [((aa 0), .inr (3, [.int rf, .int (nI (gN g)), .ref (aa 1), .ref (aa 2), .ref (aa 3), .ref (aa 4), .ref (aa 5), .ref (aa 6), .ref (aa 7), .ref (aa 8), .ref (aa 9), .int (nI (gd g)), .ref (aa 10), .int (nI (gc g)), .ref (aa 11), .ref (aa 12), .ref (aa 13)])), ((aa 1), .inl (ct 0, 60, .inl (mK g))), ((aa 2), .inl (ct 0, 60, .inl (mL g))), ((aa 3), .inl (ct 0, 5, .inl (mY g))), ((aa 4), .inl (ct 0, 60, .inl (mS g))), ((aa 5), .inl (ct 0, 720, .inl (mP g))), ((aa 6), .inl (ct 0, 5, .inl (mC g))), ((aa 7), .inl (ct 0, 5, .inl (mLa g))), ((aa 8), .inl (ct 0, 5, .inl (mQ g))), ((aa 9), .inl (ct 0, 150, .inl (mT g))), ((aa 10), .inl (ct 0, 24, .inl (mD g))), ((aa 11), .inl (ct 0, 6, .inl (mW g))), ((aa 12), .inl (ct 0, 30, .inl (mX g))), ((aa 13), .inl (ct 0, 30, .inl (mZ g)))] := hD0.weaken (fun k q hk _ => hk_mem hk)
  have hS : va_S (hkA [(aa 0), (aa 1), (aa 2), (aa 3), (aa 4), (aa 5), (aa 6), (aa 7), (aa 8), (aa 9), (aa 10), (aa 11), (aa 12), (aa 13)]) s.heap s.heap [] := va_S.rf
  obtain ⟨hN5, hd24, hc6, hSt, hDr, hNs, hCs, hCo⟩ := id hI
  have hl := lv_entry ([.ref (aa 0)]) (n := 1) (Nat.le_of_ble_eq_true rfl)
  rw [lg_entry_eq]
  generalize (lg_sl ([.ref (aa 0)]) ++ List.replicate (1 - (lg_sl ([.ref (aa 0)])).length) Slot.unset).toArray = ls at hl ⊢
  have hl : lv_has ls 1 [(0, .ref (aa 0))] := hl
  refine lv_aload_n hx hb dX3_student_0 rfl (lv_at hl 0 rfl) ?_
  refine lv_aload_n hx hb dX3_student_1 rfl (lv_at hl 0 rfl) ?_
  refine va_get (D := D) (ci := 3) (v := .int (nI (gN g))) (C := RX3) (T := TX3) (N := 17) hx hb hts hin3 hown hE.1 hP 0 rfl rfl 1 (by decide) (hts (.fieldLink RX3 53 "HomekeysModel" "students" "I") (by decide +kernel)) (fun _ h9 => h9) rfl dX3_student_2 ?_
  refine lv_iconst (v := nI 5) hx hb dX3_student_5 (by decide) ?_
  refine hk_neN (tgt := 13) hx hb (by omega) (by omega) dX3_student_6 (by decide) (fun h1 => ?_) (fun h1 => ?_)
  · refine lv_iconst (v := nI 0) hx hb dX3_student_13 (by decide) ?_
    refine hk_M (rest := []) (va_Run.run (va_runV (As := [.int (nI 0)]) (rest := []) ⟨hx, hb, hml, hown, hts⟩ (c_X3_refused l D ct sa aa g rf (nI 0)) (cwV 1 hts gX3_student_X3_refused rfl rfl rfl (by decide +kernel) ⟨Nat.le_of_ble_eq_true rfl, Nat.le_of_ble_eq_true rfl⟩) (hk_preV hE (va_recv hE.1 hP (ci := 3) (q0 := 0) rfl rfl) ⟨hP.sub (ws' := [((aa 0), .inr (3, [.int rf, .int (nI (gN g)), .ref (aa 1), .ref (aa 2), .ref (aa 3), .ref (aa 4), .ref (aa 5), .ref (aa 6), .ref (aa 7), .ref (aa 8), .ref (aa 9), .int (nI (gd g)), .ref (aa 10), .int (nI (gc g)), .ref (aa 11), .ref (aa 12), .ref (aa 13)]))]) [0] rfl, (hD.sub (ws' := [((aa 0), .inr (3, [.int rf, .int (nI (gN g)), .ref (aa 1), .ref (aa 2), .ref (aa 3), .ref (aa 4), .ref (aa 5), .ref (aa 6), .ref (aa 7), .ref (aa 8), .ref (aa 9), .int (nI (gd g)), .ref (aa 10), .int (nI (gc g)), .ref (aa 11), .ref (aa 12), .ref (aa 13)]))]) [0] (by decide) rfl).weaken (fun _ _ _ _ => trivial)⟩) rfl rfl hl.1 rfl (lv_room (Nat.le_of_ble_eq_true rfl)) dX3_student_14 ⟨Nat.zero_le _, Nat.zero_le _⟩)) hP hD hS [0] (wc := [((aa 0), .inr (3, [.int rf, .int (nI (gN g)), .ref (aa 1), .ref (aa 2), .ref (aa 3), .ref (aa 4), .ref (aa 5), .ref (aa 6), .ref (aa 7), .ref (aa 8), .ref (aa 9), .int (nI (gd g)), .ref (aa 10), .int (nI (gc g)), .ref (aa 11), .ref (aa 12), .ref (aa 13)]))]) rfl rfl rfl (fun H locs hP hD hS => ?_)
    have hP : va_P D vwCl [((aa 0), .inr (3, [.int (nI 0), .int (nI (gN g)), .ref (aa 1), .ref (aa 2), .ref (aa 3), .ref (aa 4), .ref (aa 5), .ref (aa 6), .ref (aa 7), .ref (aa 8), .ref (aa 9), .int (nI (gd g)), .ref (aa 10), .int (nI (gc g)), .ref (aa 11), .ref (aa 12), .ref (aa 13)])), ((aa 1), .inl (ct 0, 60, .inl (mK g))), ((aa 2), .inl (ct 0, 60, .inl (mL g))), ((aa 3), .inl (ct 0, 5, .inl (mY g))), ((aa 4), .inl (ct 0, 60, .inl (mS g))), ((aa 5), .inl (ct 0, 720, .inl (mP g))), ((aa 6), .inl (ct 0, 5, .inl (mC g))), ((aa 7), .inl (ct 0, 5, .inl (mLa g))), ((aa 8), .inl (ct 0, 5, .inl (mQ g))), ((aa 9), .inl (ct 0, 150, .inl (mT g))), ((aa 10), .inl (ct 0, 24, .inl (mD g))), ((aa 11), .inl (ct 0, 6, .inl (mW g))), ((aa 12), .inl (ct 0, 30, .inl (mX g))), ((aa 13), .inl (ct 0, 30, .inl (mZ g)))] H := hP
    have hD : va_D (hkA [(aa 0), (aa 1), (aa 2), (aa 3), (aa 4), (aa 5), (aa 6), (aa 7), (aa 8), (aa 9), (aa 10), (aa 11), (aa 12), (aa 13)]) [((aa 0), .inr (3, [.int (nI 0), .int (nI (gN g)), .ref (aa 1), .ref (aa 2), .ref (aa 3), .ref (aa 4), .ref (aa 5), .ref (aa 6), .ref (aa 7), .ref (aa 8), .ref (aa 9), .int (nI (gd g)), .ref (aa 10), .int (nI (gc g)), .ref (aa 11), .ref (aa 12), .ref (aa 13)])), ((aa 1), .inl (ct 0, 60, .inl (mK g))), ((aa 2), .inl (ct 0, 60, .inl (mL g))), ((aa 3), .inl (ct 0, 5, .inl (mY g))), ((aa 4), .inl (ct 0, 60, .inl (mS g))), ((aa 5), .inl (ct 0, 720, .inl (mP g))), ((aa 6), .inl (ct 0, 5, .inl (mC g))), ((aa 7), .inl (ct 0, 5, .inl (mLa g))), ((aa 8), .inl (ct 0, 5, .inl (mQ g))), ((aa 9), .inl (ct 0, 150, .inl (mT g))), ((aa 10), .inl (ct 0, 24, .inl (mD g))), ((aa 11), .inl (ct 0, 6, .inl (mW g))), ((aa 12), .inl (ct 0, 30, .inl (mX g))), ((aa 13), .inl (ct 0, 30, .inl (mZ g)))] := hD
    refine hk_top (y := nI 0) (by decide) ?_
    refine hk_eq0N (tgt := 22) hx hb (by omega) dX3_student_17 (by decide) (fun hr9 => ?_) (fun hr0 => ?_)
    · refine lv_aload_n hx hb dX3_student_22 rfl (lv_at hl 0 rfl) ?_
      refine va_get (D := D) (ci := 3) (v := .ref (aa 7)) (C := RX3) (T := TX3) (N := 17) hx hb hts hin3 hown hE.1 hP 0 rfl rfl 8 (by decide) (hts (.fieldLink RX3 28 "HomekeysModel" "last" "[I") (by decide +kernel)) (fun _ h9 => h9) rfl dX3_student_23 ?_
      refine lv_aload_n hx hb dX3_student_26 rfl (lv_at hl 0 rfl) ?_
      refine va_get (D := D) (ci := 3) (v := .int (nI (gN g))) (C := RX3) (T := TX3) (N := 17) hx hb hts hin3 hown hE.1 hP 0 rfl rfl 1 (by decide) (hts (.fieldLink RX3 53 "HomekeysModel" "students" "I") (by decide +kernel)) (fun _ h9 => h9) rfl dX3_student_27 ?_
      refine lv_iconst (v := (-1)) hx hb dX3_student_30 (by decide) ?_
      refine hk_iast hx hb hE hP hD hS 7 rfl (j := gN g) (x := (-1)) (by omega) (by omega) dX3_student_31 (fun H locs hP hD hS => ?_)
      have hP : va_P D vwCl [((aa 0), .inr (3, [.int (nI 0), .int (nI (gN g)), .ref (aa 1), .ref (aa 2), .ref (aa 3), .ref (aa 4), .ref (aa 5), .ref (aa 6), .ref (aa 7), .ref (aa 8), .ref (aa 9), .int (nI (gd g)), .ref (aa 10), .int (nI (gc g)), .ref (aa 11), .ref (aa 12), .ref (aa 13)])), ((aa 1), .inl (ct 0, 60, .inl (mK g))), ((aa 2), .inl (ct 0, 60, .inl (mL g))), ((aa 3), .inl (ct 0, 5, .inl (mY g))), ((aa 4), .inl (ct 0, 60, .inl (mS g))), ((aa 5), .inl (ct 0, 720, .inl (mP g))), ((aa 6), .inl (ct 0, 5, .inl (mC g))), ((aa 7), .inl (ct 0, 5, .inl (upd (mLa g) (gN g) (-1)))), ((aa 8), .inl (ct 0, 5, .inl (mQ g))), ((aa 9), .inl (ct 0, 150, .inl (mT g))), ((aa 10), .inl (ct 0, 24, .inl (mD g))), ((aa 11), .inl (ct 0, 6, .inl (mW g))), ((aa 12), .inl (ct 0, 30, .inl (mX g))), ((aa 13), .inl (ct 0, 30, .inl (mZ g)))] H := hP
      have hD : va_D (hkA [(aa 0), (aa 1), (aa 2), (aa 3), (aa 4), (aa 5), (aa 6), (aa 7), (aa 8), (aa 9), (aa 10), (aa 11), (aa 12), (aa 13)]) [((aa 0), .inr (3, [.int (nI 0), .int (nI (gN g)), .ref (aa 1), .ref (aa 2), .ref (aa 3), .ref (aa 4), .ref (aa 5), .ref (aa 6), .ref (aa 7), .ref (aa 8), .ref (aa 9), .int (nI (gd g)), .ref (aa 10), .int (nI (gc g)), .ref (aa 11), .ref (aa 12), .ref (aa 13)])), ((aa 1), .inl (ct 0, 60, .inl (mK g))), ((aa 2), .inl (ct 0, 60, .inl (mL g))), ((aa 3), .inl (ct 0, 5, .inl (mY g))), ((aa 4), .inl (ct 0, 60, .inl (mS g))), ((aa 5), .inl (ct 0, 720, .inl (mP g))), ((aa 6), .inl (ct 0, 5, .inl (mC g))), ((aa 7), .inl (ct 0, 5, .inl (upd (mLa g) (gN g) (-1)))), ((aa 8), .inl (ct 0, 5, .inl (mQ g))), ((aa 9), .inl (ct 0, 150, .inl (mT g))), ((aa 10), .inl (ct 0, 24, .inl (mD g))), ((aa 11), .inl (ct 0, 6, .inl (mW g))), ((aa 12), .inl (ct 0, 30, .inl (mX g))), ((aa 13), .inl (ct 0, 30, .inl (mZ g)))] := hD
      refine lv_aload_n hx hb dX3_student_32 rfl (lv_at hl 0 rfl) ?_
      refine lv_dup hx hb dX3_student_33 rfl ?_
      refine va_get (D := D) (ci := 3) (v := .int (nI (gN g))) (C := RX3) (T := TX3) (N := 17) hx hb hts hin3 hown hE.1 hP 0 rfl rfl 1 (by decide) (hts (.fieldLink RX3 53 "HomekeysModel" "students" "I") (by decide +kernel)) (fun _ h9 => h9) rfl dX3_student_34 ?_
      refine lv_iconst (v := nI 1) hx hb dX3_student_37 (by decide) ?_
      refine hk_addN hx hb dX3_student_38 ?_
      refine va_put (D := D) (ci := 3) (v := .int (nI ((gN g) + 1))) (ty := .int) (C := RX3) (T := TX3) (N := 17) hx hb hts hin3 tyX3 tyX3_ok nmX3 hown hE.1 hP hD hS 0 rfl rfl 1 (by decide) (hts (.fieldLink RX3 53 "HomekeysModel" "students" "I") (by decide +kernel)) (fun _ h9 => h9) rfl (by decide +kernel) rfl rfl (Nat.le_of_ble_eq_true rfl) dX3_student_39 (fun H locs hP hD hS => ?_)
      have hP : va_P D vwCl [((aa 0), .inr (3, [.int (nI 0), .int (nI ((gN g) + 1)), .ref (aa 1), .ref (aa 2), .ref (aa 3), .ref (aa 4), .ref (aa 5), .ref (aa 6), .ref (aa 7), .ref (aa 8), .ref (aa 9), .int (nI (gd g)), .ref (aa 10), .int (nI (gc g)), .ref (aa 11), .ref (aa 12), .ref (aa 13)])), ((aa 1), .inl (ct 0, 60, .inl (mK g))), ((aa 2), .inl (ct 0, 60, .inl (mL g))), ((aa 3), .inl (ct 0, 5, .inl (mY g))), ((aa 4), .inl (ct 0, 60, .inl (mS g))), ((aa 5), .inl (ct 0, 720, .inl (mP g))), ((aa 6), .inl (ct 0, 5, .inl (mC g))), ((aa 7), .inl (ct 0, 5, .inl (upd (mLa g) (gN g) (-1)))), ((aa 8), .inl (ct 0, 5, .inl (mQ g))), ((aa 9), .inl (ct 0, 150, .inl (mT g))), ((aa 10), .inl (ct 0, 24, .inl (mD g))), ((aa 11), .inl (ct 0, 6, .inl (mW g))), ((aa 12), .inl (ct 0, 30, .inl (mX g))), ((aa 13), .inl (ct 0, 30, .inl (mZ g)))] H := hP
      have hD : va_D (hkA [(aa 0), (aa 1), (aa 2), (aa 3), (aa 4), (aa 5), (aa 6), (aa 7), (aa 8), (aa 9), (aa 10), (aa 11), (aa 12), (aa 13)]) [((aa 0), .inr (3, [.int (nI 0), .int (nI ((gN g) + 1)), .ref (aa 1), .ref (aa 2), .ref (aa 3), .ref (aa 4), .ref (aa 5), .ref (aa 6), .ref (aa 7), .ref (aa 8), .ref (aa 9), .int (nI (gd g)), .ref (aa 10), .int (nI (gc g)), .ref (aa 11), .ref (aa 12), .ref (aa 13)])), ((aa 1), .inl (ct 0, 60, .inl (mK g))), ((aa 2), .inl (ct 0, 60, .inl (mL g))), ((aa 3), .inl (ct 0, 5, .inl (mY g))), ((aa 4), .inl (ct 0, 60, .inl (mS g))), ((aa 5), .inl (ct 0, 720, .inl (mP g))), ((aa 6), .inl (ct 0, 5, .inl (mC g))), ((aa 7), .inl (ct 0, 5, .inl (upd (mLa g) (gN g) (-1)))), ((aa 8), .inl (ct 0, 5, .inl (mQ g))), ((aa 9), .inl (ct 0, 150, .inl (mT g))), ((aa 10), .inl (ct 0, 24, .inl (mD g))), ((aa 11), .inl (ct 0, 6, .inl (mW g))), ((aa 12), .inl (ct 0, 30, .inl (mX g))), ((aa 13), .inl (ct 0, 30, .inl (mZ g)))] := hD
      refine lv_aload_n hx hb dX3_student_42 rfl (lv_at hl 0 rfl) ?_
      refine va_get (D := D) (ci := 3) (v := .int (nI ((gN g) + 1))) (C := RX3) (T := TX3) (N := 17) hx hb hts hin3 hown hE.1 hP 0 rfl rfl 1 (by decide) (hts (.fieldLink RX3 53 "HomekeysModel" "students" "I") (by decide +kernel)) (fun _ h9 => h9) rfl dX3_student_43 ?_
      refine lv_iconst (v := nI 1) hx hb dX3_student_46 (by decide) ?_
      refine lv_isub hx hb dX3_student_47 ?_
      refine hk_top (y := nI (gN g)) (by rw [← nI_add]; exact Int32.add_sub_cancel _ _) ?_
      have hz : opStudent g = (0, nI (gN g), (gN g + 1, gS g, gd g, gD g, gc g, gC g)) := by rw [opStudent, if_neg h1]
      rw [hz]
      have hP9 : va_P D vwCl [((aa 0), .inr (3, [.int (nI 0), .int (nI ((gN g) + 1)), .ref (aa 1), .ref (aa 2), .ref (aa 3), .ref (aa 4), .ref (aa 5), .ref (aa 6), .ref (aa 7), .ref (aa 8), .ref (aa 9), .int (nI (gd g)), .ref (aa 10), .int (nI (gc g)), .ref (aa 11), .ref (aa 12), .ref (aa 13)])), ((aa 1), .inl (ct 0, 60, .inl (mK g))), ((aa 2), .inl (ct 0, 60, .inl (mL g))), ((aa 3), .inl (ct 0, 5, .inl (mY g))), ((aa 4), .inl (ct 0, 60, .inl (mS g))), ((aa 5), .inl (ct 0, 720, .inl (mP g))), ((aa 6), .inl (ct 0, 5, .inl (mC g))), ((aa 7), .inl (ct 0, 5, .inl (upd (mLa g) (gN g) (-1)))), ((aa 8), .inl (ct 0, 5, .inl (mQ g))), ((aa 9), .inl (ct 0, 150, .inl (mT g))), ((aa 10), .inl (ct 0, 24, .inl (mD g))), ((aa 11), .inl (ct 0, 6, .inl (mW g))), ((aa 12), .inl (ct 0, 30, .inl (mX g))), ((aa 13), .inl (ct 0, 30, .inl (mZ g)))] H := hP
      exact W.iret (v := nI (gN g)) hx hb hr (fun t ht hW => ⟨rfl, by rw [ht]; exact mdW_of (gN g + 1, gS g, gd g, gD g, gc g, gC g) hP9 rfl rfl rfl rfl rfl rfl rfl (mLa_new g (hNs _ (Nat.le_refl _))) rfl rfl rfl rfl rfl rfl rfl rfl, by rw [ht]; exact ⟨hS.1, hS.2.1⟩⟩) hS.2.2 dX3_student_48
    · exact absurd hr0 (by decide)
  · refine lv_iconst (v := nI 1) hx hb dX3_student_9 (by decide) ?_
    refine lv_goto (tgt := 14) hx hb dX3_student_10 (by decide) ?_
    refine hk_M (rest := []) (va_Run.run (va_runV (As := [.int (nI 1)]) (rest := []) ⟨hx, hb, hml, hown, hts⟩ (c_X3_refused l D ct sa aa g rf (nI 1)) (cwV 1 hts gX3_student_X3_refused rfl rfl rfl (by decide +kernel) ⟨Nat.le_of_ble_eq_true rfl, Nat.le_of_ble_eq_true rfl⟩) (hk_preV hE (va_recv hE.1 hP (ci := 3) (q0 := 0) rfl rfl) ⟨hP.sub (ws' := [((aa 0), .inr (3, [.int rf, .int (nI (gN g)), .ref (aa 1), .ref (aa 2), .ref (aa 3), .ref (aa 4), .ref (aa 5), .ref (aa 6), .ref (aa 7), .ref (aa 8), .ref (aa 9), .int (nI (gd g)), .ref (aa 10), .int (nI (gc g)), .ref (aa 11), .ref (aa 12), .ref (aa 13)]))]) [0] rfl, (hD.sub (ws' := [((aa 0), .inr (3, [.int rf, .int (nI (gN g)), .ref (aa 1), .ref (aa 2), .ref (aa 3), .ref (aa 4), .ref (aa 5), .ref (aa 6), .ref (aa 7), .ref (aa 8), .ref (aa 9), .int (nI (gd g)), .ref (aa 10), .int (nI (gc g)), .ref (aa 11), .ref (aa 12), .ref (aa 13)]))]) [0] (by decide) rfl).weaken (fun _ _ _ _ => trivial)⟩) rfl rfl hl.1 rfl (lv_room (Nat.le_of_ble_eq_true rfl)) dX3_student_14 ⟨Nat.zero_le _, Nat.zero_le _⟩)) hP hD hS [0] (wc := [((aa 0), .inr (3, [.int rf, .int (nI (gN g)), .ref (aa 1), .ref (aa 2), .ref (aa 3), .ref (aa 4), .ref (aa 5), .ref (aa 6), .ref (aa 7), .ref (aa 8), .ref (aa 9), .int (nI (gd g)), .ref (aa 10), .int (nI (gc g)), .ref (aa 11), .ref (aa 12), .ref (aa 13)]))]) rfl rfl rfl (fun H locs hP hD hS => ?_)
    have hP : va_P D vwCl [((aa 0), .inr (3, [.int (nI 1), .int (nI (gN g)), .ref (aa 1), .ref (aa 2), .ref (aa 3), .ref (aa 4), .ref (aa 5), .ref (aa 6), .ref (aa 7), .ref (aa 8), .ref (aa 9), .int (nI (gd g)), .ref (aa 10), .int (nI (gc g)), .ref (aa 11), .ref (aa 12), .ref (aa 13)])), ((aa 1), .inl (ct 0, 60, .inl (mK g))), ((aa 2), .inl (ct 0, 60, .inl (mL g))), ((aa 3), .inl (ct 0, 5, .inl (mY g))), ((aa 4), .inl (ct 0, 60, .inl (mS g))), ((aa 5), .inl (ct 0, 720, .inl (mP g))), ((aa 6), .inl (ct 0, 5, .inl (mC g))), ((aa 7), .inl (ct 0, 5, .inl (mLa g))), ((aa 8), .inl (ct 0, 5, .inl (mQ g))), ((aa 9), .inl (ct 0, 150, .inl (mT g))), ((aa 10), .inl (ct 0, 24, .inl (mD g))), ((aa 11), .inl (ct 0, 6, .inl (mW g))), ((aa 12), .inl (ct 0, 30, .inl (mX g))), ((aa 13), .inl (ct 0, 30, .inl (mZ g)))] H := hP
    have hD : va_D (hkA [(aa 0), (aa 1), (aa 2), (aa 3), (aa 4), (aa 5), (aa 6), (aa 7), (aa 8), (aa 9), (aa 10), (aa 11), (aa 12), (aa 13)]) [((aa 0), .inr (3, [.int (nI 1), .int (nI (gN g)), .ref (aa 1), .ref (aa 2), .ref (aa 3), .ref (aa 4), .ref (aa 5), .ref (aa 6), .ref (aa 7), .ref (aa 8), .ref (aa 9), .int (nI (gd g)), .ref (aa 10), .int (nI (gc g)), .ref (aa 11), .ref (aa 12), .ref (aa 13)])), ((aa 1), .inl (ct 0, 60, .inl (mK g))), ((aa 2), .inl (ct 0, 60, .inl (mL g))), ((aa 3), .inl (ct 0, 5, .inl (mY g))), ((aa 4), .inl (ct 0, 60, .inl (mS g))), ((aa 5), .inl (ct 0, 720, .inl (mP g))), ((aa 6), .inl (ct 0, 5, .inl (mC g))), ((aa 7), .inl (ct 0, 5, .inl (mLa g))), ((aa 8), .inl (ct 0, 5, .inl (mQ g))), ((aa 9), .inl (ct 0, 150, .inl (mT g))), ((aa 10), .inl (ct 0, 24, .inl (mD g))), ((aa 11), .inl (ct 0, 6, .inl (mW g))), ((aa 12), .inl (ct 0, 30, .inl (mX g))), ((aa 13), .inl (ct 0, 30, .inl (mZ g)))] := hD
    refine hk_top (y := nI 1) (by decide) ?_
    refine hk_eq0N (tgt := 22) hx hb (by omega) dX3_student_17 (by decide) (fun hr9 => ?_) (fun hr0 => ?_)
    · exact absurd hr9 (by decide)
    · refine lv_iconst (v := nI 0) hx hb dX3_student_20 (by decide) ?_
      have hz : opStudent g = (1, 0, g) := by rw [opStudent, if_pos h1]
      rw [hz]
      have hP9 : va_P D vwCl [((aa 0), .inr (3, [.int (nI 1), .int (nI (gN g)), .ref (aa 1), .ref (aa 2), .ref (aa 3), .ref (aa 4), .ref (aa 5), .ref (aa 6), .ref (aa 7), .ref (aa 8), .ref (aa 9), .int (nI (gd g)), .ref (aa 10), .int (nI (gc g)), .ref (aa 11), .ref (aa 12), .ref (aa 13)])), ((aa 1), .inl (ct 0, 60, .inl (mK g))), ((aa 2), .inl (ct 0, 60, .inl (mL g))), ((aa 3), .inl (ct 0, 5, .inl (mY g))), ((aa 4), .inl (ct 0, 60, .inl (mS g))), ((aa 5), .inl (ct 0, 720, .inl (mP g))), ((aa 6), .inl (ct 0, 5, .inl (mC g))), ((aa 7), .inl (ct 0, 5, .inl (mLa g))), ((aa 8), .inl (ct 0, 5, .inl (mQ g))), ((aa 9), .inl (ct 0, 150, .inl (mT g))), ((aa 10), .inl (ct 0, 24, .inl (mD g))), ((aa 11), .inl (ct 0, 6, .inl (mW g))), ((aa 12), .inl (ct 0, 30, .inl (mX g))), ((aa 13), .inl (ct 0, 30, .inl (mZ g)))] H := hP
      exact W.iret (v := nI 0) hx hb hr (fun t ht hW => ⟨rfl, by rw [ht]; exact hP9, by rw [ht]; exact ⟨hS.1, hS.2.1⟩⟩) hS.2.2 dX3_student_21

set_option maxHeartbeats 4000000 in
set_option maxRecDepth 100000 in
theorem c_X3_carry (l : Launch) (D : va_G) (ct : Nat → ClassId) (sa : Nat → Nat) (aa : Nat → Nat) (g : Sg) (rf : Int32) (x : Int32) (y : Int32) (hI : Inv g) : Met l yX3_carry wsX3_carry ({ frames := 2, cells := 0, slots := 0, locals := 43 }) (hkPc D ct sa [.ref (aa 0), .int x, .int y] (fun H => va_P D vwCl (mdW ct aa g rf) H ∧ va_D (fun _ => True) (mdW ct aa g rf))) (hkQ (some (.int (opCarry g x y).2.1)) D (mdW ct aa (opCarry g x y).2.2 (opCarry g x y).1) [(aa 0), (aa 1), (aa 2), (aa 3), (aa 4), (aa 5), (aa 6), (aa 7), (aa 8), (aa 9), (aa 10), (aa 11), (aa 12), (aa 13)]) 0 0 (hkA [(aa 0), (aa 1), (aa 2), (aa 3), (aa 4), (aa 5), (aa 6), (aa 7), (aa 8), (aa 9), (aa 10), (aa 11), (aa 12), (aa 13)]) := by
  refine Met.ofW (cc := cX3_carry) (maxL := 4) (ret := (some .int)) (by decide) rfl ?_
  intro p e s m args below meth c s₁ B hml hv
  obtain ⟨rfl, hE, hp⟩ := hv
  have hx := B.exec
  have hb := B.bytes
  have hr := B.returns
  have hts := atoms_spec (ws := wsX3_carry) B.pre
  have hown : s.vm.findClass RX3 = some m.cls := findClass_of_methodNamed B.named
  have hlocks := B.notSynchronized
  have hin3 : ∀ w ∈ wsX30, w ∈ wsX3_carry := by decide +kernel
  obtain ⟨hP, hD0⟩ := hp
  have hD : va_D (hkA [(aa 0), (aa 1), (aa 2), (aa 3), (aa 4), (aa 5), (aa 6), (aa 7), (aa 8), (aa 9), (aa 10), (aa 11), (aa 12), (aa 13)]) [((aa 0), .inr (3, [.int rf, .int (nI (gN g)), .ref (aa 1), .ref (aa 2), .ref (aa 3), .ref (aa 4), .ref (aa 5), .ref (aa 6), .ref (aa 7), .ref (aa 8), .ref (aa 9), .int (nI (gd g)), .ref (aa 10), .int (nI (gc g)), .ref (aa 11), .ref (aa 12), .ref (aa 13)])), ((aa 1), .inl (ct 0, 60, .inl (mK g))), ((aa 2), .inl (ct 0, 60, .inl (mL g))), ((aa 3), .inl (ct 0, 5, .inl (mY g))), ((aa 4), .inl (ct 0, 60, .inl (mS g))), ((aa 5), .inl (ct 0, 720, .inl (mP g))), ((aa 6), .inl (ct 0, 5, .inl (mC g))), ((aa 7), .inl (ct 0, 5, .inl (mLa g))), ((aa 8), .inl (ct 0, 5, .inl (mQ g))), ((aa 9), .inl (ct 0, 150, .inl (mT g))), ((aa 10), .inl (ct 0, 24, .inl (mD g))), ((aa 11), .inl (ct 0, 6, .inl (mW g))), ((aa 12), .inl (ct 0, 30, .inl (mX g))), ((aa 13), .inl (ct 0, 30, .inl (mZ g)))] := hD0.weaken (fun k q hk _ => hk_mem hk)
  have hS : va_S (hkA [(aa 0), (aa 1), (aa 2), (aa 3), (aa 4), (aa 5), (aa 6), (aa 7), (aa 8), (aa 9), (aa 10), (aa 11), (aa 12), (aa 13)]) s.heap s.heap [] := va_S.rf
  obtain ⟨hN5, hd24, hc6, hSt, hDr, hNs, hCs, hCo⟩ := id hI
  have hl := lv_entry ([.ref (aa 0), .int x, .int y]) (n := 4) (Nat.le_of_ble_eq_true rfl)
  rw [lg_entry_eq]
  generalize (lg_sl ([.ref (aa 0), .int x, .int y]) ++ List.replicate (4 - (lg_sl ([.ref (aa 0), .int x, .int y])).length) Slot.unset).toArray = ls at hl ⊢
  have hl : lv_has ls 4 [(0, .ref (aa 0)), (1, .int x), (2, .int y)] := hl
  refine lv_aload_n hx hb dX3_carry_0 rfl (lv_at hl 0 rfl) ?_
  refine lv_aload_n hx hb dX3_carry_1 rfl (lv_at hl 0 rfl) ?_
  refine lv_iload_n hx hb dX3_carry_2 rfl (lv_at hl 1 rfl) ?_
  refine hk_R (rest := [.ref (aa 0)]) (va_Run.run (va_runV (As := [.int x]) (rest := [.ref (aa 0)]) ⟨hx, hb, hml, hown, hts⟩ (c_X3_isStudent l D ct sa aa g rf x (by omega)) (cwV 1 hts gX3_carry_X3_isStudent rfl rfl rfl (by decide +kernel) ⟨Nat.le_of_ble_eq_true rfl, Nat.le_of_ble_eq_true rfl⟩) (hk_preV hE (va_recv hE.1 hP (ci := 3) (q0 := 0) rfl rfl) (hP.sub (ws' := [((aa 0), .inr (3, [.int rf, .int (nI (gN g)), .ref (aa 1), .ref (aa 2), .ref (aa 3), .ref (aa 4), .ref (aa 5), .ref (aa 6), .ref (aa 7), .ref (aa 8), .ref (aa 9), .int (nI (gd g)), .ref (aa 10), .int (nI (gc g)), .ref (aa 11), .ref (aa 12), .ref (aa 13)]))]) [0] rfl)) rfl rfl hl.1 rfl (lv_room (Nat.le_of_ble_eq_true rfl)) dX3_carry_3 ⟨Nat.zero_le _, Nat.zero_le _⟩)) ?_
  by_cases hbx : bd x (gN g)
  · refine hk_top (y := nI 0) (if_pos hbx) ?_
    refine hk_ne0N (tgt := 13) hx hb (by omega) dX3_carry_6 (by decide) (fun hk8 => ?_) (fun hk9 => ?_)
    · exact absurd hk8 (by decide)
    · refine lv_iconst (v := nI 1) hx hb dX3_carry_9 (by decide) ?_
      refine lv_goto (tgt := 27) hx hb dX3_carry_10 (by decide) ?_
      refine hk_M (rest := []) (va_Run.run (va_runV (As := [.int (nI 1)]) (rest := []) ⟨hx, hb, hml, hown, hts⟩ (c_X3_refused l D ct sa aa g rf (nI 1)) (cwV 1 hts gX3_carry_X3_refused rfl rfl rfl (by decide +kernel) ⟨Nat.le_of_ble_eq_true rfl, Nat.le_of_ble_eq_true rfl⟩) (hk_preV hE (va_recv hE.1 hP (ci := 3) (q0 := 0) rfl rfl) ⟨hP.sub (ws' := [((aa 0), .inr (3, [.int rf, .int (nI (gN g)), .ref (aa 1), .ref (aa 2), .ref (aa 3), .ref (aa 4), .ref (aa 5), .ref (aa 6), .ref (aa 7), .ref (aa 8), .ref (aa 9), .int (nI (gd g)), .ref (aa 10), .int (nI (gc g)), .ref (aa 11), .ref (aa 12), .ref (aa 13)]))]) [0] rfl, (hD.sub (ws' := [((aa 0), .inr (3, [.int rf, .int (nI (gN g)), .ref (aa 1), .ref (aa 2), .ref (aa 3), .ref (aa 4), .ref (aa 5), .ref (aa 6), .ref (aa 7), .ref (aa 8), .ref (aa 9), .int (nI (gd g)), .ref (aa 10), .int (nI (gc g)), .ref (aa 11), .ref (aa 12), .ref (aa 13)]))]) [0] (by decide) rfl).weaken (fun _ _ _ _ => trivial)⟩) rfl rfl hl.1 rfl (lv_room (Nat.le_of_ble_eq_true rfl)) dX3_carry_27 ⟨Nat.zero_le _, Nat.zero_le _⟩)) hP hD hS [0] (wc := [((aa 0), .inr (3, [.int rf, .int (nI (gN g)), .ref (aa 1), .ref (aa 2), .ref (aa 3), .ref (aa 4), .ref (aa 5), .ref (aa 6), .ref (aa 7), .ref (aa 8), .ref (aa 9), .int (nI (gd g)), .ref (aa 10), .int (nI (gc g)), .ref (aa 11), .ref (aa 12), .ref (aa 13)]))]) rfl rfl rfl (fun H locs hP hD hS => ?_)
      have hP : va_P D vwCl [((aa 0), .inr (3, [.int (nI 1), .int (nI (gN g)), .ref (aa 1), .ref (aa 2), .ref (aa 3), .ref (aa 4), .ref (aa 5), .ref (aa 6), .ref (aa 7), .ref (aa 8), .ref (aa 9), .int (nI (gd g)), .ref (aa 10), .int (nI (gc g)), .ref (aa 11), .ref (aa 12), .ref (aa 13)])), ((aa 1), .inl (ct 0, 60, .inl (mK g))), ((aa 2), .inl (ct 0, 60, .inl (mL g))), ((aa 3), .inl (ct 0, 5, .inl (mY g))), ((aa 4), .inl (ct 0, 60, .inl (mS g))), ((aa 5), .inl (ct 0, 720, .inl (mP g))), ((aa 6), .inl (ct 0, 5, .inl (mC g))), ((aa 7), .inl (ct 0, 5, .inl (mLa g))), ((aa 8), .inl (ct 0, 5, .inl (mQ g))), ((aa 9), .inl (ct 0, 150, .inl (mT g))), ((aa 10), .inl (ct 0, 24, .inl (mD g))), ((aa 11), .inl (ct 0, 6, .inl (mW g))), ((aa 12), .inl (ct 0, 30, .inl (mX g))), ((aa 13), .inl (ct 0, 30, .inl (mZ g)))] H := hP
      have hD : va_D (hkA [(aa 0), (aa 1), (aa 2), (aa 3), (aa 4), (aa 5), (aa 6), (aa 7), (aa 8), (aa 9), (aa 10), (aa 11), (aa 12), (aa 13)]) [((aa 0), .inr (3, [.int (nI 1), .int (nI (gN g)), .ref (aa 1), .ref (aa 2), .ref (aa 3), .ref (aa 4), .ref (aa 5), .ref (aa 6), .ref (aa 7), .ref (aa 8), .ref (aa 9), .int (nI (gd g)), .ref (aa 10), .int (nI (gc g)), .ref (aa 11), .ref (aa 12), .ref (aa 13)])), ((aa 1), .inl (ct 0, 60, .inl (mK g))), ((aa 2), .inl (ct 0, 60, .inl (mL g))), ((aa 3), .inl (ct 0, 5, .inl (mY g))), ((aa 4), .inl (ct 0, 60, .inl (mS g))), ((aa 5), .inl (ct 0, 720, .inl (mP g))), ((aa 6), .inl (ct 0, 5, .inl (mC g))), ((aa 7), .inl (ct 0, 5, .inl (mLa g))), ((aa 8), .inl (ct 0, 5, .inl (mQ g))), ((aa 9), .inl (ct 0, 150, .inl (mT g))), ((aa 10), .inl (ct 0, 24, .inl (mD g))), ((aa 11), .inl (ct 0, 6, .inl (mW g))), ((aa 12), .inl (ct 0, 30, .inl (mX g))), ((aa 13), .inl (ct 0, 30, .inl (mZ g)))] := hD
      refine hk_top (y := nI 1) (by decide) ?_
      refine hk_eq0N (tgt := 35) hx hb (by omega) dX3_carry_30 (by decide) (fun hr9 => ?_) (fun hr0 => ?_)
      · exact absurd hr9 (by decide)
      · refine lv_iconst (v := nI 0) hx hb dX3_carry_33 (by decide) ?_
        have hz : opCarry g x y = (1, 0, g) := by rw [opCarry, if_pos hbx]
        rw [hz]
        have hP9 : va_P D vwCl [((aa 0), .inr (3, [.int (nI 1), .int (nI (gN g)), .ref (aa 1), .ref (aa 2), .ref (aa 3), .ref (aa 4), .ref (aa 5), .ref (aa 6), .ref (aa 7), .ref (aa 8), .ref (aa 9), .int (nI (gd g)), .ref (aa 10), .int (nI (gc g)), .ref (aa 11), .ref (aa 12), .ref (aa 13)])), ((aa 1), .inl (ct 0, 60, .inl (mK g))), ((aa 2), .inl (ct 0, 60, .inl (mL g))), ((aa 3), .inl (ct 0, 5, .inl (mY g))), ((aa 4), .inl (ct 0, 60, .inl (mS g))), ((aa 5), .inl (ct 0, 720, .inl (mP g))), ((aa 6), .inl (ct 0, 5, .inl (mC g))), ((aa 7), .inl (ct 0, 5, .inl (mLa g))), ((aa 8), .inl (ct 0, 5, .inl (mQ g))), ((aa 9), .inl (ct 0, 150, .inl (mT g))), ((aa 10), .inl (ct 0, 24, .inl (mD g))), ((aa 11), .inl (ct 0, 6, .inl (mW g))), ((aa 12), .inl (ct 0, 30, .inl (mX g))), ((aa 13), .inl (ct 0, 30, .inl (mZ g)))] H := hP
        exact W.iret (v := nI 0) hx hb hr (fun t ht hW => ⟨rfl, by rw [ht]; exact hP9, by rw [ht]; exact ⟨hS.1, hS.2.1⟩⟩) hS.2.2 dX3_carry_34
  · refine hk_top (y := nI 1) (if_neg hbx) ?_
    refine hk_ne0N (tgt := 13) hx hb (by omega) dX3_carry_6 (by decide) (fun hk8 => ?_) (fun hk9 => ?_)
    · refine lv_iload_n hx hb dX3_carry_13 rfl (lv_at hl 2 rfl) ?_
      refine lv_iconst (v := nI 0) hx hb dX3_carry_14 (by decide) ?_
      refine lv_iconst (v := nI 1) hx hb dX3_carry_15 (by decide) ?_
      refine hk_R (rest := [.ref (aa 0)]) (va_Run.run (va_runS (As := [.int y, .int (nI 0), .int (nI 1)]) (rest := [.ref (aa 0)]) ⟨hx, hb, hml, hown, hts⟩ (c_X3_is l D ct sa y (nI 0) (nI 1)) (va_cwS 3 hts gX3_carry_X3_is rfl rfl rfl (by decide +kernel) ⟨Nat.le_of_ble_eq_true rfl, Nat.le_of_ble_eq_true rfl⟩) (hk_preS hE trivial) rfl rfl hl.1 rfl (lv_room (Nat.le_of_ble_eq_true rfl)) dX3_carry_16 ⟨Nat.zero_le _, Nat.zero_le _⟩)) ?_
      refine hk_top (y := nb y 2) (is_nbk y (by decide)) ?_
      by_cases hby : bd y 2
      · refine hk_top (y := nI 0) (if_pos hby) ?_
        refine hk_ne0N (tgt := 26) hx hb (by omega) dX3_carry_19 (by decide) (fun hk8 => ?_) (fun hk9 => ?_)
        · exact absurd hk8 (by decide)
        · refine lv_iconst (v := nI 2) hx hb dX3_carry_22 (by decide) ?_
          refine lv_goto (tgt := 27) hx hb dX3_carry_23 (by decide) ?_
          refine hk_M (rest := []) (va_Run.run (va_runV (As := [.int (nI 2)]) (rest := []) ⟨hx, hb, hml, hown, hts⟩ (c_X3_refused l D ct sa aa g rf (nI 2)) (cwV 1 hts gX3_carry_X3_refused rfl rfl rfl (by decide +kernel) ⟨Nat.le_of_ble_eq_true rfl, Nat.le_of_ble_eq_true rfl⟩) (hk_preV hE (va_recv hE.1 hP (ci := 3) (q0 := 0) rfl rfl) ⟨hP.sub (ws' := [((aa 0), .inr (3, [.int rf, .int (nI (gN g)), .ref (aa 1), .ref (aa 2), .ref (aa 3), .ref (aa 4), .ref (aa 5), .ref (aa 6), .ref (aa 7), .ref (aa 8), .ref (aa 9), .int (nI (gd g)), .ref (aa 10), .int (nI (gc g)), .ref (aa 11), .ref (aa 12), .ref (aa 13)]))]) [0] rfl, (hD.sub (ws' := [((aa 0), .inr (3, [.int rf, .int (nI (gN g)), .ref (aa 1), .ref (aa 2), .ref (aa 3), .ref (aa 4), .ref (aa 5), .ref (aa 6), .ref (aa 7), .ref (aa 8), .ref (aa 9), .int (nI (gd g)), .ref (aa 10), .int (nI (gc g)), .ref (aa 11), .ref (aa 12), .ref (aa 13)]))]) [0] (by decide) rfl).weaken (fun _ _ _ _ => trivial)⟩) rfl rfl hl.1 rfl (lv_room (Nat.le_of_ble_eq_true rfl)) dX3_carry_27 ⟨Nat.zero_le _, Nat.zero_le _⟩)) hP hD hS [0] (wc := [((aa 0), .inr (3, [.int rf, .int (nI (gN g)), .ref (aa 1), .ref (aa 2), .ref (aa 3), .ref (aa 4), .ref (aa 5), .ref (aa 6), .ref (aa 7), .ref (aa 8), .ref (aa 9), .int (nI (gd g)), .ref (aa 10), .int (nI (gc g)), .ref (aa 11), .ref (aa 12), .ref (aa 13)]))]) rfl rfl rfl (fun H locs hP hD hS => ?_)
          have hP : va_P D vwCl [((aa 0), .inr (3, [.int (nI 2), .int (nI (gN g)), .ref (aa 1), .ref (aa 2), .ref (aa 3), .ref (aa 4), .ref (aa 5), .ref (aa 6), .ref (aa 7), .ref (aa 8), .ref (aa 9), .int (nI (gd g)), .ref (aa 10), .int (nI (gc g)), .ref (aa 11), .ref (aa 12), .ref (aa 13)])), ((aa 1), .inl (ct 0, 60, .inl (mK g))), ((aa 2), .inl (ct 0, 60, .inl (mL g))), ((aa 3), .inl (ct 0, 5, .inl (mY g))), ((aa 4), .inl (ct 0, 60, .inl (mS g))), ((aa 5), .inl (ct 0, 720, .inl (mP g))), ((aa 6), .inl (ct 0, 5, .inl (mC g))), ((aa 7), .inl (ct 0, 5, .inl (mLa g))), ((aa 8), .inl (ct 0, 5, .inl (mQ g))), ((aa 9), .inl (ct 0, 150, .inl (mT g))), ((aa 10), .inl (ct 0, 24, .inl (mD g))), ((aa 11), .inl (ct 0, 6, .inl (mW g))), ((aa 12), .inl (ct 0, 30, .inl (mX g))), ((aa 13), .inl (ct 0, 30, .inl (mZ g)))] H := hP
          have hD : va_D (hkA [(aa 0), (aa 1), (aa 2), (aa 3), (aa 4), (aa 5), (aa 6), (aa 7), (aa 8), (aa 9), (aa 10), (aa 11), (aa 12), (aa 13)]) [((aa 0), .inr (3, [.int (nI 2), .int (nI (gN g)), .ref (aa 1), .ref (aa 2), .ref (aa 3), .ref (aa 4), .ref (aa 5), .ref (aa 6), .ref (aa 7), .ref (aa 8), .ref (aa 9), .int (nI (gd g)), .ref (aa 10), .int (nI (gc g)), .ref (aa 11), .ref (aa 12), .ref (aa 13)])), ((aa 1), .inl (ct 0, 60, .inl (mK g))), ((aa 2), .inl (ct 0, 60, .inl (mL g))), ((aa 3), .inl (ct 0, 5, .inl (mY g))), ((aa 4), .inl (ct 0, 60, .inl (mS g))), ((aa 5), .inl (ct 0, 720, .inl (mP g))), ((aa 6), .inl (ct 0, 5, .inl (mC g))), ((aa 7), .inl (ct 0, 5, .inl (mLa g))), ((aa 8), .inl (ct 0, 5, .inl (mQ g))), ((aa 9), .inl (ct 0, 150, .inl (mT g))), ((aa 10), .inl (ct 0, 24, .inl (mD g))), ((aa 11), .inl (ct 0, 6, .inl (mW g))), ((aa 12), .inl (ct 0, 30, .inl (mX g))), ((aa 13), .inl (ct 0, 30, .inl (mZ g)))] := hD
          refine hk_top (y := nI 1) (by decide) ?_
          refine hk_eq0N (tgt := 35) hx hb (by omega) dX3_carry_30 (by decide) (fun hr9 => ?_) (fun hr0 => ?_)
          · exact absurd hr9 (by decide)
          · refine lv_iconst (v := nI 0) hx hb dX3_carry_33 (by decide) ?_
            have hz : opCarry g x y = (2, 0, g) := by rw [opCarry, if_neg hbx, if_pos ⟨fun q => absurd hby (by rw [q]; exact bd_nI (j := 0) (by decide) (by decide)), fun q => absurd hby (by rw [q]; exact bd_nI (j := 1) (by decide) (by decide))⟩]
            rw [hz]
            have hP9 : va_P D vwCl [((aa 0), .inr (3, [.int (nI 2), .int (nI (gN g)), .ref (aa 1), .ref (aa 2), .ref (aa 3), .ref (aa 4), .ref (aa 5), .ref (aa 6), .ref (aa 7), .ref (aa 8), .ref (aa 9), .int (nI (gd g)), .ref (aa 10), .int (nI (gc g)), .ref (aa 11), .ref (aa 12), .ref (aa 13)])), ((aa 1), .inl (ct 0, 60, .inl (mK g))), ((aa 2), .inl (ct 0, 60, .inl (mL g))), ((aa 3), .inl (ct 0, 5, .inl (mY g))), ((aa 4), .inl (ct 0, 60, .inl (mS g))), ((aa 5), .inl (ct 0, 720, .inl (mP g))), ((aa 6), .inl (ct 0, 5, .inl (mC g))), ((aa 7), .inl (ct 0, 5, .inl (mLa g))), ((aa 8), .inl (ct 0, 5, .inl (mQ g))), ((aa 9), .inl (ct 0, 150, .inl (mT g))), ((aa 10), .inl (ct 0, 24, .inl (mD g))), ((aa 11), .inl (ct 0, 6, .inl (mW g))), ((aa 12), .inl (ct 0, 30, .inl (mX g))), ((aa 13), .inl (ct 0, 30, .inl (mZ g)))] H := hP
            exact W.iret (v := nI 0) hx hb hr (fun t ht hW => ⟨rfl, by rw [ht]; exact hP9, by rw [ht]; exact ⟨hS.1, hS.2.1⟩⟩) hS.2.2 dX3_carry_34
      · refine hk_top (y := nI 1) (if_neg hby) ?_
        refine hk_ne0N (tgt := 26) hx hb (by omega) dX3_carry_19 (by decide) (fun hk8 => ?_) (fun hk9 => ?_)
        · refine lv_iconst (v := nI 0) hx hb dX3_carry_26 (by decide) ?_
          refine hk_M (rest := []) (va_Run.run (va_runV (As := [.int (nI 0)]) (rest := []) ⟨hx, hb, hml, hown, hts⟩ (c_X3_refused l D ct sa aa g rf (nI 0)) (cwV 1 hts gX3_carry_X3_refused rfl rfl rfl (by decide +kernel) ⟨Nat.le_of_ble_eq_true rfl, Nat.le_of_ble_eq_true rfl⟩) (hk_preV hE (va_recv hE.1 hP (ci := 3) (q0 := 0) rfl rfl) ⟨hP.sub (ws' := [((aa 0), .inr (3, [.int rf, .int (nI (gN g)), .ref (aa 1), .ref (aa 2), .ref (aa 3), .ref (aa 4), .ref (aa 5), .ref (aa 6), .ref (aa 7), .ref (aa 8), .ref (aa 9), .int (nI (gd g)), .ref (aa 10), .int (nI (gc g)), .ref (aa 11), .ref (aa 12), .ref (aa 13)]))]) [0] rfl, (hD.sub (ws' := [((aa 0), .inr (3, [.int rf, .int (nI (gN g)), .ref (aa 1), .ref (aa 2), .ref (aa 3), .ref (aa 4), .ref (aa 5), .ref (aa 6), .ref (aa 7), .ref (aa 8), .ref (aa 9), .int (nI (gd g)), .ref (aa 10), .int (nI (gc g)), .ref (aa 11), .ref (aa 12), .ref (aa 13)]))]) [0] (by decide) rfl).weaken (fun _ _ _ _ => trivial)⟩) rfl rfl hl.1 rfl (lv_room (Nat.le_of_ble_eq_true rfl)) dX3_carry_27 ⟨Nat.zero_le _, Nat.zero_le _⟩)) hP hD hS [0] (wc := [((aa 0), .inr (3, [.int rf, .int (nI (gN g)), .ref (aa 1), .ref (aa 2), .ref (aa 3), .ref (aa 4), .ref (aa 5), .ref (aa 6), .ref (aa 7), .ref (aa 8), .ref (aa 9), .int (nI (gd g)), .ref (aa 10), .int (nI (gc g)), .ref (aa 11), .ref (aa 12), .ref (aa 13)]))]) rfl rfl rfl (fun H locs hP hD hS => ?_)
          have hP : va_P D vwCl [((aa 0), .inr (3, [.int (nI 0), .int (nI (gN g)), .ref (aa 1), .ref (aa 2), .ref (aa 3), .ref (aa 4), .ref (aa 5), .ref (aa 6), .ref (aa 7), .ref (aa 8), .ref (aa 9), .int (nI (gd g)), .ref (aa 10), .int (nI (gc g)), .ref (aa 11), .ref (aa 12), .ref (aa 13)])), ((aa 1), .inl (ct 0, 60, .inl (mK g))), ((aa 2), .inl (ct 0, 60, .inl (mL g))), ((aa 3), .inl (ct 0, 5, .inl (mY g))), ((aa 4), .inl (ct 0, 60, .inl (mS g))), ((aa 5), .inl (ct 0, 720, .inl (mP g))), ((aa 6), .inl (ct 0, 5, .inl (mC g))), ((aa 7), .inl (ct 0, 5, .inl (mLa g))), ((aa 8), .inl (ct 0, 5, .inl (mQ g))), ((aa 9), .inl (ct 0, 150, .inl (mT g))), ((aa 10), .inl (ct 0, 24, .inl (mD g))), ((aa 11), .inl (ct 0, 6, .inl (mW g))), ((aa 12), .inl (ct 0, 30, .inl (mX g))), ((aa 13), .inl (ct 0, 30, .inl (mZ g)))] H := hP
          have hD : va_D (hkA [(aa 0), (aa 1), (aa 2), (aa 3), (aa 4), (aa 5), (aa 6), (aa 7), (aa 8), (aa 9), (aa 10), (aa 11), (aa 12), (aa 13)]) [((aa 0), .inr (3, [.int (nI 0), .int (nI (gN g)), .ref (aa 1), .ref (aa 2), .ref (aa 3), .ref (aa 4), .ref (aa 5), .ref (aa 6), .ref (aa 7), .ref (aa 8), .ref (aa 9), .int (nI (gd g)), .ref (aa 10), .int (nI (gc g)), .ref (aa 11), .ref (aa 12), .ref (aa 13)])), ((aa 1), .inl (ct 0, 60, .inl (mK g))), ((aa 2), .inl (ct 0, 60, .inl (mL g))), ((aa 3), .inl (ct 0, 5, .inl (mY g))), ((aa 4), .inl (ct 0, 60, .inl (mS g))), ((aa 5), .inl (ct 0, 720, .inl (mP g))), ((aa 6), .inl (ct 0, 5, .inl (mC g))), ((aa 7), .inl (ct 0, 5, .inl (mLa g))), ((aa 8), .inl (ct 0, 5, .inl (mQ g))), ((aa 9), .inl (ct 0, 150, .inl (mT g))), ((aa 10), .inl (ct 0, 24, .inl (mD g))), ((aa 11), .inl (ct 0, 6, .inl (mW g))), ((aa 12), .inl (ct 0, 30, .inl (mX g))), ((aa 13), .inl (ct 0, 30, .inl (mZ g)))] := hD
          refine hk_top (y := nI 0) (by decide) ?_
          refine hk_eq0N (tgt := 35) hx hb (by omega) dX3_carry_30 (by decide) (fun hr9 => ?_) (fun hr0 => ?_)
          · obtain ⟨i, hi, rfl⟩ := bd_of (by omega) hbx
            have hic : (nI i).toNatClampNeg = i := nI_clamp (by omega)
            obtain ⟨j, hj, rfl⟩ := bd_of (by decide) hby
            have hjc : (nI j).toNatClampNeg = j := nI_clamp (by omega)
            have hny : ¬ (¬ nI j = 0 ∧ ¬ nI j = 1) := by
              rintro ⟨q1, q2⟩
              rcases (show j = 0 ∨ j = 1 by omega) with h | h
              · exact q1 (by rw [h]; rfl)
              · exact q2 (by rw [h]; rfl)
            refine lv_aload_n hx hb dX3_carry_35 rfl (lv_at hl 0 rfl) ?_
            refine va_get (D := D) (ci := 3) (v := .ref (aa 3)) (C := RX3) (T := TX3) (N := 17) hx hb hts hin3 hown hE.1 hP 0 rfl rfl 4 (by decide) (hts (.fieldLink RX3 16 "HomekeysModel" "way" "[I") (by decide +kernel)) (fun _ h9 => h9) rfl dX3_carry_36 ?_
            refine lv_iload_n hx hb dX3_carry_39 rfl (lv_at hl 1 rfl) ?_
            refine hk_iald hx hb hE hP 3 rfl (j := i) (by omega) (by omega) dX3_carry_40 ?_
            refine hk_top (y := sY (gS g i)) rfl ?_
            refine lv_istore_n (lv' := [(3, .int (sY (gS g i))), (0, .ref (aa 0)), (1, .int (nI i)), (2, .int (nI j))]) hx hb dX3_carry_41 rfl hl (by decide) rfl (fun ls hl => ?_)
            refine lv_aload_n hx hb dX3_carry_42 rfl (lv_at hl 1 rfl) ?_
            refine va_get (D := D) (ci := 3) (v := .ref (aa 3)) (C := RX3) (T := TX3) (N := 17) hx hb hts hin3 hown hE.1 hP 0 rfl rfl 4 (by decide) (hts (.fieldLink RX3 16 "HomekeysModel" "way" "[I") (by decide +kernel)) (fun _ h9 => h9) rfl dX3_carry_43 ?_
            refine lv_iload_n hx hb dX3_carry_46 rfl (lv_at hl 2 rfl) ?_
            refine lv_iload_n hx hb dX3_carry_47 rfl (lv_at hl 3 rfl) ?_
            refine hk_iast hx hb hE hP hD hS 3 rfl (j := i) (x := nI j) (by omega) (by omega) dX3_carry_48 (fun H locs hP hD hS => ?_)
            have hP : va_P D vwCl [((aa 0), .inr (3, [.int (nI 0), .int (nI (gN g)), .ref (aa 1), .ref (aa 2), .ref (aa 3), .ref (aa 4), .ref (aa 5), .ref (aa 6), .ref (aa 7), .ref (aa 8), .ref (aa 9), .int (nI (gd g)), .ref (aa 10), .int (nI (gc g)), .ref (aa 11), .ref (aa 12), .ref (aa 13)])), ((aa 1), .inl (ct 0, 60, .inl (mK g))), ((aa 2), .inl (ct 0, 60, .inl (mL g))), ((aa 3), .inl (ct 0, 5, .inl (upd (mY g) i (nI j)))), ((aa 4), .inl (ct 0, 60, .inl (mS g))), ((aa 5), .inl (ct 0, 720, .inl (mP g))), ((aa 6), .inl (ct 0, 5, .inl (mC g))), ((aa 7), .inl (ct 0, 5, .inl (mLa g))), ((aa 8), .inl (ct 0, 5, .inl (mQ g))), ((aa 9), .inl (ct 0, 150, .inl (mT g))), ((aa 10), .inl (ct 0, 24, .inl (mD g))), ((aa 11), .inl (ct 0, 6, .inl (mW g))), ((aa 12), .inl (ct 0, 30, .inl (mX g))), ((aa 13), .inl (ct 0, 30, .inl (mZ g)))] H := hP
            have hD : va_D (hkA [(aa 0), (aa 1), (aa 2), (aa 3), (aa 4), (aa 5), (aa 6), (aa 7), (aa 8), (aa 9), (aa 10), (aa 11), (aa 12), (aa 13)]) [((aa 0), .inr (3, [.int (nI 0), .int (nI (gN g)), .ref (aa 1), .ref (aa 2), .ref (aa 3), .ref (aa 4), .ref (aa 5), .ref (aa 6), .ref (aa 7), .ref (aa 8), .ref (aa 9), .int (nI (gd g)), .ref (aa 10), .int (nI (gc g)), .ref (aa 11), .ref (aa 12), .ref (aa 13)])), ((aa 1), .inl (ct 0, 60, .inl (mK g))), ((aa 2), .inl (ct 0, 60, .inl (mL g))), ((aa 3), .inl (ct 0, 5, .inl (upd (mY g) i (nI j)))), ((aa 4), .inl (ct 0, 60, .inl (mS g))), ((aa 5), .inl (ct 0, 720, .inl (mP g))), ((aa 6), .inl (ct 0, 5, .inl (mC g))), ((aa 7), .inl (ct 0, 5, .inl (mLa g))), ((aa 8), .inl (ct 0, 5, .inl (mQ g))), ((aa 9), .inl (ct 0, 150, .inl (mT g))), ((aa 10), .inl (ct 0, 24, .inl (mD g))), ((aa 11), .inl (ct 0, 6, .inl (mW g))), ((aa 12), .inl (ct 0, 30, .inl (mX g))), ((aa 13), .inl (ct 0, 30, .inl (mZ g)))] := hD
            refine lv_iload_n hx hb dX3_carry_49 rfl (lv_at hl 0 rfl) ?_
            have hz : opCarry g (nI i) (nI j) = (0, sY (gS g i), gU g i (wyU (gS g i) (nI j))) := by rw [opCarry, if_neg (bd_nI hi (by omega)), if_neg hny, ix, hic]
            rw [hz]
            have hP9 : va_P D vwCl [((aa 0), .inr (3, [.int (nI 0), .int (nI (gN g)), .ref (aa 1), .ref (aa 2), .ref (aa 3), .ref (aa 4), .ref (aa 5), .ref (aa 6), .ref (aa 7), .ref (aa 8), .ref (aa 9), .int (nI (gd g)), .ref (aa 10), .int (nI (gc g)), .ref (aa 11), .ref (aa 12), .ref (aa 13)])), ((aa 1), .inl (ct 0, 60, .inl (mK g))), ((aa 2), .inl (ct 0, 60, .inl (mL g))), ((aa 3), .inl (ct 0, 5, .inl (upd (mY g) i (nI j)))), ((aa 4), .inl (ct 0, 60, .inl (mS g))), ((aa 5), .inl (ct 0, 720, .inl (mP g))), ((aa 6), .inl (ct 0, 5, .inl (mC g))), ((aa 7), .inl (ct 0, 5, .inl (mLa g))), ((aa 8), .inl (ct 0, 5, .inl (mQ g))), ((aa 9), .inl (ct 0, 150, .inl (mT g))), ((aa 10), .inl (ct 0, 24, .inl (mD g))), ((aa 11), .inl (ct 0, 6, .inl (mW g))), ((aa 12), .inl (ct 0, 30, .inl (mX g))), ((aa 13), .inl (ct 0, 30, .inl (mZ g)))] H := hP
            exact W.iret (v := sY (gS g i)) hx hb hr (fun t ht hW => ⟨rfl, by rw [ht]; exact mdW_of (gU g i (wyU (gS g i) (nI j))) hP9 rfl (mK_keep g i _ rfl) (mL_keep g i _ rfl) (mY_gU g i _) (mS_keep g i _ rfl) (mP_keep g i _ rfl) (mC_keep g i _ rfl) (mLa_keep g i _ hi rfl) (mQ_keep g i _ rfl) (mT_keep g i _ rfl) rfl rfl rfl rfl rfl rfl, by rw [ht]; exact ⟨hS.1, hS.2.1⟩⟩) hS.2.2 dX3_carry_50
          · exact absurd hr0 (by decide)
        · exact absurd hk9 (by decide)
    · exact absurd hk9 (by decide)

set_option maxHeartbeats 4000000 in
set_option maxRecDepth 100000 in
theorem c_X3_draft (l : Launch) (D : va_G) (ct : Nat → ClassId) (sa : Nat → Nat) (aa : Nat → Nat) (g : Sg) (rf : Int32) (x : Int32) (hI : Inv g) : Met l yX3_draft wsX3_draft ({ frames := 2, cells := 0, slots := 0, locals := 42 }) (hkPc D ct sa [.ref (aa 0), .int x] (fun H => va_P D vwCl (mdW ct aa g rf) H ∧ va_D (fun _ => True) (mdW ct aa g rf))) (hkQ (some (.int (opDraft g x).2.1)) D (mdW ct aa (opDraft g x).2.2 (opDraft g x).1) [(aa 0), (aa 1), (aa 2), (aa 3), (aa 4), (aa 5), (aa 6), (aa 7), (aa 8), (aa 9), (aa 10), (aa 11), (aa 12), (aa 13)]) 0 0 (hkA [(aa 0), (aa 1), (aa 2), (aa 3), (aa 4), (aa 5), (aa 6), (aa 7), (aa 8), (aa 9), (aa 10), (aa 11), (aa 12), (aa 13)]) := by
  refine Met.ofW (cc := cX3_draft) (maxL := 2) (ret := (some .int)) (by decide) rfl ?_
  intro p e s m args below meth c s₁ B hml hv
  obtain ⟨rfl, hE, hp⟩ := hv
  have hx := B.exec
  have hb := B.bytes
  have hr := B.returns
  have hts := atoms_spec (ws := wsX3_draft) B.pre
  have hown : s.vm.findClass RX3 = some m.cls := findClass_of_methodNamed B.named
  have hlocks := B.notSynchronized
  have hin3 : ∀ w ∈ wsX30, w ∈ wsX3_draft := by decide +kernel
  obtain ⟨hP, hD0⟩ := hp
  have hD : va_D (hkA [(aa 0), (aa 1), (aa 2), (aa 3), (aa 4), (aa 5), (aa 6), (aa 7), (aa 8), (aa 9), (aa 10), (aa 11), (aa 12), (aa 13)]) [((aa 0), .inr (3, [.int rf, .int (nI (gN g)), .ref (aa 1), .ref (aa 2), .ref (aa 3), .ref (aa 4), .ref (aa 5), .ref (aa 6), .ref (aa 7), .ref (aa 8), .ref (aa 9), .int (nI (gd g)), .ref (aa 10), .int (nI (gc g)), .ref (aa 11), .ref (aa 12), .ref (aa 13)])), ((aa 1), .inl (ct 0, 60, .inl (mK g))), ((aa 2), .inl (ct 0, 60, .inl (mL g))), ((aa 3), .inl (ct 0, 5, .inl (mY g))), ((aa 4), .inl (ct 0, 60, .inl (mS g))), ((aa 5), .inl (ct 0, 720, .inl (mP g))), ((aa 6), .inl (ct 0, 5, .inl (mC g))), ((aa 7), .inl (ct 0, 5, .inl (mLa g))), ((aa 8), .inl (ct 0, 5, .inl (mQ g))), ((aa 9), .inl (ct 0, 150, .inl (mT g))), ((aa 10), .inl (ct 0, 24, .inl (mD g))), ((aa 11), .inl (ct 0, 6, .inl (mW g))), ((aa 12), .inl (ct 0, 30, .inl (mX g))), ((aa 13), .inl (ct 0, 30, .inl (mZ g)))] := hD0.weaken (fun k q hk _ => hk_mem hk)
  have hS : va_S (hkA [(aa 0), (aa 1), (aa 2), (aa 3), (aa 4), (aa 5), (aa 6), (aa 7), (aa 8), (aa 9), (aa 10), (aa 11), (aa 12), (aa 13)]) s.heap s.heap [] := va_S.rf
  obtain ⟨hN5, hd24, hc6, hSt, hDr, hNs, hCs, hCo⟩ := id hI
  have hl := lv_entry ([.ref (aa 0), .int x]) (n := 2) (Nat.le_of_ble_eq_true rfl)
  rw [lg_entry_eq]
  generalize (lg_sl ([.ref (aa 0), .int x]) ++ List.replicate (2 - (lg_sl ([.ref (aa 0), .int x])).length) Slot.unset).toArray = ls at hl ⊢
  have hl : lv_has ls 2 [(0, .ref (aa 0)), (1, .int x)] := hl
  refine lv_aload_n hx hb dX3_draft_0 rfl (lv_at hl 0 rfl) ?_
  refine lv_iload_n hx hb dX3_draft_1 rfl (lv_at hl 1 rfl) ?_
  refine hk_R (rest := [.ref (aa 0)]) (va_Run.run (va_runS (As := [.int x]) (rest := [.ref (aa 0)]) ⟨hx, hb, hml, hown, hts⟩ (c_X3_isKey l D ct sa x) (va_cwS 1 hts gX3_draft_X3_isKey rfl rfl rfl (by decide +kernel) ⟨Nat.le_of_ble_eq_true rfl, Nat.le_of_ble_eq_true rfl⟩) (hk_preS hE trivial) rfl rfl hl.1 rfl (lv_room (Nat.le_of_ble_eq_true rfl)) dX3_draft_2 ⟨Nat.zero_le _, Nat.zero_le _⟩)) ?_
  by_cases hbx : bd x 12
  · refine hk_top (y := nI 0) (if_pos hbx) ?_
    refine hk_ne0N (tgt := 12) hx hb (by omega) dX3_draft_5 (by decide) (fun hk8 => ?_) (fun hk9 => ?_)
    · exact absurd hk8 (by decide)
    · refine lv_iconst (v := nI 1) hx hb dX3_draft_8 (by decide) ?_
      refine lv_goto (tgt := 26) hx hb dX3_draft_9 (by decide) ?_
      refine hk_M (rest := []) (va_Run.run (va_runV (As := [.int (nI 1)]) (rest := []) ⟨hx, hb, hml, hown, hts⟩ (c_X3_refused l D ct sa aa g rf (nI 1)) (cwV 1 hts gX3_draft_X3_refused rfl rfl rfl (by decide +kernel) ⟨Nat.le_of_ble_eq_true rfl, Nat.le_of_ble_eq_true rfl⟩) (hk_preV hE (va_recv hE.1 hP (ci := 3) (q0 := 0) rfl rfl) ⟨hP.sub (ws' := [((aa 0), .inr (3, [.int rf, .int (nI (gN g)), .ref (aa 1), .ref (aa 2), .ref (aa 3), .ref (aa 4), .ref (aa 5), .ref (aa 6), .ref (aa 7), .ref (aa 8), .ref (aa 9), .int (nI (gd g)), .ref (aa 10), .int (nI (gc g)), .ref (aa 11), .ref (aa 12), .ref (aa 13)]))]) [0] rfl, (hD.sub (ws' := [((aa 0), .inr (3, [.int rf, .int (nI (gN g)), .ref (aa 1), .ref (aa 2), .ref (aa 3), .ref (aa 4), .ref (aa 5), .ref (aa 6), .ref (aa 7), .ref (aa 8), .ref (aa 9), .int (nI (gd g)), .ref (aa 10), .int (nI (gc g)), .ref (aa 11), .ref (aa 12), .ref (aa 13)]))]) [0] (by decide) rfl).weaken (fun _ _ _ _ => trivial)⟩) rfl rfl hl.1 rfl (lv_room (Nat.le_of_ble_eq_true rfl)) dX3_draft_26 ⟨Nat.zero_le _, Nat.zero_le _⟩)) hP hD hS [0] (wc := [((aa 0), .inr (3, [.int rf, .int (nI (gN g)), .ref (aa 1), .ref (aa 2), .ref (aa 3), .ref (aa 4), .ref (aa 5), .ref (aa 6), .ref (aa 7), .ref (aa 8), .ref (aa 9), .int (nI (gd g)), .ref (aa 10), .int (nI (gc g)), .ref (aa 11), .ref (aa 12), .ref (aa 13)]))]) rfl rfl rfl (fun H locs hP hD hS => ?_)
      have hP : va_P D vwCl [((aa 0), .inr (3, [.int (nI 1), .int (nI (gN g)), .ref (aa 1), .ref (aa 2), .ref (aa 3), .ref (aa 4), .ref (aa 5), .ref (aa 6), .ref (aa 7), .ref (aa 8), .ref (aa 9), .int (nI (gd g)), .ref (aa 10), .int (nI (gc g)), .ref (aa 11), .ref (aa 12), .ref (aa 13)])), ((aa 1), .inl (ct 0, 60, .inl (mK g))), ((aa 2), .inl (ct 0, 60, .inl (mL g))), ((aa 3), .inl (ct 0, 5, .inl (mY g))), ((aa 4), .inl (ct 0, 60, .inl (mS g))), ((aa 5), .inl (ct 0, 720, .inl (mP g))), ((aa 6), .inl (ct 0, 5, .inl (mC g))), ((aa 7), .inl (ct 0, 5, .inl (mLa g))), ((aa 8), .inl (ct 0, 5, .inl (mQ g))), ((aa 9), .inl (ct 0, 150, .inl (mT g))), ((aa 10), .inl (ct 0, 24, .inl (mD g))), ((aa 11), .inl (ct 0, 6, .inl (mW g))), ((aa 12), .inl (ct 0, 30, .inl (mX g))), ((aa 13), .inl (ct 0, 30, .inl (mZ g)))] H := hP
      have hD : va_D (hkA [(aa 0), (aa 1), (aa 2), (aa 3), (aa 4), (aa 5), (aa 6), (aa 7), (aa 8), (aa 9), (aa 10), (aa 11), (aa 12), (aa 13)]) [((aa 0), .inr (3, [.int (nI 1), .int (nI (gN g)), .ref (aa 1), .ref (aa 2), .ref (aa 3), .ref (aa 4), .ref (aa 5), .ref (aa 6), .ref (aa 7), .ref (aa 8), .ref (aa 9), .int (nI (gd g)), .ref (aa 10), .int (nI (gc g)), .ref (aa 11), .ref (aa 12), .ref (aa 13)])), ((aa 1), .inl (ct 0, 60, .inl (mK g))), ((aa 2), .inl (ct 0, 60, .inl (mL g))), ((aa 3), .inl (ct 0, 5, .inl (mY g))), ((aa 4), .inl (ct 0, 60, .inl (mS g))), ((aa 5), .inl (ct 0, 720, .inl (mP g))), ((aa 6), .inl (ct 0, 5, .inl (mC g))), ((aa 7), .inl (ct 0, 5, .inl (mLa g))), ((aa 8), .inl (ct 0, 5, .inl (mQ g))), ((aa 9), .inl (ct 0, 150, .inl (mT g))), ((aa 10), .inl (ct 0, 24, .inl (mD g))), ((aa 11), .inl (ct 0, 6, .inl (mW g))), ((aa 12), .inl (ct 0, 30, .inl (mX g))), ((aa 13), .inl (ct 0, 30, .inl (mZ g)))] := hD
      refine hk_top (y := nI 1) (by decide) ?_
      refine hk_eq0N (tgt := 34) hx hb (by omega) dX3_draft_29 (by decide) (fun hr9 => ?_) (fun hr0 => ?_)
      · exact absurd hr9 (by decide)
      · refine lv_iconst (v := nI 0) hx hb dX3_draft_32 (by decide) ?_
        have hz : opDraft g x = (1, 0, g) := by rw [opDraft, if_pos hbx]
        rw [hz]
        have hP9 : va_P D vwCl [((aa 0), .inr (3, [.int (nI 1), .int (nI (gN g)), .ref (aa 1), .ref (aa 2), .ref (aa 3), .ref (aa 4), .ref (aa 5), .ref (aa 6), .ref (aa 7), .ref (aa 8), .ref (aa 9), .int (nI (gd g)), .ref (aa 10), .int (nI (gc g)), .ref (aa 11), .ref (aa 12), .ref (aa 13)])), ((aa 1), .inl (ct 0, 60, .inl (mK g))), ((aa 2), .inl (ct 0, 60, .inl (mL g))), ((aa 3), .inl (ct 0, 5, .inl (mY g))), ((aa 4), .inl (ct 0, 60, .inl (mS g))), ((aa 5), .inl (ct 0, 720, .inl (mP g))), ((aa 6), .inl (ct 0, 5, .inl (mC g))), ((aa 7), .inl (ct 0, 5, .inl (mLa g))), ((aa 8), .inl (ct 0, 5, .inl (mQ g))), ((aa 9), .inl (ct 0, 150, .inl (mT g))), ((aa 10), .inl (ct 0, 24, .inl (mD g))), ((aa 11), .inl (ct 0, 6, .inl (mW g))), ((aa 12), .inl (ct 0, 30, .inl (mX g))), ((aa 13), .inl (ct 0, 30, .inl (mZ g)))] H := hP
        exact W.iret (v := nI 0) hx hb hr (fun t ht hW => ⟨rfl, by rw [ht]; exact hP9, by rw [ht]; exact ⟨hS.1, hS.2.1⟩⟩) hS.2.2 dX3_draft_33
  · refine hk_top (y := nI 1) (if_neg hbx) ?_
    refine hk_ne0N (tgt := 12) hx hb (by omega) dX3_draft_5 (by decide) (fun hk8 => ?_) (fun hk9 => ?_)
    · refine lv_aload_n hx hb dX3_draft_12 rfl (lv_at hl 0 rfl) ?_
      refine va_get (D := D) (ci := 3) (v := .int (nI (gd g))) (C := RX3) (T := TX3) (N := 17) hx hb hts hin3 hown hE.1 hP 0 rfl rfl 11 (by decide) (hts (.fieldLink RX3 92 "HomekeysModel" "drafted" "I") (by decide +kernel)) (fun _ h9 => h9) rfl dX3_draft_13 ?_
      refine lv_bipush (v := nI 24) hx hb dX3_draft_16 (by decide) ?_
      refine hk_neN (tgt := 25) hx hb (by omega) (by omega) dX3_draft_18 (by decide) (fun h1 => ?_) (fun h1 => ?_)
      · refine lv_iconst (v := nI 0) hx hb dX3_draft_25 (by decide) ?_
        refine hk_M (rest := []) (va_Run.run (va_runV (As := [.int (nI 0)]) (rest := []) ⟨hx, hb, hml, hown, hts⟩ (c_X3_refused l D ct sa aa g rf (nI 0)) (cwV 1 hts gX3_draft_X3_refused rfl rfl rfl (by decide +kernel) ⟨Nat.le_of_ble_eq_true rfl, Nat.le_of_ble_eq_true rfl⟩) (hk_preV hE (va_recv hE.1 hP (ci := 3) (q0 := 0) rfl rfl) ⟨hP.sub (ws' := [((aa 0), .inr (3, [.int rf, .int (nI (gN g)), .ref (aa 1), .ref (aa 2), .ref (aa 3), .ref (aa 4), .ref (aa 5), .ref (aa 6), .ref (aa 7), .ref (aa 8), .ref (aa 9), .int (nI (gd g)), .ref (aa 10), .int (nI (gc g)), .ref (aa 11), .ref (aa 12), .ref (aa 13)]))]) [0] rfl, (hD.sub (ws' := [((aa 0), .inr (3, [.int rf, .int (nI (gN g)), .ref (aa 1), .ref (aa 2), .ref (aa 3), .ref (aa 4), .ref (aa 5), .ref (aa 6), .ref (aa 7), .ref (aa 8), .ref (aa 9), .int (nI (gd g)), .ref (aa 10), .int (nI (gc g)), .ref (aa 11), .ref (aa 12), .ref (aa 13)]))]) [0] (by decide) rfl).weaken (fun _ _ _ _ => trivial)⟩) rfl rfl hl.1 rfl (lv_room (Nat.le_of_ble_eq_true rfl)) dX3_draft_26 ⟨Nat.zero_le _, Nat.zero_le _⟩)) hP hD hS [0] (wc := [((aa 0), .inr (3, [.int rf, .int (nI (gN g)), .ref (aa 1), .ref (aa 2), .ref (aa 3), .ref (aa 4), .ref (aa 5), .ref (aa 6), .ref (aa 7), .ref (aa 8), .ref (aa 9), .int (nI (gd g)), .ref (aa 10), .int (nI (gc g)), .ref (aa 11), .ref (aa 12), .ref (aa 13)]))]) rfl rfl rfl (fun H locs hP hD hS => ?_)
        have hP : va_P D vwCl [((aa 0), .inr (3, [.int (nI 0), .int (nI (gN g)), .ref (aa 1), .ref (aa 2), .ref (aa 3), .ref (aa 4), .ref (aa 5), .ref (aa 6), .ref (aa 7), .ref (aa 8), .ref (aa 9), .int (nI (gd g)), .ref (aa 10), .int (nI (gc g)), .ref (aa 11), .ref (aa 12), .ref (aa 13)])), ((aa 1), .inl (ct 0, 60, .inl (mK g))), ((aa 2), .inl (ct 0, 60, .inl (mL g))), ((aa 3), .inl (ct 0, 5, .inl (mY g))), ((aa 4), .inl (ct 0, 60, .inl (mS g))), ((aa 5), .inl (ct 0, 720, .inl (mP g))), ((aa 6), .inl (ct 0, 5, .inl (mC g))), ((aa 7), .inl (ct 0, 5, .inl (mLa g))), ((aa 8), .inl (ct 0, 5, .inl (mQ g))), ((aa 9), .inl (ct 0, 150, .inl (mT g))), ((aa 10), .inl (ct 0, 24, .inl (mD g))), ((aa 11), .inl (ct 0, 6, .inl (mW g))), ((aa 12), .inl (ct 0, 30, .inl (mX g))), ((aa 13), .inl (ct 0, 30, .inl (mZ g)))] H := hP
        have hD : va_D (hkA [(aa 0), (aa 1), (aa 2), (aa 3), (aa 4), (aa 5), (aa 6), (aa 7), (aa 8), (aa 9), (aa 10), (aa 11), (aa 12), (aa 13)]) [((aa 0), .inr (3, [.int (nI 0), .int (nI (gN g)), .ref (aa 1), .ref (aa 2), .ref (aa 3), .ref (aa 4), .ref (aa 5), .ref (aa 6), .ref (aa 7), .ref (aa 8), .ref (aa 9), .int (nI (gd g)), .ref (aa 10), .int (nI (gc g)), .ref (aa 11), .ref (aa 12), .ref (aa 13)])), ((aa 1), .inl (ct 0, 60, .inl (mK g))), ((aa 2), .inl (ct 0, 60, .inl (mL g))), ((aa 3), .inl (ct 0, 5, .inl (mY g))), ((aa 4), .inl (ct 0, 60, .inl (mS g))), ((aa 5), .inl (ct 0, 720, .inl (mP g))), ((aa 6), .inl (ct 0, 5, .inl (mC g))), ((aa 7), .inl (ct 0, 5, .inl (mLa g))), ((aa 8), .inl (ct 0, 5, .inl (mQ g))), ((aa 9), .inl (ct 0, 150, .inl (mT g))), ((aa 10), .inl (ct 0, 24, .inl (mD g))), ((aa 11), .inl (ct 0, 6, .inl (mW g))), ((aa 12), .inl (ct 0, 30, .inl (mX g))), ((aa 13), .inl (ct 0, 30, .inl (mZ g)))] := hD
        refine hk_top (y := nI 0) (by decide) ?_
        refine hk_eq0N (tgt := 34) hx hb (by omega) dX3_draft_29 (by decide) (fun hr9 => ?_) (fun hr0 => ?_)
        · obtain ⟨j, hj, rfl⟩ := bd_of (by decide) hbx
          have hjc : (nI j).toNatClampNeg = j := nI_clamp (by omega)
          refine lv_aload_n hx hb dX3_draft_34 rfl (lv_at hl 0 rfl) ?_
          refine va_get (D := D) (ci := 3) (v := .ref (aa 10)) (C := RX3) (T := TX3) (N := 17) hx hb hts hin3 hown hE.1 hP 0 rfl rfl 12 (by decide) (hts (.fieldLink RX3 37 "HomekeysModel" "draft" "[I") (by decide +kernel)) (fun _ h9 => h9) rfl dX3_draft_35 ?_
          refine lv_aload_n hx hb dX3_draft_38 rfl (lv_at hl 0 rfl) ?_
          refine va_get (D := D) (ci := 3) (v := .int (nI (gd g))) (C := RX3) (T := TX3) (N := 17) hx hb hts hin3 hown hE.1 hP 0 rfl rfl 11 (by decide) (hts (.fieldLink RX3 92 "HomekeysModel" "drafted" "I") (by decide +kernel)) (fun _ h9 => h9) rfl dX3_draft_39 ?_
          refine lv_iload_n hx hb dX3_draft_42 rfl (lv_at hl 1 rfl) ?_
          refine hk_iast hx hb hE hP hD hS 10 rfl (j := gd g) (x := nI j) (by omega) (by omega) dX3_draft_43 (fun H locs hP hD hS => ?_)
          have hP : va_P D vwCl [((aa 0), .inr (3, [.int (nI 0), .int (nI (gN g)), .ref (aa 1), .ref (aa 2), .ref (aa 3), .ref (aa 4), .ref (aa 5), .ref (aa 6), .ref (aa 7), .ref (aa 8), .ref (aa 9), .int (nI (gd g)), .ref (aa 10), .int (nI (gc g)), .ref (aa 11), .ref (aa 12), .ref (aa 13)])), ((aa 1), .inl (ct 0, 60, .inl (mK g))), ((aa 2), .inl (ct 0, 60, .inl (mL g))), ((aa 3), .inl (ct 0, 5, .inl (mY g))), ((aa 4), .inl (ct 0, 60, .inl (mS g))), ((aa 5), .inl (ct 0, 720, .inl (mP g))), ((aa 6), .inl (ct 0, 5, .inl (mC g))), ((aa 7), .inl (ct 0, 5, .inl (mLa g))), ((aa 8), .inl (ct 0, 5, .inl (mQ g))), ((aa 9), .inl (ct 0, 150, .inl (mT g))), ((aa 10), .inl (ct 0, 24, .inl (upd (mD g) (gd g) (nI j)))), ((aa 11), .inl (ct 0, 6, .inl (mW g))), ((aa 12), .inl (ct 0, 30, .inl (mX g))), ((aa 13), .inl (ct 0, 30, .inl (mZ g)))] H := hP
          have hD : va_D (hkA [(aa 0), (aa 1), (aa 2), (aa 3), (aa 4), (aa 5), (aa 6), (aa 7), (aa 8), (aa 9), (aa 10), (aa 11), (aa 12), (aa 13)]) [((aa 0), .inr (3, [.int (nI 0), .int (nI (gN g)), .ref (aa 1), .ref (aa 2), .ref (aa 3), .ref (aa 4), .ref (aa 5), .ref (aa 6), .ref (aa 7), .ref (aa 8), .ref (aa 9), .int (nI (gd g)), .ref (aa 10), .int (nI (gc g)), .ref (aa 11), .ref (aa 12), .ref (aa 13)])), ((aa 1), .inl (ct 0, 60, .inl (mK g))), ((aa 2), .inl (ct 0, 60, .inl (mL g))), ((aa 3), .inl (ct 0, 5, .inl (mY g))), ((aa 4), .inl (ct 0, 60, .inl (mS g))), ((aa 5), .inl (ct 0, 720, .inl (mP g))), ((aa 6), .inl (ct 0, 5, .inl (mC g))), ((aa 7), .inl (ct 0, 5, .inl (mLa g))), ((aa 8), .inl (ct 0, 5, .inl (mQ g))), ((aa 9), .inl (ct 0, 150, .inl (mT g))), ((aa 10), .inl (ct 0, 24, .inl (upd (mD g) (gd g) (nI j)))), ((aa 11), .inl (ct 0, 6, .inl (mW g))), ((aa 12), .inl (ct 0, 30, .inl (mX g))), ((aa 13), .inl (ct 0, 30, .inl (mZ g)))] := hD
          refine lv_aload_n hx hb dX3_draft_44 rfl (lv_at hl 0 rfl) ?_
          refine lv_dup hx hb dX3_draft_45 rfl ?_
          refine va_get (D := D) (ci := 3) (v := .int (nI (gd g))) (C := RX3) (T := TX3) (N := 17) hx hb hts hin3 hown hE.1 hP 0 rfl rfl 11 (by decide) (hts (.fieldLink RX3 92 "HomekeysModel" "drafted" "I") (by decide +kernel)) (fun _ h9 => h9) rfl dX3_draft_46 ?_
          refine lv_iconst (v := nI 1) hx hb dX3_draft_49 (by decide) ?_
          refine hk_addN hx hb dX3_draft_50 ?_
          refine va_put (D := D) (ci := 3) (v := .int (nI ((gd g) + 1))) (ty := .int) (C := RX3) (T := TX3) (N := 17) hx hb hts hin3 tyX3 tyX3_ok nmX3 hown hE.1 hP hD hS 0 rfl rfl 11 (by decide) (hts (.fieldLink RX3 92 "HomekeysModel" "drafted" "I") (by decide +kernel)) (fun _ h9 => h9) rfl (by decide +kernel) rfl rfl (Nat.le_of_ble_eq_true rfl) dX3_draft_51 (fun H locs hP hD hS => ?_)
          have hP : va_P D vwCl [((aa 0), .inr (3, [.int (nI 0), .int (nI (gN g)), .ref (aa 1), .ref (aa 2), .ref (aa 3), .ref (aa 4), .ref (aa 5), .ref (aa 6), .ref (aa 7), .ref (aa 8), .ref (aa 9), .int (nI ((gd g) + 1)), .ref (aa 10), .int (nI (gc g)), .ref (aa 11), .ref (aa 12), .ref (aa 13)])), ((aa 1), .inl (ct 0, 60, .inl (mK g))), ((aa 2), .inl (ct 0, 60, .inl (mL g))), ((aa 3), .inl (ct 0, 5, .inl (mY g))), ((aa 4), .inl (ct 0, 60, .inl (mS g))), ((aa 5), .inl (ct 0, 720, .inl (mP g))), ((aa 6), .inl (ct 0, 5, .inl (mC g))), ((aa 7), .inl (ct 0, 5, .inl (mLa g))), ((aa 8), .inl (ct 0, 5, .inl (mQ g))), ((aa 9), .inl (ct 0, 150, .inl (mT g))), ((aa 10), .inl (ct 0, 24, .inl (upd (mD g) (gd g) (nI j)))), ((aa 11), .inl (ct 0, 6, .inl (mW g))), ((aa 12), .inl (ct 0, 30, .inl (mX g))), ((aa 13), .inl (ct 0, 30, .inl (mZ g)))] H := hP
          have hD : va_D (hkA [(aa 0), (aa 1), (aa 2), (aa 3), (aa 4), (aa 5), (aa 6), (aa 7), (aa 8), (aa 9), (aa 10), (aa 11), (aa 12), (aa 13)]) [((aa 0), .inr (3, [.int (nI 0), .int (nI (gN g)), .ref (aa 1), .ref (aa 2), .ref (aa 3), .ref (aa 4), .ref (aa 5), .ref (aa 6), .ref (aa 7), .ref (aa 8), .ref (aa 9), .int (nI ((gd g) + 1)), .ref (aa 10), .int (nI (gc g)), .ref (aa 11), .ref (aa 12), .ref (aa 13)])), ((aa 1), .inl (ct 0, 60, .inl (mK g))), ((aa 2), .inl (ct 0, 60, .inl (mL g))), ((aa 3), .inl (ct 0, 5, .inl (mY g))), ((aa 4), .inl (ct 0, 60, .inl (mS g))), ((aa 5), .inl (ct 0, 720, .inl (mP g))), ((aa 6), .inl (ct 0, 5, .inl (mC g))), ((aa 7), .inl (ct 0, 5, .inl (mLa g))), ((aa 8), .inl (ct 0, 5, .inl (mQ g))), ((aa 9), .inl (ct 0, 150, .inl (mT g))), ((aa 10), .inl (ct 0, 24, .inl (upd (mD g) (gd g) (nI j)))), ((aa 11), .inl (ct 0, 6, .inl (mW g))), ((aa 12), .inl (ct 0, 30, .inl (mX g))), ((aa 13), .inl (ct 0, 30, .inl (mZ g)))] := hD
          refine lv_aload_n hx hb dX3_draft_54 rfl (lv_at hl 0 rfl) ?_
          refine va_get (D := D) (ci := 3) (v := .int (nI ((gd g) + 1))) (C := RX3) (T := TX3) (N := 17) hx hb hts hin3 hown hE.1 hP 0 rfl rfl 11 (by decide) (hts (.fieldLink RX3 92 "HomekeysModel" "drafted" "I") (by decide +kernel)) (fun _ h9 => h9) rfl dX3_draft_55 ?_
          have hz : opDraft g (nI j) = (0, nI ((gd g) + 1), (gN g, gS g, gd g + 1, va_up (gD g) (gd g) j, gc g, gC g)) := by rw [opDraft, if_neg (bd_nI hj (by decide)), if_neg h1, ix, hjc]
          rw [hz]
          have hP9 : va_P D vwCl [((aa 0), .inr (3, [.int (nI 0), .int (nI (gN g)), .ref (aa 1), .ref (aa 2), .ref (aa 3), .ref (aa 4), .ref (aa 5), .ref (aa 6), .ref (aa 7), .ref (aa 8), .ref (aa 9), .int (nI ((gd g) + 1)), .ref (aa 10), .int (nI (gc g)), .ref (aa 11), .ref (aa 12), .ref (aa 13)])), ((aa 1), .inl (ct 0, 60, .inl (mK g))), ((aa 2), .inl (ct 0, 60, .inl (mL g))), ((aa 3), .inl (ct 0, 5, .inl (mY g))), ((aa 4), .inl (ct 0, 60, .inl (mS g))), ((aa 5), .inl (ct 0, 720, .inl (mP g))), ((aa 6), .inl (ct 0, 5, .inl (mC g))), ((aa 7), .inl (ct 0, 5, .inl (mLa g))), ((aa 8), .inl (ct 0, 5, .inl (mQ g))), ((aa 9), .inl (ct 0, 150, .inl (mT g))), ((aa 10), .inl (ct 0, 24, .inl (upd (mD g) (gd g) (nI j)))), ((aa 11), .inl (ct 0, 6, .inl (mW g))), ((aa 12), .inl (ct 0, 30, .inl (mX g))), ((aa 13), .inl (ct 0, 30, .inl (mZ g)))] H := hP
          exact W.iret (v := nI ((gd g) + 1)) hx hb hr (fun t ht hW => ⟨rfl, by rw [ht]; exact mdW_of (gN g, gS g, gd g + 1, va_up (gD g) (gd g) j, gc g, gC g) hP9 rfl rfl rfl rfl rfl rfl rfl rfl rfl rfl rfl (mD_up g _ _ _) rfl rfl rfl rfl, by rw [ht]; exact ⟨hS.1, hS.2.1⟩⟩) hS.2.2 dX3_draft_58
        · exact absurd hr0 (by decide)
      · refine lv_iconst (v := nI 2) hx hb dX3_draft_21 (by decide) ?_
        refine lv_goto (tgt := 26) hx hb dX3_draft_22 (by decide) ?_
        refine hk_M (rest := []) (va_Run.run (va_runV (As := [.int (nI 2)]) (rest := []) ⟨hx, hb, hml, hown, hts⟩ (c_X3_refused l D ct sa aa g rf (nI 2)) (cwV 1 hts gX3_draft_X3_refused rfl rfl rfl (by decide +kernel) ⟨Nat.le_of_ble_eq_true rfl, Nat.le_of_ble_eq_true rfl⟩) (hk_preV hE (va_recv hE.1 hP (ci := 3) (q0 := 0) rfl rfl) ⟨hP.sub (ws' := [((aa 0), .inr (3, [.int rf, .int (nI (gN g)), .ref (aa 1), .ref (aa 2), .ref (aa 3), .ref (aa 4), .ref (aa 5), .ref (aa 6), .ref (aa 7), .ref (aa 8), .ref (aa 9), .int (nI (gd g)), .ref (aa 10), .int (nI (gc g)), .ref (aa 11), .ref (aa 12), .ref (aa 13)]))]) [0] rfl, (hD.sub (ws' := [((aa 0), .inr (3, [.int rf, .int (nI (gN g)), .ref (aa 1), .ref (aa 2), .ref (aa 3), .ref (aa 4), .ref (aa 5), .ref (aa 6), .ref (aa 7), .ref (aa 8), .ref (aa 9), .int (nI (gd g)), .ref (aa 10), .int (nI (gc g)), .ref (aa 11), .ref (aa 12), .ref (aa 13)]))]) [0] (by decide) rfl).weaken (fun _ _ _ _ => trivial)⟩) rfl rfl hl.1 rfl (lv_room (Nat.le_of_ble_eq_true rfl)) dX3_draft_26 ⟨Nat.zero_le _, Nat.zero_le _⟩)) hP hD hS [0] (wc := [((aa 0), .inr (3, [.int rf, .int (nI (gN g)), .ref (aa 1), .ref (aa 2), .ref (aa 3), .ref (aa 4), .ref (aa 5), .ref (aa 6), .ref (aa 7), .ref (aa 8), .ref (aa 9), .int (nI (gd g)), .ref (aa 10), .int (nI (gc g)), .ref (aa 11), .ref (aa 12), .ref (aa 13)]))]) rfl rfl rfl (fun H locs hP hD hS => ?_)
        have hP : va_P D vwCl [((aa 0), .inr (3, [.int (nI 2), .int (nI (gN g)), .ref (aa 1), .ref (aa 2), .ref (aa 3), .ref (aa 4), .ref (aa 5), .ref (aa 6), .ref (aa 7), .ref (aa 8), .ref (aa 9), .int (nI (gd g)), .ref (aa 10), .int (nI (gc g)), .ref (aa 11), .ref (aa 12), .ref (aa 13)])), ((aa 1), .inl (ct 0, 60, .inl (mK g))), ((aa 2), .inl (ct 0, 60, .inl (mL g))), ((aa 3), .inl (ct 0, 5, .inl (mY g))), ((aa 4), .inl (ct 0, 60, .inl (mS g))), ((aa 5), .inl (ct 0, 720, .inl (mP g))), ((aa 6), .inl (ct 0, 5, .inl (mC g))), ((aa 7), .inl (ct 0, 5, .inl (mLa g))), ((aa 8), .inl (ct 0, 5, .inl (mQ g))), ((aa 9), .inl (ct 0, 150, .inl (mT g))), ((aa 10), .inl (ct 0, 24, .inl (mD g))), ((aa 11), .inl (ct 0, 6, .inl (mW g))), ((aa 12), .inl (ct 0, 30, .inl (mX g))), ((aa 13), .inl (ct 0, 30, .inl (mZ g)))] H := hP
        have hD : va_D (hkA [(aa 0), (aa 1), (aa 2), (aa 3), (aa 4), (aa 5), (aa 6), (aa 7), (aa 8), (aa 9), (aa 10), (aa 11), (aa 12), (aa 13)]) [((aa 0), .inr (3, [.int (nI 2), .int (nI (gN g)), .ref (aa 1), .ref (aa 2), .ref (aa 3), .ref (aa 4), .ref (aa 5), .ref (aa 6), .ref (aa 7), .ref (aa 8), .ref (aa 9), .int (nI (gd g)), .ref (aa 10), .int (nI (gc g)), .ref (aa 11), .ref (aa 12), .ref (aa 13)])), ((aa 1), .inl (ct 0, 60, .inl (mK g))), ((aa 2), .inl (ct 0, 60, .inl (mL g))), ((aa 3), .inl (ct 0, 5, .inl (mY g))), ((aa 4), .inl (ct 0, 60, .inl (mS g))), ((aa 5), .inl (ct 0, 720, .inl (mP g))), ((aa 6), .inl (ct 0, 5, .inl (mC g))), ((aa 7), .inl (ct 0, 5, .inl (mLa g))), ((aa 8), .inl (ct 0, 5, .inl (mQ g))), ((aa 9), .inl (ct 0, 150, .inl (mT g))), ((aa 10), .inl (ct 0, 24, .inl (mD g))), ((aa 11), .inl (ct 0, 6, .inl (mW g))), ((aa 12), .inl (ct 0, 30, .inl (mX g))), ((aa 13), .inl (ct 0, 30, .inl (mZ g)))] := hD
        refine hk_top (y := nI 1) (by decide) ?_
        refine hk_eq0N (tgt := 34) hx hb (by omega) dX3_draft_29 (by decide) (fun hr9 => ?_) (fun hr0 => ?_)
        · exact absurd hr9 (by decide)
        · refine lv_iconst (v := nI 0) hx hb dX3_draft_32 (by decide) ?_
          have hz : opDraft g x = (2, 0, g) := by rw [opDraft, if_neg hbx, if_pos h1]
          rw [hz]
          have hP9 : va_P D vwCl [((aa 0), .inr (3, [.int (nI 2), .int (nI (gN g)), .ref (aa 1), .ref (aa 2), .ref (aa 3), .ref (aa 4), .ref (aa 5), .ref (aa 6), .ref (aa 7), .ref (aa 8), .ref (aa 9), .int (nI (gd g)), .ref (aa 10), .int (nI (gc g)), .ref (aa 11), .ref (aa 12), .ref (aa 13)])), ((aa 1), .inl (ct 0, 60, .inl (mK g))), ((aa 2), .inl (ct 0, 60, .inl (mL g))), ((aa 3), .inl (ct 0, 5, .inl (mY g))), ((aa 4), .inl (ct 0, 60, .inl (mS g))), ((aa 5), .inl (ct 0, 720, .inl (mP g))), ((aa 6), .inl (ct 0, 5, .inl (mC g))), ((aa 7), .inl (ct 0, 5, .inl (mLa g))), ((aa 8), .inl (ct 0, 5, .inl (mQ g))), ((aa 9), .inl (ct 0, 150, .inl (mT g))), ((aa 10), .inl (ct 0, 24, .inl (mD g))), ((aa 11), .inl (ct 0, 6, .inl (mW g))), ((aa 12), .inl (ct 0, 30, .inl (mX g))), ((aa 13), .inl (ct 0, 30, .inl (mZ g)))] H := hP
          exact W.iret (v := nI 0) hx hb hr (fun t ht hW => ⟨rfl, by rw [ht]; exact hP9, by rw [ht]; exact ⟨hS.1, hS.2.1⟩⟩) hS.2.2 dX3_draft_33
    · exact absurd hk9 (by decide)

set_option maxHeartbeats 4000000 in
set_option maxRecDepth 100000 in
theorem c_X3_clear (l : Launch) (D : va_G) (ct : Nat → ClassId) (sa : Nat → Nat) (aa : Nat → Nat) (g : Sg) (rf : Int32)  (hI : Inv g) : Met l yX3_clear wsX3_clear ({ frames := 0, cells := 0, slots := 0, locals := 0 }) (hkPc D ct sa [.ref (aa 0)] (fun H => va_P D vwCl (mdW ct aa g rf) H ∧ va_D (fun _ => True) (mdW ct aa g rf))) (hkQ (some (.int (opClear g).2.1)) D (mdW ct aa (opClear g).2.2 (opClear g).1) [(aa 0), (aa 1), (aa 2), (aa 3), (aa 4), (aa 5), (aa 6), (aa 7), (aa 8), (aa 9), (aa 10), (aa 11), (aa 12), (aa 13)]) 0 0 (hkA [(aa 0), (aa 1), (aa 2), (aa 3), (aa 4), (aa 5), (aa 6), (aa 7), (aa 8), (aa 9), (aa 10), (aa 11), (aa 12), (aa 13)]) := by
  refine Met.ofW (cc := cX3_clear) (maxL := 2) (ret := (some .int)) (by decide) rfl ?_
  intro p e s m args below meth c s₁ B hml hv
  obtain ⟨rfl, hE, hp⟩ := hv
  have hx := B.exec
  have hb := B.bytes
  have hr := B.returns
  have hts := atoms_spec (ws := wsX3_clear) B.pre
  have hown : s.vm.findClass RX3 = some m.cls := findClass_of_methodNamed B.named
  have hlocks := B.notSynchronized
  have hin3 : ∀ w ∈ wsX30, w ∈ wsX3_clear := by decide +kernel
  obtain ⟨hP, hD0⟩ := hp
  have hD : va_D (hkA [(aa 0), (aa 1), (aa 2), (aa 3), (aa 4), (aa 5), (aa 6), (aa 7), (aa 8), (aa 9), (aa 10), (aa 11), (aa 12), (aa 13)]) [((aa 0), .inr (3, [.int rf, .int (nI (gN g)), .ref (aa 1), .ref (aa 2), .ref (aa 3), .ref (aa 4), .ref (aa 5), .ref (aa 6), .ref (aa 7), .ref (aa 8), .ref (aa 9), .int (nI (gd g)), .ref (aa 10), .int (nI (gc g)), .ref (aa 11), .ref (aa 12), .ref (aa 13)])), ((aa 1), .inl (ct 0, 60, .inl (mK g))), ((aa 2), .inl (ct 0, 60, .inl (mL g))), ((aa 3), .inl (ct 0, 5, .inl (mY g))), ((aa 4), .inl (ct 0, 60, .inl (mS g))), ((aa 5), .inl (ct 0, 720, .inl (mP g))), ((aa 6), .inl (ct 0, 5, .inl (mC g))), ((aa 7), .inl (ct 0, 5, .inl (mLa g))), ((aa 8), .inl (ct 0, 5, .inl (mQ g))), ((aa 9), .inl (ct 0, 150, .inl (mT g))), ((aa 10), .inl (ct 0, 24, .inl (mD g))), ((aa 11), .inl (ct 0, 6, .inl (mW g))), ((aa 12), .inl (ct 0, 30, .inl (mX g))), ((aa 13), .inl (ct 0, 30, .inl (mZ g)))] := hD0.weaken (fun k q hk _ => hk_mem hk)
  have hS : va_S (hkA [(aa 0), (aa 1), (aa 2), (aa 3), (aa 4), (aa 5), (aa 6), (aa 7), (aa 8), (aa 9), (aa 10), (aa 11), (aa 12), (aa 13)]) s.heap s.heap [] := va_S.rf
  obtain ⟨hN5, hd24, hc6, hSt, hDr, hNs, hCs, hCo⟩ := id hI
  have hl := lv_entry ([.ref (aa 0)]) (n := 2) (Nat.le_of_ble_eq_true rfl)
  rw [lg_entry_eq]
  generalize (lg_sl ([.ref (aa 0)]) ++ List.replicate (2 - (lg_sl ([.ref (aa 0)])).length) Slot.unset).toArray = ls at hl ⊢
  have hl : lv_has ls 2 [(0, .ref (aa 0))] := hl
  refine lv_aload_n hx hb dX3_clear_0 rfl (lv_at hl 0 rfl) ?_
  refine lv_iconst (v := nI 0) hx hb dX3_clear_1 (by decide) ?_
  refine va_put (D := D) (ci := 3) (v := .int (nI 0)) (ty := .int) (C := RX3) (T := TX3) (N := 17) hx hb hts hin3 tyX3 tyX3_ok nmX3 hown hE.1 hP hD hS 0 rfl rfl 0 (by decide) (hts (.fieldLink RX3 49 "HomekeysModel" "refusal" "I") (by decide +kernel)) (fun _ h9 => h9) rfl (by decide +kernel) rfl rfl (Nat.le_of_ble_eq_true rfl) dX3_clear_2 (fun H locs hP hD hS => ?_)
  have hP : va_P D vwCl [((aa 0), .inr (3, [.int (nI 0), .int (nI (gN g)), .ref (aa 1), .ref (aa 2), .ref (aa 3), .ref (aa 4), .ref (aa 5), .ref (aa 6), .ref (aa 7), .ref (aa 8), .ref (aa 9), .int (nI (gd g)), .ref (aa 10), .int (nI (gc g)), .ref (aa 11), .ref (aa 12), .ref (aa 13)])), ((aa 1), .inl (ct 0, 60, .inl (mK g))), ((aa 2), .inl (ct 0, 60, .inl (mL g))), ((aa 3), .inl (ct 0, 5, .inl (mY g))), ((aa 4), .inl (ct 0, 60, .inl (mS g))), ((aa 5), .inl (ct 0, 720, .inl (mP g))), ((aa 6), .inl (ct 0, 5, .inl (mC g))), ((aa 7), .inl (ct 0, 5, .inl (mLa g))), ((aa 8), .inl (ct 0, 5, .inl (mQ g))), ((aa 9), .inl (ct 0, 150, .inl (mT g))), ((aa 10), .inl (ct 0, 24, .inl (mD g))), ((aa 11), .inl (ct 0, 6, .inl (mW g))), ((aa 12), .inl (ct 0, 30, .inl (mX g))), ((aa 13), .inl (ct 0, 30, .inl (mZ g)))] H := hP
  have hD : va_D (hkA [(aa 0), (aa 1), (aa 2), (aa 3), (aa 4), (aa 5), (aa 6), (aa 7), (aa 8), (aa 9), (aa 10), (aa 11), (aa 12), (aa 13)]) [((aa 0), .inr (3, [.int (nI 0), .int (nI (gN g)), .ref (aa 1), .ref (aa 2), .ref (aa 3), .ref (aa 4), .ref (aa 5), .ref (aa 6), .ref (aa 7), .ref (aa 8), .ref (aa 9), .int (nI (gd g)), .ref (aa 10), .int (nI (gc g)), .ref (aa 11), .ref (aa 12), .ref (aa 13)])), ((aa 1), .inl (ct 0, 60, .inl (mK g))), ((aa 2), .inl (ct 0, 60, .inl (mL g))), ((aa 3), .inl (ct 0, 5, .inl (mY g))), ((aa 4), .inl (ct 0, 60, .inl (mS g))), ((aa 5), .inl (ct 0, 720, .inl (mP g))), ((aa 6), .inl (ct 0, 5, .inl (mC g))), ((aa 7), .inl (ct 0, 5, .inl (mLa g))), ((aa 8), .inl (ct 0, 5, .inl (mQ g))), ((aa 9), .inl (ct 0, 150, .inl (mT g))), ((aa 10), .inl (ct 0, 24, .inl (mD g))), ((aa 11), .inl (ct 0, 6, .inl (mW g))), ((aa 12), .inl (ct 0, 30, .inl (mX g))), ((aa 13), .inl (ct 0, 30, .inl (mZ g)))] := hD
  refine lv_aload_n hx hb dX3_clear_5 rfl (lv_at hl 0 rfl) ?_
  refine va_get (D := D) (ci := 3) (v := .int (nI (gd g))) (C := RX3) (T := TX3) (N := 17) hx hb hts hin3 hown hE.1 hP 0 rfl rfl 11 (by decide) (hts (.fieldLink RX3 92 "HomekeysModel" "drafted" "I") (by decide +kernel)) (fun _ h9 => h9) rfl dX3_clear_6 ?_
  refine lv_istore_n (lv' := [(1, .int (nI (gd g))), (0, .ref (aa 0))]) hx hb dX3_clear_9 rfl hl (by decide) rfl (fun ls hl => ?_)
  refine lv_aload_n hx hb dX3_clear_10 rfl (lv_at hl 1 rfl) ?_
  refine lv_iconst (v := nI 0) hx hb dX3_clear_11 (by decide) ?_
  refine va_put (D := D) (ci := 3) (v := .int (nI 0)) (ty := .int) (C := RX3) (T := TX3) (N := 17) hx hb hts hin3 tyX3 tyX3_ok nmX3 hown hE.1 hP hD hS 0 rfl rfl 11 (by decide) (hts (.fieldLink RX3 92 "HomekeysModel" "drafted" "I") (by decide +kernel)) (fun _ h9 => h9) rfl (by decide +kernel) rfl rfl (Nat.le_of_ble_eq_true rfl) dX3_clear_12 (fun H locs hP hD hS => ?_)
  have hP : va_P D vwCl [((aa 0), .inr (3, [.int (nI 0), .int (nI (gN g)), .ref (aa 1), .ref (aa 2), .ref (aa 3), .ref (aa 4), .ref (aa 5), .ref (aa 6), .ref (aa 7), .ref (aa 8), .ref (aa 9), .int (nI 0), .ref (aa 10), .int (nI (gc g)), .ref (aa 11), .ref (aa 12), .ref (aa 13)])), ((aa 1), .inl (ct 0, 60, .inl (mK g))), ((aa 2), .inl (ct 0, 60, .inl (mL g))), ((aa 3), .inl (ct 0, 5, .inl (mY g))), ((aa 4), .inl (ct 0, 60, .inl (mS g))), ((aa 5), .inl (ct 0, 720, .inl (mP g))), ((aa 6), .inl (ct 0, 5, .inl (mC g))), ((aa 7), .inl (ct 0, 5, .inl (mLa g))), ((aa 8), .inl (ct 0, 5, .inl (mQ g))), ((aa 9), .inl (ct 0, 150, .inl (mT g))), ((aa 10), .inl (ct 0, 24, .inl (mD g))), ((aa 11), .inl (ct 0, 6, .inl (mW g))), ((aa 12), .inl (ct 0, 30, .inl (mX g))), ((aa 13), .inl (ct 0, 30, .inl (mZ g)))] H := hP
  have hD : va_D (hkA [(aa 0), (aa 1), (aa 2), (aa 3), (aa 4), (aa 5), (aa 6), (aa 7), (aa 8), (aa 9), (aa 10), (aa 11), (aa 12), (aa 13)]) [((aa 0), .inr (3, [.int (nI 0), .int (nI (gN g)), .ref (aa 1), .ref (aa 2), .ref (aa 3), .ref (aa 4), .ref (aa 5), .ref (aa 6), .ref (aa 7), .ref (aa 8), .ref (aa 9), .int (nI 0), .ref (aa 10), .int (nI (gc g)), .ref (aa 11), .ref (aa 12), .ref (aa 13)])), ((aa 1), .inl (ct 0, 60, .inl (mK g))), ((aa 2), .inl (ct 0, 60, .inl (mL g))), ((aa 3), .inl (ct 0, 5, .inl (mY g))), ((aa 4), .inl (ct 0, 60, .inl (mS g))), ((aa 5), .inl (ct 0, 720, .inl (mP g))), ((aa 6), .inl (ct 0, 5, .inl (mC g))), ((aa 7), .inl (ct 0, 5, .inl (mLa g))), ((aa 8), .inl (ct 0, 5, .inl (mQ g))), ((aa 9), .inl (ct 0, 150, .inl (mT g))), ((aa 10), .inl (ct 0, 24, .inl (mD g))), ((aa 11), .inl (ct 0, 6, .inl (mW g))), ((aa 12), .inl (ct 0, 30, .inl (mX g))), ((aa 13), .inl (ct 0, 30, .inl (mZ g)))] := hD
  refine lv_iload_n hx hb dX3_clear_15 rfl (lv_at hl 0 rfl) ?_
  have hz : opClear g = (0, nI (gd g), (gN g, gS g, 0, gD g, gc g, gC g)) := rfl
  rw [hz]
  have hP9 : va_P D vwCl [((aa 0), .inr (3, [.int (nI 0), .int (nI (gN g)), .ref (aa 1), .ref (aa 2), .ref (aa 3), .ref (aa 4), .ref (aa 5), .ref (aa 6), .ref (aa 7), .ref (aa 8), .ref (aa 9), .int (nI 0), .ref (aa 10), .int (nI (gc g)), .ref (aa 11), .ref (aa 12), .ref (aa 13)])), ((aa 1), .inl (ct 0, 60, .inl (mK g))), ((aa 2), .inl (ct 0, 60, .inl (mL g))), ((aa 3), .inl (ct 0, 5, .inl (mY g))), ((aa 4), .inl (ct 0, 60, .inl (mS g))), ((aa 5), .inl (ct 0, 720, .inl (mP g))), ((aa 6), .inl (ct 0, 5, .inl (mC g))), ((aa 7), .inl (ct 0, 5, .inl (mLa g))), ((aa 8), .inl (ct 0, 5, .inl (mQ g))), ((aa 9), .inl (ct 0, 150, .inl (mT g))), ((aa 10), .inl (ct 0, 24, .inl (mD g))), ((aa 11), .inl (ct 0, 6, .inl (mW g))), ((aa 12), .inl (ct 0, 30, .inl (mX g))), ((aa 13), .inl (ct 0, 30, .inl (mZ g)))] H := hP
  exact W.iret (v := nI (gd g)) hx hb hr (fun t ht hW => ⟨rfl, by rw [ht]; exact mdW_of (gN g, gS g, 0, gD g, gc g, gC g) hP9 rfl rfl rfl rfl rfl rfl rfl rfl rfl rfl rfl rfl rfl rfl rfl rfl, by rw [ht]; exact ⟨hS.1, hS.2.1⟩⟩) hS.2.2 dX3_clear_16

set_option maxHeartbeats 4000000 in
set_option maxRecDepth 100000 in
theorem c_X3_isIn (l : Launch) (D : va_G) (ct : Nat → ClassId) (sa : Nat → Nat) (aa : Nat → Nat) (g : Sg) (rf : Int32) (x y : Int32) (hI : Inv g) : Met l yX3_isIn wsX3_isIn ({ frames := 1, cells := 0, slots := 0, locals := 22 }) (hkPc D ct sa [.ref (aa 0), .int x, .int y] (fun H => va_P D vwCl (mdW ct aa g rf) H)) (QcRead (hkIn g x y)) 0 0 (fun _ => False) := by
  refine Met.ofW (cc := cX3_isIn) (maxL := 3) (ret := (some .boolean)) (by decide) rfl ?_
  intro p e s m args below meth c s₁ B hml hv
  obtain ⟨rfl, hE, hP⟩ := hv
  have hx := B.exec
  have hb := B.bytes
  have hr := B.returns
  have hts := atoms_spec (ws := wsX3_isIn) B.pre
  have hown : s.vm.findClass RX3 = some m.cls := findClass_of_methodNamed B.named
  have hlocks := B.notSynchronized
  have hin3 : ∀ w ∈ wsX30, w ∈ wsX3_isIn := by decide +kernel
  obtain ⟨hN5, hd24, hc6, hSt, hDr, hNs, hCs, hCo⟩ := id hI
  have hl := lv_entry ([.ref (aa 0), .int x, .int y]) (n := 3) (Nat.le_of_ble_eq_true rfl)
  rw [lg_entry_eq]
  generalize (lg_sl ([.ref (aa 0), .int x, .int y]) ++ List.replicate (3 - (lg_sl ([.ref (aa 0), .int x, .int y])).length) Slot.unset).toArray = ls at hl ⊢
  have hl : lv_has ls 3 [(0, .ref (aa 0)), (1, .int x), (2, .int y)] := hl
  refine lv_iload_n hx hb dX3_isIn_0 rfl (lv_at hl 1 rfl) ?_
  refine lv_iconst (v := nI 0) hx hb dX3_isIn_1 (by decide) ?_
  refine lv_aload_n hx hb dX3_isIn_2 rfl (lv_at hl 0 rfl) ?_
  refine va_get (D := D) (ci := 3) (v := .int (nI (gc g))) (C := RX3) (T := TX3) (N := 17) hx hb hts hin3 hown hE.1 hP 0 rfl rfl 13 (by decide) (hts (.fieldLink RX3 95 "HomekeysModel" "contests" "I") (by decide +kernel)) (fun _ h9 => h9) rfl dX3_isIn_3 ?_
  refine lv_iconst (v := nI 1) hx hb dX3_isIn_6 (by decide) ?_
  refine lv_isub hx hb dX3_isIn_7 ?_
  refine hk_R (rest := []) (va_Run.run (va_runS (As := [.int x, .int (nI 0), .int ((nI (gc g)) - (nI 1))]) (rest := []) ⟨hx, hb, hml, hown, hts⟩ (c_X3_is l D ct sa x (nI 0) (nI (gc g) - nI 1)) (va_cwS 3 hts gX3_isIn_X3_is rfl rfl rfl (by decide +kernel) ⟨Nat.le_of_ble_eq_true rfl, Nat.le_of_ble_eq_true rfl⟩) (hk_preS hE trivial) rfl rfl hl.1 rfl (lv_room (Nat.le_of_ble_eq_true rfl)) dX3_isIn_8 ⟨Nat.zero_le _, Nat.zero_le _⟩)) ?_
  refine hk_top (y := nb x (gc g)) (is_nb x (by omega)) ?_
  by_cases hbx : bd x (gc g)
  · refine hk_top (y := nI 0) (if_pos hbx) ?_
    refine hk_eq0N (tgt := 34) hx hb (by omega) dX3_isIn_11 (by decide) (fun hk8 => ?_) (fun hk9 => ?_)
    · refine lv_iconst (v := nI 0) hx hb dX3_isIn_34 (by decide) ?_
      exact W.zret (v := nI 0) hx hb hr rfl (fun t ht hW => ⟨by rw [hkIn, if_pos (Or.inl hbx)]; rfl, ht⟩) (fun _ h => nomatch h) dX3_isIn_35
    · exact absurd hk9 (by decide)
  · refine hk_top (y := nI 1) (if_neg hbx) ?_
    refine hk_eq0N (tgt := 34) hx hb (by omega) dX3_isIn_11 (by decide) (fun hk8 => ?_) (fun hk9 => ?_)
    · exact absurd hk8 (by decide)
    · obtain ⟨i, hi, rfl⟩ := bd_of (by omega) hbx
      have hic : (nI i).toNatClampNeg = i := nI_clamp (by omega)
      have hw5 := (hCo i).1
      refine lv_iload_n hx hb dX3_isIn_14 rfl (lv_at hl 2 rfl) ?_
      refine lv_iconst (v := nI 0) hx hb dX3_isIn_15 (by decide) ?_
      refine lv_aload_n hx hb dX3_isIn_16 rfl (lv_at hl 0 rfl) ?_
      refine va_get (D := D) (ci := 3) (v := .ref (aa 11)) (C := RX3) (T := TX3) (N := 17) hx hb hts hin3 hown hE.1 hP 0 rfl rfl 14 (by decide) (hts (.fieldLink RX3 40 "HomekeysModel" "within" "[I") (by decide +kernel)) (fun _ h9 => h9) rfl dX3_isIn_17 ?_
      refine lv_iload_n hx hb dX3_isIn_20 rfl (lv_at hl 1 rfl) ?_
      refine hk_iald hx hb hE hP 11 rfl (j := i) (by omega) (by omega) dX3_isIn_21 ?_
      refine hk_top (y := nI (cW (gC g i))) rfl ?_
      refine lv_iconst (v := nI 1) hx hb dX3_isIn_22 (by decide) ?_
      refine lv_isub hx hb dX3_isIn_23 ?_
      refine hk_R (rest := []) (va_Run.run (va_runS (As := [.int y, .int (nI 0), .int ((nI (cW (gC g i))) - (nI 1))]) (rest := []) ⟨hx, hb, hml, hown, hts⟩ (c_X3_is l D ct sa y (nI 0) (nI (cW (gC g i)) - nI 1)) (va_cwS 3 hts gX3_isIn_X3_is rfl rfl rfl (by decide +kernel) ⟨Nat.le_of_ble_eq_true rfl, Nat.le_of_ble_eq_true rfl⟩) (hk_preS hE trivial) rfl rfl hl.1 rfl (lv_room (Nat.le_of_ble_eq_true rfl)) dX3_isIn_24 ⟨Nat.zero_le _, Nat.zero_le _⟩)) ?_
      refine hk_top (y := nb y (cW (gC g i))) (is_nb y (by omega)) ?_
      by_cases hby : bd y (cW (gC g i))
      · refine hk_top (y := nI 0) (if_pos hby) ?_
        refine hk_eq0N (tgt := 34) hx hb (by omega) dX3_isIn_27 (by decide) (fun hk8 => ?_) (fun hk9 => ?_)
        · refine lv_iconst (v := nI 0) hx hb dX3_isIn_34 (by decide) ?_
          exact W.zret (v := nI 0) hx hb hr rfl (fun t ht hW => ⟨by rw [hkIn, if_pos (Or.inr (by rw [ix, hic]; exact hby))]; rfl, ht⟩) (fun _ h => nomatch h) dX3_isIn_35
        · exact absurd hk9 (by decide)
      · refine hk_top (y := nI 1) (if_neg hby) ?_
        refine hk_eq0N (tgt := 34) hx hb (by omega) dX3_isIn_27 (by decide) (fun hk8 => ?_) (fun hk9 => ?_)
        · exact absurd hk8 (by decide)
        · refine lv_iconst (v := nI 1) hx hb dX3_isIn_30 (by decide) ?_
          refine lv_goto (tgt := 35) hx hb dX3_isIn_31 (by decide) ?_
          exact W.zret (v := nI 1) hx hb hr rfl (fun t ht hW => ⟨by rw [hkIn, if_neg (fun q => q.elim (bd_nI hi (by omega)) (by rw [ix, hic]; exact hby))]; rfl, ht⟩) (fun _ h => nomatch h) dX3_isIn_35

set_option maxHeartbeats 4000000 in
set_option maxRecDepth 100000 in
theorem c_X3_score (l : Launch) (D : va_G) (ct : Nat → ClassId) (sa : Nat → Nat) (aa : Nat → Nat) (rf : Int32) (n nd nc : Nat) (f h : Nat → Int32) (k9 : Nat) (hk9 : k9 < 2 ^ 31) (h30 : k9 < 30) (hz : ¬ f k9 = 0) : Met l yX3_score wsX3_score ({ frames := 0, cells := 0, slots := 0, locals := 0 }) (hkPc D ct sa [.ref (aa 0), .int (nI k9)] (fun H => va_P D vwCl [((aa 0), .inr (3, [.int rf, .int (nI n), .ref (aa 1), .ref (aa 2), .ref (aa 3), .ref (aa 4), .ref (aa 5), .ref (aa 6), .ref (aa 7), .ref (aa 8), .ref (aa 9), .int (nI nd), .ref (aa 10), .int (nI nc), .ref (aa 11), .ref (aa 12), .ref (aa 13)])), ((aa 12), .inl (ct 0, 30, .inl f)), ((aa 13), .inl (ct 0, 30, .inl h))] H)) (QcRead (nI 1000 * h k9 / f k9)) 0 0 (fun _ => False) := by
  refine Met.ofW (cc := cX3_score) (maxL := 2) (ret := (some .int)) (by decide) rfl ?_
  intro p e s m args below meth c s₁ B hml hv
  obtain ⟨rfl, hE, hP⟩ := hv
  have hx := B.exec
  have hb := B.bytes
  have hr := B.returns
  have hts := atoms_spec (ws := wsX3_score) B.pre
  have hown : s.vm.findClass RX3 = some m.cls := findClass_of_methodNamed B.named
  have hlocks := B.notSynchronized
  have hin3 : ∀ w ∈ wsX30, w ∈ wsX3_score := by decide +kernel
  have hl := lv_entry ([.ref (aa 0), .int (nI k9)]) (n := 2) (Nat.le_of_ble_eq_true rfl)
  rw [lg_entry_eq]
  generalize (lg_sl ([.ref (aa 0), .int (nI k9)]) ++ List.replicate (2 - (lg_sl ([.ref (aa 0), .int (nI k9)])).length) Slot.unset).toArray = ls at hl ⊢
  have hl : lv_has ls 2 [(0, .ref (aa 0)), (1, .int (nI k9))] := hl
  refine lv_sipush (v := nI 1000) hx hb dX3_score_0 (by decide) ?_
  refine lv_aload_n hx hb dX3_score_3 rfl (lv_at hl 0 rfl) ?_
  refine va_get (D := D) (ci := 3) (v := .ref (aa 13)) (C := RX3) (T := TX3) (N := 17) hx hb hts hin3 hown hE.1 hP 0 rfl rfl 16 (by decide) (hts (.fieldLink RX3 46 "HomekeysModel" "ticks" "[I") (by decide +kernel)) (fun _ h9 => h9) rfl dX3_score_4 ?_
  refine lv_iload_n hx hb dX3_score_7 rfl (lv_at hl 1 rfl) ?_
  refine hk_iald hx hb hE hP 2 rfl (j := k9) (by omega) (by omega) dX3_score_8 ?_
  refine lv_imul hx hb dX3_score_9 ?_
  refine lv_aload_n hx hb dX3_score_10 rfl (lv_at hl 0 rfl) ?_
  refine va_get (D := D) (ci := 3) (v := .ref (aa 12)) (C := RX3) (T := TX3) (N := 17) hx hb hts hin3 hown hE.1 hP 0 rfl rfl 15 (by decide) (hts (.fieldLink RX3 43 "HomekeysModel" "texts" "[I") (by decide +kernel)) (fun _ h9 => h9) rfl dX3_score_11 ?_
  refine lv_iload_n hx hb dX3_score_14 rfl (lv_at hl 1 rfl) ?_
  refine hk_iald hx hb hE hP 1 rfl (j := k9) (by omega) (by omega) dX3_score_15 ?_
  refine lv_idiv hx hb dX3_score_16 hz ?_
  exact W.iret (v := ((nI 1000) * (h k9)) / (f k9)) hx hb hr (fun t ht hW => ⟨rfl, ht⟩) (fun _ h => nomatch h) dX3_score_17

set_option maxHeartbeats 4000000 in
set_option maxRecDepth 100000 in
theorem c_X3_result (l : Launch) (D : va_G) (ct : Nat → ClassId) (sa : Nat → Nat) (aa : Nat → Nat) (g : Sg) (rf : Int32) (x : Int32) (y : Int32) (z : Int32) (hI : Inv g) : Met l yX3_result wsX3_result ({ frames := 2, cells := 0, slots := 0, locals := 44 }) (hkPc D ct sa [.ref (aa 0), .int x, .int y, .int z] (fun H => va_P D vwCl (mdW ct aa g rf) H ∧ va_D (fun _ => True) (mdW ct aa g rf))) (hkQ (some (.int (opResult g x y z).2.1)) D (mdW ct aa (opResult g x y z).2.2 (opResult g x y z).1) [(aa 0), (aa 1), (aa 2), (aa 3), (aa 4), (aa 5), (aa 6), (aa 7), (aa 8), (aa 9), (aa 10), (aa 11), (aa 12), (aa 13)]) 0 0 (hkA [(aa 0), (aa 1), (aa 2), (aa 3), (aa 4), (aa 5), (aa 6), (aa 7), (aa 8), (aa 9), (aa 10), (aa 11), (aa 12), (aa 13)]) := by
  refine Met.ofW (cc := cX3_result) (maxL := 6) (ret := (some .int)) (by decide) rfl ?_
  intro p e s m args below meth c s₁ B hml hv
  obtain ⟨rfl, hE, hp⟩ := hv
  have hx := B.exec
  have hb := B.bytes
  have hr := B.returns
  have hts := atoms_spec (ws := wsX3_result) B.pre
  have hown : s.vm.findClass RX3 = some m.cls := findClass_of_methodNamed B.named
  have hlocks := B.notSynchronized
  have hin3 : ∀ w ∈ wsX30, w ∈ wsX3_result := by decide +kernel
  obtain ⟨hP, hD0⟩ := hp
  have hD : va_D (hkA [(aa 0), (aa 1), (aa 2), (aa 3), (aa 4), (aa 5), (aa 6), (aa 7), (aa 8), (aa 9), (aa 10), (aa 11), (aa 12), (aa 13)]) [((aa 0), .inr (3, [.int rf, .int (nI (gN g)), .ref (aa 1), .ref (aa 2), .ref (aa 3), .ref (aa 4), .ref (aa 5), .ref (aa 6), .ref (aa 7), .ref (aa 8), .ref (aa 9), .int (nI (gd g)), .ref (aa 10), .int (nI (gc g)), .ref (aa 11), .ref (aa 12), .ref (aa 13)])), ((aa 1), .inl (ct 0, 60, .inl (mK g))), ((aa 2), .inl (ct 0, 60, .inl (mL g))), ((aa 3), .inl (ct 0, 5, .inl (mY g))), ((aa 4), .inl (ct 0, 60, .inl (mS g))), ((aa 5), .inl (ct 0, 720, .inl (mP g))), ((aa 6), .inl (ct 0, 5, .inl (mC g))), ((aa 7), .inl (ct 0, 5, .inl (mLa g))), ((aa 8), .inl (ct 0, 5, .inl (mQ g))), ((aa 9), .inl (ct 0, 150, .inl (mT g))), ((aa 10), .inl (ct 0, 24, .inl (mD g))), ((aa 11), .inl (ct 0, 6, .inl (mW g))), ((aa 12), .inl (ct 0, 30, .inl (mX g))), ((aa 13), .inl (ct 0, 30, .inl (mZ g)))] := hD0.weaken (fun k q hk _ => hk_mem hk)
  have hS : va_S (hkA [(aa 0), (aa 1), (aa 2), (aa 3), (aa 4), (aa 5), (aa 6), (aa 7), (aa 8), (aa 9), (aa 10), (aa 11), (aa 12), (aa 13)]) s.heap s.heap [] := va_S.rf
  obtain ⟨hN5, hd24, hc6, hSt, hDr, hNs, hCs, hCo⟩ := id hI
  have hl := lv_entry ([.ref (aa 0), .int x, .int y, .int z]) (n := 6) (Nat.le_of_ble_eq_true rfl)
  rw [lg_entry_eq]
  generalize (lg_sl ([.ref (aa 0), .int x, .int y, .int z]) ++ List.replicate (6 - (lg_sl ([.ref (aa 0), .int x, .int y, .int z])).length) Slot.unset).toArray = ls at hl ⊢
  have hl : lv_has ls 6 [(0, .ref (aa 0)), (1, .int x), (2, .int y), (3, .int z)] := hl
  refine lv_aload_n hx hb dX3_result_0 rfl (lv_at hl 0 rfl) ?_
  refine lv_iload_n hx hb dX3_result_1 rfl (lv_at hl 1 rfl) ?_
  refine lv_iload_n hx hb dX3_result_2 rfl (lv_at hl 2 rfl) ?_
  refine hk_R (rest := []) (va_Run.run (va_runV (As := [.int x, .int y]) (rest := []) ⟨hx, hb, hml, hown, hts⟩ (c_X3_isIn l D ct sa aa g rf x y hI) (cwV 2 hts gX3_result_X3_isIn rfl rfl rfl (by decide +kernel) ⟨Nat.le_of_ble_eq_true rfl, Nat.le_of_ble_eq_true rfl⟩) (hk_preV hE (va_recv hE.1 hP (ci := 3) (q0 := 0) rfl rfl) hP) rfl rfl hl.1 rfl (lv_room (Nat.le_of_ble_eq_true rfl)) dX3_result_3 ⟨Nat.zero_le _, Nat.zero_le _⟩)) ?_
  by_cases hbb : bd x (gc g) ∨ bd y (cW (gC g (ix x)))
  · refine hk_top (y := nI 0) (if_pos hbb) ?_
    refine lv_istore (lv' := [(4, .int (nI 0)), (0, .ref (aa 0)), (1, .int x), (2, .int y), (3, .int z)]) hx hb dX3_result_6 hl (by decide) rfl (fun ls hl => ?_)
    refine lv_iload hx hb dX3_result_8 (lv_at hl 0 rfl) ?_
    refine hk_eq0N (tgt := 21) hx hb (by omega) dX3_result_10 (by decide) (fun hk8 => ?_) (fun hk9 => ?_)
    · refine lv_iconst (v := nI 0) hx hb dX3_result_21 (by decide) ?_
      refine lv_istore (lv' := [(5, .int (nI 0)), (4, .int (nI 0)), (0, .ref (aa 0)), (1, .int x), (2, .int y), (3, .int z)]) hx hb dX3_result_22 hl (by decide) rfl (fun ls hl => ?_)
      refine lv_aload_n hx hb dX3_result_24 rfl (lv_at hl 2 rfl) ?_
      refine lv_iload hx hb dX3_result_25 (lv_at hl 1 rfl) ?_
      refine hk_ne0N (tgt := 34) hx hb (by omega) dX3_result_27 (by decide) (fun hk8 => ?_) (fun hk9 => ?_)
      · exact absurd hk8 (by decide)
      · refine lv_iconst (v := nI 1) hx hb dX3_result_30 (by decide) ?_
        refine lv_goto (tgt := 63) hx hb dX3_result_31 (by decide) ?_
        refine hk_M (rest := []) (va_Run.run (va_runV (As := [.int (nI 1)]) (rest := []) ⟨hx, hb, hml, hown, hts⟩ (c_X3_refused l D ct sa aa g rf (nI 1)) (cwV 1 hts gX3_result_X3_refused rfl rfl rfl (by decide +kernel) ⟨Nat.le_of_ble_eq_true rfl, Nat.le_of_ble_eq_true rfl⟩) (hk_preV hE (va_recv hE.1 hP (ci := 3) (q0 := 0) rfl rfl) ⟨hP.sub (ws' := [((aa 0), .inr (3, [.int rf, .int (nI (gN g)), .ref (aa 1), .ref (aa 2), .ref (aa 3), .ref (aa 4), .ref (aa 5), .ref (aa 6), .ref (aa 7), .ref (aa 8), .ref (aa 9), .int (nI (gd g)), .ref (aa 10), .int (nI (gc g)), .ref (aa 11), .ref (aa 12), .ref (aa 13)]))]) [0] rfl, (hD.sub (ws' := [((aa 0), .inr (3, [.int rf, .int (nI (gN g)), .ref (aa 1), .ref (aa 2), .ref (aa 3), .ref (aa 4), .ref (aa 5), .ref (aa 6), .ref (aa 7), .ref (aa 8), .ref (aa 9), .int (nI (gd g)), .ref (aa 10), .int (nI (gc g)), .ref (aa 11), .ref (aa 12), .ref (aa 13)]))]) [0] (by decide) rfl).weaken (fun _ _ _ _ => trivial)⟩) rfl rfl hl.1 rfl (lv_room (Nat.le_of_ble_eq_true rfl)) dX3_result_63 ⟨Nat.zero_le _, Nat.zero_le _⟩)) hP hD hS [0] (wc := [((aa 0), .inr (3, [.int rf, .int (nI (gN g)), .ref (aa 1), .ref (aa 2), .ref (aa 3), .ref (aa 4), .ref (aa 5), .ref (aa 6), .ref (aa 7), .ref (aa 8), .ref (aa 9), .int (nI (gd g)), .ref (aa 10), .int (nI (gc g)), .ref (aa 11), .ref (aa 12), .ref (aa 13)]))]) rfl rfl rfl (fun H locs hP hD hS => ?_)
        have hP : va_P D vwCl [((aa 0), .inr (3, [.int (nI 1), .int (nI (gN g)), .ref (aa 1), .ref (aa 2), .ref (aa 3), .ref (aa 4), .ref (aa 5), .ref (aa 6), .ref (aa 7), .ref (aa 8), .ref (aa 9), .int (nI (gd g)), .ref (aa 10), .int (nI (gc g)), .ref (aa 11), .ref (aa 12), .ref (aa 13)])), ((aa 1), .inl (ct 0, 60, .inl (mK g))), ((aa 2), .inl (ct 0, 60, .inl (mL g))), ((aa 3), .inl (ct 0, 5, .inl (mY g))), ((aa 4), .inl (ct 0, 60, .inl (mS g))), ((aa 5), .inl (ct 0, 720, .inl (mP g))), ((aa 6), .inl (ct 0, 5, .inl (mC g))), ((aa 7), .inl (ct 0, 5, .inl (mLa g))), ((aa 8), .inl (ct 0, 5, .inl (mQ g))), ((aa 9), .inl (ct 0, 150, .inl (mT g))), ((aa 10), .inl (ct 0, 24, .inl (mD g))), ((aa 11), .inl (ct 0, 6, .inl (mW g))), ((aa 12), .inl (ct 0, 30, .inl (mX g))), ((aa 13), .inl (ct 0, 30, .inl (mZ g)))] H := hP
        have hD : va_D (hkA [(aa 0), (aa 1), (aa 2), (aa 3), (aa 4), (aa 5), (aa 6), (aa 7), (aa 8), (aa 9), (aa 10), (aa 11), (aa 12), (aa 13)]) [((aa 0), .inr (3, [.int (nI 1), .int (nI (gN g)), .ref (aa 1), .ref (aa 2), .ref (aa 3), .ref (aa 4), .ref (aa 5), .ref (aa 6), .ref (aa 7), .ref (aa 8), .ref (aa 9), .int (nI (gd g)), .ref (aa 10), .int (nI (gc g)), .ref (aa 11), .ref (aa 12), .ref (aa 13)])), ((aa 1), .inl (ct 0, 60, .inl (mK g))), ((aa 2), .inl (ct 0, 60, .inl (mL g))), ((aa 3), .inl (ct 0, 5, .inl (mY g))), ((aa 4), .inl (ct 0, 60, .inl (mS g))), ((aa 5), .inl (ct 0, 720, .inl (mP g))), ((aa 6), .inl (ct 0, 5, .inl (mC g))), ((aa 7), .inl (ct 0, 5, .inl (mLa g))), ((aa 8), .inl (ct 0, 5, .inl (mQ g))), ((aa 9), .inl (ct 0, 150, .inl (mT g))), ((aa 10), .inl (ct 0, 24, .inl (mD g))), ((aa 11), .inl (ct 0, 6, .inl (mW g))), ((aa 12), .inl (ct 0, 30, .inl (mX g))), ((aa 13), .inl (ct 0, 30, .inl (mZ g)))] := hD
        refine hk_top (y := nI 1) (by decide) ?_
        refine hk_eq0N (tgt := 71) hx hb (by omega) dX3_result_66 (by decide) (fun hr9 => ?_) (fun hr0 => ?_)
        · exact absurd hr9 (by decide)
        · refine lv_iconst (v := nI 0) hx hb dX3_result_69 (by decide) ?_
          have hz : opResult g x y z = (1, 0, g) := by rw [opResult, if_pos hbb]
          rw [hz]
          have hP9 : va_P D vwCl [((aa 0), .inr (3, [.int (nI 1), .int (nI (gN g)), .ref (aa 1), .ref (aa 2), .ref (aa 3), .ref (aa 4), .ref (aa 5), .ref (aa 6), .ref (aa 7), .ref (aa 8), .ref (aa 9), .int (nI (gd g)), .ref (aa 10), .int (nI (gc g)), .ref (aa 11), .ref (aa 12), .ref (aa 13)])), ((aa 1), .inl (ct 0, 60, .inl (mK g))), ((aa 2), .inl (ct 0, 60, .inl (mL g))), ((aa 3), .inl (ct 0, 5, .inl (mY g))), ((aa 4), .inl (ct 0, 60, .inl (mS g))), ((aa 5), .inl (ct 0, 720, .inl (mP g))), ((aa 6), .inl (ct 0, 5, .inl (mC g))), ((aa 7), .inl (ct 0, 5, .inl (mLa g))), ((aa 8), .inl (ct 0, 5, .inl (mQ g))), ((aa 9), .inl (ct 0, 150, .inl (mT g))), ((aa 10), .inl (ct 0, 24, .inl (mD g))), ((aa 11), .inl (ct 0, 6, .inl (mW g))), ((aa 12), .inl (ct 0, 30, .inl (mX g))), ((aa 13), .inl (ct 0, 30, .inl (mZ g)))] H := hP
          exact W.iret (v := nI 0) hx hb hr (fun t ht hW => ⟨rfl, by rw [ht]; exact hP9, by rw [ht]; exact ⟨hS.1, hS.2.1⟩⟩) hS.2.2 dX3_result_70
    · exact absurd hk9 (by decide)
  · refine hk_top (y := nI 1) (if_neg hbb) ?_
    have hbx : ¬ bd x (gc g) := fun q => hbb (Or.inl q)
    have hby9 : ¬ bd y (cW (gC g (ix x))) := fun q => hbb (Or.inr q)
    refine lv_istore (lv' := [(4, .int (nI 1)), (0, .ref (aa 0)), (1, .int x), (2, .int y), (3, .int z)]) hx hb dX3_result_6 hl (by decide) rfl (fun ls hl => ?_)
    refine lv_iload hx hb dX3_result_8 (lv_at hl 0 rfl) ?_
    refine hk_eq0N (tgt := 21) hx hb (by omega) dX3_result_10 (by decide) (fun hk8 => ?_) (fun hk9 => ?_)
    · exact absurd hk8 (by decide)
    · obtain ⟨i, hi, rfl⟩ := bd_of (by omega) hbx
      have hic : (nI i).toNatClampNeg = i := nI_clamp (by omega)
      obtain ⟨hw5, hXX, hZZ, hZn⟩ := hCo i
      have hby : ¬ bd y (cW (gC g i)) := by rw [ix, hic] at hby9; exact hby9
      obtain ⟨j, hj, rfl⟩ := bd_of (by omega) hby
      have hjc : (nI j).toNatClampNeg = j := nI_clamp (by omega)
      have hX1 := hXX j hj
      have hbn : ¬ (bd (nI i) (gc g) ∨ bd (nI j) (cW (gC g (ix (nI i))))) := by rw [ix, hic]; exact fun q => q.elim (bd_nI hi (by omega)) (bd_nI hj (by omega))
      have hXz : ¬ mX g (5 * i + j) = 0 := by rw [mX_at g i (by omega)]; exact nI_ne0 (by omega) (by omega)
      refine lv_iconst (v := nI 5) hx hb dX3_result_13 (by decide) ?_
      refine lv_iload_n hx hb dX3_result_14 rfl (lv_at hl 2 rfl) ?_
      refine hk_mulN hx hb dX3_result_15 ?_
      refine lv_iload_n hx hb dX3_result_16 rfl (lv_at hl 3 rfl) ?_
      refine hk_addN hx hb dX3_result_17 ?_
      refine lv_goto (tgt := 22) hx hb dX3_result_18 (by decide) ?_
      refine lv_istore (lv' := [(5, .int (nI ((5 * i) + j))), (4, .int (nI 1)), (0, .ref (aa 0)), (1, .int (nI i)), (2, .int (nI j)), (3, .int z)]) hx hb dX3_result_22 hl (by decide) rfl (fun ls hl => ?_)
      refine lv_aload_n hx hb dX3_result_24 rfl (lv_at hl 2 rfl) ?_
      refine lv_iload hx hb dX3_result_25 (lv_at hl 1 rfl) ?_
      refine hk_ne0N (tgt := 34) hx hb (by omega) dX3_result_27 (by decide) (fun hk8 => ?_) (fun hk9 => ?_)
      · refine lv_iload_n hx hb dX3_result_34 rfl (lv_at hl 5 rfl) ?_
        refine lv_iconst (v := nI 1) hx hb dX3_result_35 (by decide) ?_
        refine lv_ldc (v := nI 99999) hx hb hown (hts (.constant RX3 102 99999) (by decide +kernel)) dX3_result_36 ?_
        refine hk_R (rest := [.ref (aa 0)]) (va_Run.run (va_runS (As := [.int z, .int (nI 1), .int (nI 99999)]) (rest := [.ref (aa 0)]) ⟨hx, hb, hml, hown, hts⟩ (c_X3_is l D ct sa z (nI 1) (nI 99999)) (va_cwS 3 hts gX3_result_X3_is rfl rfl rfl (by decide +kernel) ⟨Nat.le_of_ble_eq_true rfl, Nat.le_of_ble_eq_true rfl⟩) (hk_preS hE trivial) rfl rfl hl.1 rfl (lv_room (Nat.le_of_ble_eq_true rfl)) dX3_result_38 ⟨Nat.zero_le _, Nat.zero_le _⟩)) ?_
        by_cases hz9 : z < nI 1 ∨ ¬ z ≤ nI 99999
        · refine hk_top (y := nI 0) (hkIs_0 (hz9.imp id Int32.not_le.mp)) ?_
          refine hk_ne0N (tgt := 48) hx hb (by omega) dX3_result_41 (by decide) (fun hk8 => ?_) (fun hk9 => ?_)
          · exact absurd hk8 (by decide)
          · refine lv_iconst (v := nI 2) hx hb dX3_result_44 (by decide) ?_
            refine lv_goto (tgt := 63) hx hb dX3_result_45 (by decide) ?_
            refine hk_M (rest := []) (va_Run.run (va_runV (As := [.int (nI 2)]) (rest := []) ⟨hx, hb, hml, hown, hts⟩ (c_X3_refused l D ct sa aa g rf (nI 2)) (cwV 1 hts gX3_result_X3_refused rfl rfl rfl (by decide +kernel) ⟨Nat.le_of_ble_eq_true rfl, Nat.le_of_ble_eq_true rfl⟩) (hk_preV hE (va_recv hE.1 hP (ci := 3) (q0 := 0) rfl rfl) ⟨hP.sub (ws' := [((aa 0), .inr (3, [.int rf, .int (nI (gN g)), .ref (aa 1), .ref (aa 2), .ref (aa 3), .ref (aa 4), .ref (aa 5), .ref (aa 6), .ref (aa 7), .ref (aa 8), .ref (aa 9), .int (nI (gd g)), .ref (aa 10), .int (nI (gc g)), .ref (aa 11), .ref (aa 12), .ref (aa 13)]))]) [0] rfl, (hD.sub (ws' := [((aa 0), .inr (3, [.int rf, .int (nI (gN g)), .ref (aa 1), .ref (aa 2), .ref (aa 3), .ref (aa 4), .ref (aa 5), .ref (aa 6), .ref (aa 7), .ref (aa 8), .ref (aa 9), .int (nI (gd g)), .ref (aa 10), .int (nI (gc g)), .ref (aa 11), .ref (aa 12), .ref (aa 13)]))]) [0] (by decide) rfl).weaken (fun _ _ _ _ => trivial)⟩) rfl rfl hl.1 rfl (lv_room (Nat.le_of_ble_eq_true rfl)) dX3_result_63 ⟨Nat.zero_le _, Nat.zero_le _⟩)) hP hD hS [0] (wc := [((aa 0), .inr (3, [.int rf, .int (nI (gN g)), .ref (aa 1), .ref (aa 2), .ref (aa 3), .ref (aa 4), .ref (aa 5), .ref (aa 6), .ref (aa 7), .ref (aa 8), .ref (aa 9), .int (nI (gd g)), .ref (aa 10), .int (nI (gc g)), .ref (aa 11), .ref (aa 12), .ref (aa 13)]))]) rfl rfl rfl (fun H locs hP hD hS => ?_)
            have hP : va_P D vwCl [((aa 0), .inr (3, [.int (nI 2), .int (nI (gN g)), .ref (aa 1), .ref (aa 2), .ref (aa 3), .ref (aa 4), .ref (aa 5), .ref (aa 6), .ref (aa 7), .ref (aa 8), .ref (aa 9), .int (nI (gd g)), .ref (aa 10), .int (nI (gc g)), .ref (aa 11), .ref (aa 12), .ref (aa 13)])), ((aa 1), .inl (ct 0, 60, .inl (mK g))), ((aa 2), .inl (ct 0, 60, .inl (mL g))), ((aa 3), .inl (ct 0, 5, .inl (mY g))), ((aa 4), .inl (ct 0, 60, .inl (mS g))), ((aa 5), .inl (ct 0, 720, .inl (mP g))), ((aa 6), .inl (ct 0, 5, .inl (mC g))), ((aa 7), .inl (ct 0, 5, .inl (mLa g))), ((aa 8), .inl (ct 0, 5, .inl (mQ g))), ((aa 9), .inl (ct 0, 150, .inl (mT g))), ((aa 10), .inl (ct 0, 24, .inl (mD g))), ((aa 11), .inl (ct 0, 6, .inl (mW g))), ((aa 12), .inl (ct 0, 30, .inl (mX g))), ((aa 13), .inl (ct 0, 30, .inl (mZ g)))] H := hP
            have hD : va_D (hkA [(aa 0), (aa 1), (aa 2), (aa 3), (aa 4), (aa 5), (aa 6), (aa 7), (aa 8), (aa 9), (aa 10), (aa 11), (aa 12), (aa 13)]) [((aa 0), .inr (3, [.int (nI 2), .int (nI (gN g)), .ref (aa 1), .ref (aa 2), .ref (aa 3), .ref (aa 4), .ref (aa 5), .ref (aa 6), .ref (aa 7), .ref (aa 8), .ref (aa 9), .int (nI (gd g)), .ref (aa 10), .int (nI (gc g)), .ref (aa 11), .ref (aa 12), .ref (aa 13)])), ((aa 1), .inl (ct 0, 60, .inl (mK g))), ((aa 2), .inl (ct 0, 60, .inl (mL g))), ((aa 3), .inl (ct 0, 5, .inl (mY g))), ((aa 4), .inl (ct 0, 60, .inl (mS g))), ((aa 5), .inl (ct 0, 720, .inl (mP g))), ((aa 6), .inl (ct 0, 5, .inl (mC g))), ((aa 7), .inl (ct 0, 5, .inl (mLa g))), ((aa 8), .inl (ct 0, 5, .inl (mQ g))), ((aa 9), .inl (ct 0, 150, .inl (mT g))), ((aa 10), .inl (ct 0, 24, .inl (mD g))), ((aa 11), .inl (ct 0, 6, .inl (mW g))), ((aa 12), .inl (ct 0, 30, .inl (mX g))), ((aa 13), .inl (ct 0, 30, .inl (mZ g)))] := hD
            refine hk_top (y := nI 1) (by decide) ?_
            refine hk_eq0N (tgt := 71) hx hb (by omega) dX3_result_66 (by decide) (fun hr9 => ?_) (fun hr0 => ?_)
            · exact absurd hr9 (by decide)
            · refine lv_iconst (v := nI 0) hx hb dX3_result_69 (by decide) ?_
              have hz : opResult g (nI i) (nI j) z = (2, 0, g) := by rw [opResult, if_neg hbn, if_pos hz9]
              rw [hz]
              have hP9 : va_P D vwCl [((aa 0), .inr (3, [.int (nI 2), .int (nI (gN g)), .ref (aa 1), .ref (aa 2), .ref (aa 3), .ref (aa 4), .ref (aa 5), .ref (aa 6), .ref (aa 7), .ref (aa 8), .ref (aa 9), .int (nI (gd g)), .ref (aa 10), .int (nI (gc g)), .ref (aa 11), .ref (aa 12), .ref (aa 13)])), ((aa 1), .inl (ct 0, 60, .inl (mK g))), ((aa 2), .inl (ct 0, 60, .inl (mL g))), ((aa 3), .inl (ct 0, 5, .inl (mY g))), ((aa 4), .inl (ct 0, 60, .inl (mS g))), ((aa 5), .inl (ct 0, 720, .inl (mP g))), ((aa 6), .inl (ct 0, 5, .inl (mC g))), ((aa 7), .inl (ct 0, 5, .inl (mLa g))), ((aa 8), .inl (ct 0, 5, .inl (mQ g))), ((aa 9), .inl (ct 0, 150, .inl (mT g))), ((aa 10), .inl (ct 0, 24, .inl (mD g))), ((aa 11), .inl (ct 0, 6, .inl (mW g))), ((aa 12), .inl (ct 0, 30, .inl (mX g))), ((aa 13), .inl (ct 0, 30, .inl (mZ g)))] H := hP
              exact W.iret (v := nI 0) hx hb hr (fun t ht hW => ⟨rfl, by rw [ht]; exact hP9, by rw [ht]; exact ⟨hS.1, hS.2.1⟩⟩) hS.2.2 dX3_result_70
        · refine hk_top (y := nI 1) (hkIs_1 (fun q => hz9 (q.imp id Int32.not_le.mpr))) ?_
          refine hk_ne0N (tgt := 48) hx hb (by omega) dX3_result_41 (by decide) (fun hk8 => ?_) (fun hk9 => ?_)
          · refine lv_aload_n hx hb dX3_result_48 rfl (lv_at hl 2 rfl) ?_
            refine va_get (D := D) (ci := 3) (v := .ref (aa 13)) (C := RX3) (T := TX3) (N := 17) hx hb hts hin3 hown hE.1 hP 0 rfl rfl 16 (by decide) (hts (.fieldLink RX3 46 "HomekeysModel" "ticks" "[I") (by decide +kernel)) (fun _ h9 => h9) rfl dX3_result_49 ?_
            refine lv_iload hx hb dX3_result_52 (lv_at hl 0 rfl) ?_
            refine hk_iald hx hb hE hP 13 rfl (j := (5 * i) + j) (by omega) (by omega) dX3_result_54 ?_
            refine hk_top (y := cZ (gC g i) j) (mZ_at g i (by omega)) ?_
            refine lv_if_le (tgt := 62) hx hb dX3_result_55 (by decide) (fun h3 => ?_) (fun h3 => ?_)
            · refine lv_iconst (v := nI 0) hx hb dX3_result_62 (by decide) ?_
              refine hk_M (rest := []) (va_Run.run (va_runV (As := [.int (nI 0)]) (rest := []) ⟨hx, hb, hml, hown, hts⟩ (c_X3_refused l D ct sa aa g rf (nI 0)) (cwV 1 hts gX3_result_X3_refused rfl rfl rfl (by decide +kernel) ⟨Nat.le_of_ble_eq_true rfl, Nat.le_of_ble_eq_true rfl⟩) (hk_preV hE (va_recv hE.1 hP (ci := 3) (q0 := 0) rfl rfl) ⟨hP.sub (ws' := [((aa 0), .inr (3, [.int rf, .int (nI (gN g)), .ref (aa 1), .ref (aa 2), .ref (aa 3), .ref (aa 4), .ref (aa 5), .ref (aa 6), .ref (aa 7), .ref (aa 8), .ref (aa 9), .int (nI (gd g)), .ref (aa 10), .int (nI (gc g)), .ref (aa 11), .ref (aa 12), .ref (aa 13)]))]) [0] rfl, (hD.sub (ws' := [((aa 0), .inr (3, [.int rf, .int (nI (gN g)), .ref (aa 1), .ref (aa 2), .ref (aa 3), .ref (aa 4), .ref (aa 5), .ref (aa 6), .ref (aa 7), .ref (aa 8), .ref (aa 9), .int (nI (gd g)), .ref (aa 10), .int (nI (gc g)), .ref (aa 11), .ref (aa 12), .ref (aa 13)]))]) [0] (by decide) rfl).weaken (fun _ _ _ _ => trivial)⟩) rfl rfl hl.1 rfl (lv_room (Nat.le_of_ble_eq_true rfl)) dX3_result_63 ⟨Nat.zero_le _, Nat.zero_le _⟩)) hP hD hS [0] (wc := [((aa 0), .inr (3, [.int rf, .int (nI (gN g)), .ref (aa 1), .ref (aa 2), .ref (aa 3), .ref (aa 4), .ref (aa 5), .ref (aa 6), .ref (aa 7), .ref (aa 8), .ref (aa 9), .int (nI (gd g)), .ref (aa 10), .int (nI (gc g)), .ref (aa 11), .ref (aa 12), .ref (aa 13)]))]) rfl rfl rfl (fun H locs hP hD hS => ?_)
              have hP : va_P D vwCl [((aa 0), .inr (3, [.int (nI 0), .int (nI (gN g)), .ref (aa 1), .ref (aa 2), .ref (aa 3), .ref (aa 4), .ref (aa 5), .ref (aa 6), .ref (aa 7), .ref (aa 8), .ref (aa 9), .int (nI (gd g)), .ref (aa 10), .int (nI (gc g)), .ref (aa 11), .ref (aa 12), .ref (aa 13)])), ((aa 1), .inl (ct 0, 60, .inl (mK g))), ((aa 2), .inl (ct 0, 60, .inl (mL g))), ((aa 3), .inl (ct 0, 5, .inl (mY g))), ((aa 4), .inl (ct 0, 60, .inl (mS g))), ((aa 5), .inl (ct 0, 720, .inl (mP g))), ((aa 6), .inl (ct 0, 5, .inl (mC g))), ((aa 7), .inl (ct 0, 5, .inl (mLa g))), ((aa 8), .inl (ct 0, 5, .inl (mQ g))), ((aa 9), .inl (ct 0, 150, .inl (mT g))), ((aa 10), .inl (ct 0, 24, .inl (mD g))), ((aa 11), .inl (ct 0, 6, .inl (mW g))), ((aa 12), .inl (ct 0, 30, .inl (mX g))), ((aa 13), .inl (ct 0, 30, .inl (mZ g)))] H := hP
              have hD : va_D (hkA [(aa 0), (aa 1), (aa 2), (aa 3), (aa 4), (aa 5), (aa 6), (aa 7), (aa 8), (aa 9), (aa 10), (aa 11), (aa 12), (aa 13)]) [((aa 0), .inr (3, [.int (nI 0), .int (nI (gN g)), .ref (aa 1), .ref (aa 2), .ref (aa 3), .ref (aa 4), .ref (aa 5), .ref (aa 6), .ref (aa 7), .ref (aa 8), .ref (aa 9), .int (nI (gd g)), .ref (aa 10), .int (nI (gc g)), .ref (aa 11), .ref (aa 12), .ref (aa 13)])), ((aa 1), .inl (ct 0, 60, .inl (mK g))), ((aa 2), .inl (ct 0, 60, .inl (mL g))), ((aa 3), .inl (ct 0, 5, .inl (mY g))), ((aa 4), .inl (ct 0, 60, .inl (mS g))), ((aa 5), .inl (ct 0, 720, .inl (mP g))), ((aa 6), .inl (ct 0, 5, .inl (mC g))), ((aa 7), .inl (ct 0, 5, .inl (mLa g))), ((aa 8), .inl (ct 0, 5, .inl (mQ g))), ((aa 9), .inl (ct 0, 150, .inl (mT g))), ((aa 10), .inl (ct 0, 24, .inl (mD g))), ((aa 11), .inl (ct 0, 6, .inl (mW g))), ((aa 12), .inl (ct 0, 30, .inl (mX g))), ((aa 13), .inl (ct 0, 30, .inl (mZ g)))] := hD
              refine hk_top (y := nI 0) (by decide) ?_
              refine hk_eq0N (tgt := 71) hx hb (by omega) dX3_result_66 (by decide) (fun hr9 => ?_) (fun hr0 => ?_)
              · refine lv_aload_n hx hb dX3_result_71 rfl (lv_at hl 2 rfl) ?_
                refine va_get (D := D) (ci := 3) (v := .ref (aa 13)) (C := RX3) (T := TX3) (N := 17) hx hb hts hin3 hown hE.1 hP 0 rfl rfl 16 (by decide) (hts (.fieldLink RX3 46 "HomekeysModel" "ticks" "[I") (by decide +kernel)) (fun _ h9 => h9) rfl dX3_result_72 ?_
                refine lv_iload hx hb dX3_result_75 (lv_at hl 0 rfl) ?_
                refine lv_iload_n hx hb dX3_result_77 rfl (lv_at hl 5 rfl) ?_
                refine hk_iast hx hb hE hP hD hS 13 rfl (j := (5 * i) + j) (x := z) (by omega) (by omega) dX3_result_78 (fun H locs hP hD hS => ?_)
                have hP : va_P D vwCl [((aa 0), .inr (3, [.int (nI 0), .int (nI (gN g)), .ref (aa 1), .ref (aa 2), .ref (aa 3), .ref (aa 4), .ref (aa 5), .ref (aa 6), .ref (aa 7), .ref (aa 8), .ref (aa 9), .int (nI (gd g)), .ref (aa 10), .int (nI (gc g)), .ref (aa 11), .ref (aa 12), .ref (aa 13)])), ((aa 1), .inl (ct 0, 60, .inl (mK g))), ((aa 2), .inl (ct 0, 60, .inl (mL g))), ((aa 3), .inl (ct 0, 5, .inl (mY g))), ((aa 4), .inl (ct 0, 60, .inl (mS g))), ((aa 5), .inl (ct 0, 720, .inl (mP g))), ((aa 6), .inl (ct 0, 5, .inl (mC g))), ((aa 7), .inl (ct 0, 5, .inl (mLa g))), ((aa 8), .inl (ct 0, 5, .inl (mQ g))), ((aa 9), .inl (ct 0, 150, .inl (mT g))), ((aa 10), .inl (ct 0, 24, .inl (mD g))), ((aa 11), .inl (ct 0, 6, .inl (mW g))), ((aa 12), .inl (ct 0, 30, .inl (mX g))), ((aa 13), .inl (ct 0, 30, .inl (upd (mZ g) ((5 * i) + j) z)))] H := hP
                have hD : va_D (hkA [(aa 0), (aa 1), (aa 2), (aa 3), (aa 4), (aa 5), (aa 6), (aa 7), (aa 8), (aa 9), (aa 10), (aa 11), (aa 12), (aa 13)]) [((aa 0), .inr (3, [.int (nI 0), .int (nI (gN g)), .ref (aa 1), .ref (aa 2), .ref (aa 3), .ref (aa 4), .ref (aa 5), .ref (aa 6), .ref (aa 7), .ref (aa 8), .ref (aa 9), .int (nI (gd g)), .ref (aa 10), .int (nI (gc g)), .ref (aa 11), .ref (aa 12), .ref (aa 13)])), ((aa 1), .inl (ct 0, 60, .inl (mK g))), ((aa 2), .inl (ct 0, 60, .inl (mL g))), ((aa 3), .inl (ct 0, 5, .inl (mY g))), ((aa 4), .inl (ct 0, 60, .inl (mS g))), ((aa 5), .inl (ct 0, 720, .inl (mP g))), ((aa 6), .inl (ct 0, 5, .inl (mC g))), ((aa 7), .inl (ct 0, 5, .inl (mLa g))), ((aa 8), .inl (ct 0, 5, .inl (mQ g))), ((aa 9), .inl (ct 0, 150, .inl (mT g))), ((aa 10), .inl (ct 0, 24, .inl (mD g))), ((aa 11), .inl (ct 0, 6, .inl (mW g))), ((aa 12), .inl (ct 0, 30, .inl (mX g))), ((aa 13), .inl (ct 0, 30, .inl (upd (mZ g) ((5 * i) + j) z)))] := hD
                refine lv_aload_n hx hb dX3_result_79 rfl (lv_at hl 2 rfl) ?_
                refine lv_iload hx hb dX3_result_80 (lv_at hl 0 rfl) ?_
                refine hk_R (rest := []) (va_Run.run (va_runV (As := [.int (nI ((5 * i) + j))]) (rest := []) ⟨hx, hb, hml, hown, hts⟩ (c_X3_score l D ct sa aa (nI 0) (gN g) (gd g) (gc g) (mX g) (upd (mZ g) ((5 * i) + j) z) (5 * i + j) (by omega) (by omega) hXz) (cwV 1 hts gX3_result_X3_score rfl rfl rfl (by decide +kernel) ⟨Nat.le_of_ble_eq_true rfl, Nat.le_of_ble_eq_true rfl⟩) (hk_preV hE (va_recv hE.1 hP (ci := 3) (q0 := 0) rfl rfl) (hP.sub (ws' := [((aa 0), .inr (3, [.int (nI 0), .int (nI (gN g)), .ref (aa 1), .ref (aa 2), .ref (aa 3), .ref (aa 4), .ref (aa 5), .ref (aa 6), .ref (aa 7), .ref (aa 8), .ref (aa 9), .int (nI (gd g)), .ref (aa 10), .int (nI (gc g)), .ref (aa 11), .ref (aa 12), .ref (aa 13)])), ((aa 12), .inl (ct 0, 30, .inl (mX g))), ((aa 13), .inl (ct 0, 30, .inl (upd (mZ g) ((5 * i) + j) z)))]) [0, 12, 13] rfl)) rfl rfl hl.1 rfl (lv_room (Nat.le_of_ble_eq_true rfl)) dX3_result_82 ⟨Nat.zero_le _, Nat.zero_le _⟩)) ?_
                refine hk_top (y := nI 1000 * z / nI (cX (gC g i) j)) (by rw [upd_at, mX_at g i (by omega)]) ?_
                have hz : opResult g (nI i) (nI j) z = (0, nI 1000 * z / nI (cX (gC g i) j), gV g i (rsU (gC g i) j z)) := by rw [opResult, if_neg hbn, if_neg hz9, if_neg (by rw [ix, ix, hic, hjc]; exact Int32.not_lt.mpr h3), ix, ix, hic, hjc]
                rw [hz]
                have hP9 : va_P D vwCl [((aa 0), .inr (3, [.int (nI 0), .int (nI (gN g)), .ref (aa 1), .ref (aa 2), .ref (aa 3), .ref (aa 4), .ref (aa 5), .ref (aa 6), .ref (aa 7), .ref (aa 8), .ref (aa 9), .int (nI (gd g)), .ref (aa 10), .int (nI (gc g)), .ref (aa 11), .ref (aa 12), .ref (aa 13)])), ((aa 1), .inl (ct 0, 60, .inl (mK g))), ((aa 2), .inl (ct 0, 60, .inl (mL g))), ((aa 3), .inl (ct 0, 5, .inl (mY g))), ((aa 4), .inl (ct 0, 60, .inl (mS g))), ((aa 5), .inl (ct 0, 720, .inl (mP g))), ((aa 6), .inl (ct 0, 5, .inl (mC g))), ((aa 7), .inl (ct 0, 5, .inl (mLa g))), ((aa 8), .inl (ct 0, 5, .inl (mQ g))), ((aa 9), .inl (ct 0, 150, .inl (mT g))), ((aa 10), .inl (ct 0, 24, .inl (mD g))), ((aa 11), .inl (ct 0, 6, .inl (mW g))), ((aa 12), .inl (ct 0, 30, .inl (mX g))), ((aa 13), .inl (ct 0, 30, .inl (upd (mZ g) ((5 * i) + j) z)))] H := hP
                exact W.iret (v := nI 1000 * z / nI (cX (gC g i) j)) hx hb hr (fun t ht hW => ⟨rfl, by rw [ht]; exact mdW_of (gV g i (rsU (gC g i) j z)) hP9 rfl rfl rfl rfl rfl rfl rfl rfl rfl rfl rfl rfl rfl (mW_gV g i _ rfl) (mX_keep g i _ rfl) (mZ_rs g i j (by omega) z), by rw [ht]; exact ⟨hS.1, hS.2.1⟩⟩) hS.2.2 dX3_result_85
              · exact absurd hr0 (by decide)
            · refine lv_iconst (v := nI 3) hx hb dX3_result_58 (by decide) ?_
              refine lv_goto (tgt := 63) hx hb dX3_result_59 (by decide) ?_
              refine hk_M (rest := []) (va_Run.run (va_runV (As := [.int (nI 3)]) (rest := []) ⟨hx, hb, hml, hown, hts⟩ (c_X3_refused l D ct sa aa g rf (nI 3)) (cwV 1 hts gX3_result_X3_refused rfl rfl rfl (by decide +kernel) ⟨Nat.le_of_ble_eq_true rfl, Nat.le_of_ble_eq_true rfl⟩) (hk_preV hE (va_recv hE.1 hP (ci := 3) (q0 := 0) rfl rfl) ⟨hP.sub (ws' := [((aa 0), .inr (3, [.int rf, .int (nI (gN g)), .ref (aa 1), .ref (aa 2), .ref (aa 3), .ref (aa 4), .ref (aa 5), .ref (aa 6), .ref (aa 7), .ref (aa 8), .ref (aa 9), .int (nI (gd g)), .ref (aa 10), .int (nI (gc g)), .ref (aa 11), .ref (aa 12), .ref (aa 13)]))]) [0] rfl, (hD.sub (ws' := [((aa 0), .inr (3, [.int rf, .int (nI (gN g)), .ref (aa 1), .ref (aa 2), .ref (aa 3), .ref (aa 4), .ref (aa 5), .ref (aa 6), .ref (aa 7), .ref (aa 8), .ref (aa 9), .int (nI (gd g)), .ref (aa 10), .int (nI (gc g)), .ref (aa 11), .ref (aa 12), .ref (aa 13)]))]) [0] (by decide) rfl).weaken (fun _ _ _ _ => trivial)⟩) rfl rfl hl.1 rfl (lv_room (Nat.le_of_ble_eq_true rfl)) dX3_result_63 ⟨Nat.zero_le _, Nat.zero_le _⟩)) hP hD hS [0] (wc := [((aa 0), .inr (3, [.int rf, .int (nI (gN g)), .ref (aa 1), .ref (aa 2), .ref (aa 3), .ref (aa 4), .ref (aa 5), .ref (aa 6), .ref (aa 7), .ref (aa 8), .ref (aa 9), .int (nI (gd g)), .ref (aa 10), .int (nI (gc g)), .ref (aa 11), .ref (aa 12), .ref (aa 13)]))]) rfl rfl rfl (fun H locs hP hD hS => ?_)
              have hP : va_P D vwCl [((aa 0), .inr (3, [.int (nI 3), .int (nI (gN g)), .ref (aa 1), .ref (aa 2), .ref (aa 3), .ref (aa 4), .ref (aa 5), .ref (aa 6), .ref (aa 7), .ref (aa 8), .ref (aa 9), .int (nI (gd g)), .ref (aa 10), .int (nI (gc g)), .ref (aa 11), .ref (aa 12), .ref (aa 13)])), ((aa 1), .inl (ct 0, 60, .inl (mK g))), ((aa 2), .inl (ct 0, 60, .inl (mL g))), ((aa 3), .inl (ct 0, 5, .inl (mY g))), ((aa 4), .inl (ct 0, 60, .inl (mS g))), ((aa 5), .inl (ct 0, 720, .inl (mP g))), ((aa 6), .inl (ct 0, 5, .inl (mC g))), ((aa 7), .inl (ct 0, 5, .inl (mLa g))), ((aa 8), .inl (ct 0, 5, .inl (mQ g))), ((aa 9), .inl (ct 0, 150, .inl (mT g))), ((aa 10), .inl (ct 0, 24, .inl (mD g))), ((aa 11), .inl (ct 0, 6, .inl (mW g))), ((aa 12), .inl (ct 0, 30, .inl (mX g))), ((aa 13), .inl (ct 0, 30, .inl (mZ g)))] H := hP
              have hD : va_D (hkA [(aa 0), (aa 1), (aa 2), (aa 3), (aa 4), (aa 5), (aa 6), (aa 7), (aa 8), (aa 9), (aa 10), (aa 11), (aa 12), (aa 13)]) [((aa 0), .inr (3, [.int (nI 3), .int (nI (gN g)), .ref (aa 1), .ref (aa 2), .ref (aa 3), .ref (aa 4), .ref (aa 5), .ref (aa 6), .ref (aa 7), .ref (aa 8), .ref (aa 9), .int (nI (gd g)), .ref (aa 10), .int (nI (gc g)), .ref (aa 11), .ref (aa 12), .ref (aa 13)])), ((aa 1), .inl (ct 0, 60, .inl (mK g))), ((aa 2), .inl (ct 0, 60, .inl (mL g))), ((aa 3), .inl (ct 0, 5, .inl (mY g))), ((aa 4), .inl (ct 0, 60, .inl (mS g))), ((aa 5), .inl (ct 0, 720, .inl (mP g))), ((aa 6), .inl (ct 0, 5, .inl (mC g))), ((aa 7), .inl (ct 0, 5, .inl (mLa g))), ((aa 8), .inl (ct 0, 5, .inl (mQ g))), ((aa 9), .inl (ct 0, 150, .inl (mT g))), ((aa 10), .inl (ct 0, 24, .inl (mD g))), ((aa 11), .inl (ct 0, 6, .inl (mW g))), ((aa 12), .inl (ct 0, 30, .inl (mX g))), ((aa 13), .inl (ct 0, 30, .inl (mZ g)))] := hD
              refine hk_top (y := nI 1) (by decide) ?_
              refine hk_eq0N (tgt := 71) hx hb (by omega) dX3_result_66 (by decide) (fun hr9 => ?_) (fun hr0 => ?_)
              · exact absurd hr9 (by decide)
              · refine lv_iconst (v := nI 0) hx hb dX3_result_69 (by decide) ?_
                have hz : opResult g (nI i) (nI j) z = (3, 0, g) := by rw [opResult, if_neg hbn, if_neg hz9, if_pos (by rw [ix, ix, hic, hjc]; exact Int32.not_le.mp h3)]
                rw [hz]
                have hP9 : va_P D vwCl [((aa 0), .inr (3, [.int (nI 3), .int (nI (gN g)), .ref (aa 1), .ref (aa 2), .ref (aa 3), .ref (aa 4), .ref (aa 5), .ref (aa 6), .ref (aa 7), .ref (aa 8), .ref (aa 9), .int (nI (gd g)), .ref (aa 10), .int (nI (gc g)), .ref (aa 11), .ref (aa 12), .ref (aa 13)])), ((aa 1), .inl (ct 0, 60, .inl (mK g))), ((aa 2), .inl (ct 0, 60, .inl (mL g))), ((aa 3), .inl (ct 0, 5, .inl (mY g))), ((aa 4), .inl (ct 0, 60, .inl (mS g))), ((aa 5), .inl (ct 0, 720, .inl (mP g))), ((aa 6), .inl (ct 0, 5, .inl (mC g))), ((aa 7), .inl (ct 0, 5, .inl (mLa g))), ((aa 8), .inl (ct 0, 5, .inl (mQ g))), ((aa 9), .inl (ct 0, 150, .inl (mT g))), ((aa 10), .inl (ct 0, 24, .inl (mD g))), ((aa 11), .inl (ct 0, 6, .inl (mW g))), ((aa 12), .inl (ct 0, 30, .inl (mX g))), ((aa 13), .inl (ct 0, 30, .inl (mZ g)))] H := hP
                exact W.iret (v := nI 0) hx hb hr (fun t ht hW => ⟨rfl, by rw [ht]; exact hP9, by rw [ht]; exact ⟨hS.1, hS.2.1⟩⟩) hS.2.2 dX3_result_70
          · exact absurd hk9 (by decide)
      · exact absurd hk9 (by decide)

set_option maxHeartbeats 4000000 in
set_option maxRecDepth 100000 in
theorem c_X3_rank (l : Launch) (D : va_G) (ct : Nat → ClassId) (sa : Nat → Nat) (aa : Nat → Nat) (g : Sg) (rf : Int32) (i j : Nat) (hI : Inv g) (hi : i < gc g) (hj : j < cW (gC g i)) : Met l yX3_rank wsX3_rank ({ frames := 1, cells := 0, slots := 0, locals := 21 }) (hkPc D ct sa [.ref (aa 0), .int (nI i), .int (nI j)] (fun H => va_P D vwCl (mdW ct aa g rf) H)) (QcRead (nI (rk (cX (gC g i)) (cZ (gC g i)) j 5))) 0 0 (fun _ => False) := by
  refine Met.ofW (cc := cX3_rank) (maxL := 7) (ret := (some .int)) (by decide) rfl ?_
  intro p e s m args below meth c s₁ B hml hv
  obtain ⟨rfl, hE, hP⟩ := hv
  have hx := B.exec
  have hb := B.bytes
  have hr := B.returns
  have hts := atoms_spec (ws := wsX3_rank) B.pre
  have hown : s.vm.findClass RX3 = some m.cls := findClass_of_methodNamed B.named
  have hlocks := B.notSynchronized
  have hin3 : ∀ w ∈ wsX30, w ∈ wsX3_rank := by decide +kernel
  obtain ⟨hN5, hd24, hc6, hSt, hDr, hNs, hCs, hCo⟩ := id hI
  have hl := lv_entry ([.ref (aa 0), .int (nI i), .int (nI j)]) (n := 7) (Nat.le_of_ble_eq_true rfl)
  rw [lg_entry_eq]
  generalize (lg_sl ([.ref (aa 0), .int (nI i), .int (nI j)]) ++ List.replicate (7 - (lg_sl ([.ref (aa 0), .int (nI i), .int (nI j)])).length) Slot.unset).toArray = ls at hl ⊢
  have hl : lv_has ls 7 [(0, .ref (aa 0)), (1, .int (nI i)), (2, .int (nI j))] := hl
  obtain ⟨hw5, hXX, hZZ, hZn⟩ := hCo i
  have hXz : ∀ r, r < cW (gC g i) → ¬ mX g (5 * i + r) = 0 := fun r hr9 => by
    have hX1 := hXX r hr9
    rw [mX_at g i (by omega)]; exact nI_ne0 (by omega) (by omega)
  refine lv_iconst (v := nI 0) hx hb dX3_rank_0 (by decide) ?_
  refine lv_istore_n (lv' := [(3, .int (nI 0)), (0, .ref (aa 0)), (1, .int (nI i)), (2, .int (nI j))]) hx hb dX3_rank_1 rfl hl (by decide) rfl (fun ls hl => ?_)
  refine lv_aload_n hx hb dX3_rank_2 rfl (lv_at hl 1 rfl) ?_
  refine lv_iconst (v := nI 5) hx hb dX3_rank_3 (by decide) ?_
  refine lv_iload_n hx hb dX3_rank_4 rfl (lv_at hl 2 rfl) ?_
  refine hk_mulN hx hb dX3_rank_5 ?_
  refine lv_iload_n hx hb dX3_rank_6 rfl (lv_at hl 3 rfl) ?_
  refine hk_addN hx hb dX3_rank_7 ?_
  refine hk_R (rest := []) (va_Run.run (va_runV (As := [.int (nI ((5 * i) + j))]) (rest := []) ⟨hx, hb, hml, hown, hts⟩ (c_X3_score l D ct sa aa rf (gN g) (gd g) (gc g) (mX g) (mZ g) (5 * i + j) (by omega) (by omega) (hXz j hj)) (cwV 1 hts gX3_rank_X3_score rfl rfl rfl (by decide +kernel) ⟨Nat.le_of_ble_eq_true rfl, Nat.le_of_ble_eq_true rfl⟩) (hk_preV hE (va_recv hE.1 hP (ci := 3) (q0 := 0) rfl rfl) (hP.sub (ws' := [((aa 0), .inr (3, [.int rf, .int (nI (gN g)), .ref (aa 1), .ref (aa 2), .ref (aa 3), .ref (aa 4), .ref (aa 5), .ref (aa 6), .ref (aa 7), .ref (aa 8), .ref (aa 9), .int (nI (gd g)), .ref (aa 10), .int (nI (gc g)), .ref (aa 11), .ref (aa 12), .ref (aa 13)])), ((aa 12), .inl (ct 0, 30, .inl (mX g))), ((aa 13), .inl (ct 0, 30, .inl (mZ g)))]) [0, 12, 13] rfl)) rfl rfl hl.1 rfl (lv_room (Nat.le_of_ble_eq_true rfl)) dX3_rank_8 ⟨Nat.zero_le _, Nat.zero_le _⟩)) ?_
  refine hk_top (y := scr (cX (gC g i)) (cZ (gC g i)) j) (by rw [mX_at g i (by omega), mZ_at g i (by omega), scr]) ?_
  refine lv_istore (lv' := [(4, .int (scr (cX (gC g i)) (cZ (gC g i)) j)), (3, .int (nI 0)), (0, .ref (aa 0)), (1, .int (nI i)), (2, .int (nI j))]) hx hb dX3_rank_11 hl (by decide) rfl (fun ls hl => ?_)
  refine lv_iconst (v := nI 0) hx hb dX3_rank_13 (by decide) ?_
  refine lv_istore (lv' := [(5, .int (nI 0)), (4, .int (scr (cX (gC g i)) (cZ (gC g i)) j)), (3, .int (nI 0)), (0, .ref (aa 0)), (1, .int (nI i)), (2, .int (nI j))]) hx hb dX3_rank_14 hl (by decide) rfl (fun ls hl => ?_)
  have loop : ∀ (k : Nat) (r : Nat), cW (gC g i) < r + k → r ≤ cW (gC g i) → ∀ (ls : Array Slot), lv_has ls 7 [(0, .ref (aa 0)), (1, .int (nI i)), (2, .int (nI j)), (4, .int (scr (cX (gC g i)) (cZ (gC g i)) j)), (3, .int (nI (rk (cX (gC g i)) (cZ (gC g i)) j r))), (5, .int (nI r))] → W p l e (headSpec wsX3_rank ({ frames := 1, cells := 0, slots := 0, locals := 21 })).room s m ([.ref (aa 0), .int (nI i), .int (nI j)] : List Value).toArray below meth c s.heap [] 0 0 (MQ below (QcRead (nI (rk (cX (gC g i)) (cZ (gC g i)) j 5))) ([.ref (aa 0), .int (nI i), .int (nI j)] : List Value).toArray s 0 0 (fun _ => False)) (F0 m 16 ls []) := by
    intro k
    induction k with
    | zero => intro r hk; intros; exact absurd hk (by omega)
    | succ k ih_loop =>
      intro r hk hr9 ls hl
      refine lv_iload hx hb dX3_rank_16 (lv_at hl 5 rfl) ?_
      refine lv_aload_n hx hb dX3_rank_18 rfl (lv_at hl 0 rfl) ?_
      refine va_get (D := D) (ci := 3) (v := .ref (aa 11)) (C := RX3) (T := TX3) (N := 17) hx hb hts hin3 hown hE.1 hP 0 rfl rfl 14 (by decide) (hts (.fieldLink RX3 40 "HomekeysModel" "within" "[I") (by decide +kernel)) (fun _ h9 => h9) rfl dX3_rank_19 ?_
      refine lv_iload_n hx hb dX3_rank_22 rfl (lv_at hl 1 rfl) ?_
      refine hk_iald hx hb hE hP 11 rfl (j := i) (by omega) (by omega) dX3_rank_23 ?_
      refine hk_top (y := nI (cW (gC g i))) rfl ?_
      refine hk_geN (tgt := 87) hx hb (by omega) (by omega) dX3_rank_24 (by decide) (fun hd => ?_) (fun hd => ?_)
      · refine lv_iload_n hx hb dX3_rank_87 rfl (lv_at hl 4 rfl) ?_
        exact W.iret (v := nI (rk (cX (gC g i)) (cZ (gC g i)) j r)) hx hb hr (fun t ht hW => ⟨by rw [(show r = cW (gC g i) by omega), ← rk_up (fun r h => (hZZ r h).2) (5 - cW (gC g i)), show cW (gC g i) + (5 - cW (gC g i)) = 5 by omega], ht⟩) (fun _ h => nomatch h) dX3_rank_88
      · refine lv_iconst (v := nI 5) hx hb dX3_rank_27 (by decide) ?_
        refine lv_iload_n hx hb dX3_rank_28 rfl (lv_at hl 1 rfl) ?_
        refine hk_mulN hx hb dX3_rank_29 ?_
        refine lv_iload hx hb dX3_rank_30 (lv_at hl 5 rfl) ?_
        refine hk_addN hx hb dX3_rank_32 ?_
        refine lv_istore (lv' := [(6, .int (nI ((5 * i) + r))), (0, .ref (aa 0)), (1, .int (nI i)), (2, .int (nI j)), (4, .int (scr (cX (gC g i)) (cZ (gC g i)) j)), (3, .int (nI (rk (cX (gC g i)) (cZ (gC g i)) j r))), (5, .int (nI r))]) hx hb dX3_rank_33 hl (by decide) rfl (fun ls hl => ?_)
        refine lv_iload_n hx hb dX3_rank_35 rfl (lv_at hl 5 rfl) ?_
        refine lv_aload_n hx hb dX3_rank_36 rfl (lv_at hl 1 rfl) ?_
        refine va_get (D := D) (ci := 3) (v := .ref (aa 13)) (C := RX3) (T := TX3) (N := 17) hx hb hts hin3 hown hE.1 hP 0 rfl rfl 16 (by decide) (hts (.fieldLink RX3 46 "HomekeysModel" "ticks" "[I") (by decide +kernel)) (fun _ h9 => h9) rfl dX3_rank_37 ?_
        refine lv_iload hx hb dX3_rank_40 (lv_at hl 0 rfl) ?_
        refine hk_iald hx hb hE hP 13 rfl (j := (5 * i) + r) (by omega) (by omega) dX3_rank_42 ?_
        refine hk_top (y := cZ (gC g i) r) (mZ_at g i (by omega)) ?_
        refine lv_if_le (tgt := 78) hx hb dX3_rank_43 (by decide) (fun h0 => ?_) (fun h0 => ?_)
        · refine lv_iconst (v := nI 0) hx hb dX3_rank_78 (by decide) ?_
          refine hk_addN hx hb dX3_rank_79 ?_
          refine lv_istore_n (lv' := [(3, .int (nI ((rk (cX (gC g i)) (cZ (gC g i)) j r) + 0))), (6, .int (nI ((5 * i) + r))), (0, .ref (aa 0)), (1, .int (nI i)), (2, .int (nI j)), (4, .int (scr (cX (gC g i)) (cZ (gC g i)) j)), (5, .int (nI r))]) hx hb dX3_rank_80 rfl hl (by decide) rfl (fun ls hl => ?_)
          refine lv_iinc (v := nI (r + 1)) (lv' := [(5, .int (nI (r + 1))), (3, .int (nI ((rk (cX (gC g i)) (cZ (gC g i)) j r) + 0))), (6, .int (nI ((5 * i) + r))), (0, .ref (aa 0)), (1, .int (nI i)), (2, .int (nI j)), (4, .int (scr (cX (gC g i)) (cZ (gC g i)) j))]) hx hb dX3_rank_81 hl (k := 6) rfl (nI_add _ _) (by decide) rfl (fun ls hl => ?_)
          refine lv_goto (tgt := 16) hx hb dX3_rank_84 (by decide) ?_
          exact ih_loop (r + 1) (by omega) (by omega) ls (by rw [rk_0 (fun q => absurd q.1 (Int32.not_lt.mpr h0))]; exact lv_sub hl [3, 4, 5, 6, 1, 0] rfl)
        · have h9 := Int32.not_le.mp h0
          refine lv_aload_n hx hb dX3_rank_46 rfl (lv_at hl 1 rfl) ?_
          refine lv_iload hx hb dX3_rank_47 (lv_at hl 0 rfl) ?_
          refine hk_R (rest := [.int (nI (rk (cX (gC g i)) (cZ (gC g i)) j r))]) (va_Run.run (va_runV (As := [.int (nI ((5 * i) + r))]) (rest := [.int (nI (rk (cX (gC g i)) (cZ (gC g i)) j r))]) ⟨hx, hb, hml, hown, hts⟩ (c_X3_score l D ct sa aa rf (gN g) (gd g) (gc g) (mX g) (mZ g) (5 * i + r) (by omega) (by omega) (hXz r hd)) (cwV 1 hts gX3_rank_X3_score rfl rfl rfl (by decide +kernel) ⟨Nat.le_of_ble_eq_true rfl, Nat.le_of_ble_eq_true rfl⟩) (hk_preV hE (va_recv hE.1 hP (ci := 3) (q0 := 0) rfl rfl) (hP.sub (ws' := [((aa 0), .inr (3, [.int rf, .int (nI (gN g)), .ref (aa 1), .ref (aa 2), .ref (aa 3), .ref (aa 4), .ref (aa 5), .ref (aa 6), .ref (aa 7), .ref (aa 8), .ref (aa 9), .int (nI (gd g)), .ref (aa 10), .int (nI (gc g)), .ref (aa 11), .ref (aa 12), .ref (aa 13)])), ((aa 12), .inl (ct 0, 30, .inl (mX g))), ((aa 13), .inl (ct 0, 30, .inl (mZ g)))]) [0, 12, 13] rfl)) rfl rfl hl.1 rfl (lv_room (Nat.le_of_ble_eq_true rfl)) dX3_rank_49 ⟨Nat.zero_le _, Nat.zero_le _⟩)) ?_
          refine hk_top (y := scr (cX (gC g i)) (cZ (gC g i)) r) (by rw [mX_at g i (by omega), mZ_at g i (by omega), scr]) ?_
          refine lv_iload hx hb dX3_rank_52 (lv_at hl 4 rfl) ?_
          refine lv_icmp_lt (tgt := 74) hx hb dX3_rank_54 (by decide) (fun h1 => ?_) (fun h1 => ?_)
          · refine lv_iconst (v := nI 1) hx hb dX3_rank_74 (by decide) ?_
            refine lv_goto (tgt := 79) hx hb dX3_rank_75 (by decide) ?_
            refine hk_addN hx hb dX3_rank_79 ?_
            refine lv_istore_n (lv' := [(3, .int (nI ((rk (cX (gC g i)) (cZ (gC g i)) j r) + 1))), (6, .int (nI ((5 * i) + r))), (0, .ref (aa 0)), (1, .int (nI i)), (2, .int (nI j)), (4, .int (scr (cX (gC g i)) (cZ (gC g i)) j)), (5, .int (nI r))]) hx hb dX3_rank_80 rfl hl (by decide) rfl (fun ls hl => ?_)
            refine lv_iinc (v := nI (r + 1)) (lv' := [(5, .int (nI (r + 1))), (3, .int (nI ((rk (cX (gC g i)) (cZ (gC g i)) j r) + 1))), (6, .int (nI ((5 * i) + r))), (0, .ref (aa 0)), (1, .int (nI i)), (2, .int (nI j)), (4, .int (scr (cX (gC g i)) (cZ (gC g i)) j))]) hx hb dX3_rank_81 hl (k := 6) rfl (nI_add _ _) (by decide) rfl (fun ls hl => ?_)
            refine lv_goto (tgt := 16) hx hb dX3_rank_84 (by decide) ?_
            exact ih_loop (r + 1) (by omega) (by omega) ls (by rw [rk_1 ⟨h9, Or.inl h1⟩]; exact lv_sub hl [3, 4, 5, 6, 1, 0] rfl)
          · refine lv_aload_n hx hb dX3_rank_57 rfl (lv_at hl 1 rfl) ?_
            refine lv_iload hx hb dX3_rank_58 (lv_at hl 0 rfl) ?_
            refine hk_R (rest := [.int (nI (rk (cX (gC g i)) (cZ (gC g i)) j r))]) (va_Run.run (va_runV (As := [.int (nI ((5 * i) + r))]) (rest := [.int (nI (rk (cX (gC g i)) (cZ (gC g i)) j r))]) ⟨hx, hb, hml, hown, hts⟩ (c_X3_score l D ct sa aa rf (gN g) (gd g) (gc g) (mX g) (mZ g) (5 * i + r) (by omega) (by omega) (hXz r hd)) (cwV 1 hts gX3_rank_X3_score rfl rfl rfl (by decide +kernel) ⟨Nat.le_of_ble_eq_true rfl, Nat.le_of_ble_eq_true rfl⟩) (hk_preV hE (va_recv hE.1 hP (ci := 3) (q0 := 0) rfl rfl) (hP.sub (ws' := [((aa 0), .inr (3, [.int rf, .int (nI (gN g)), .ref (aa 1), .ref (aa 2), .ref (aa 3), .ref (aa 4), .ref (aa 5), .ref (aa 6), .ref (aa 7), .ref (aa 8), .ref (aa 9), .int (nI (gd g)), .ref (aa 10), .int (nI (gc g)), .ref (aa 11), .ref (aa 12), .ref (aa 13)])), ((aa 12), .inl (ct 0, 30, .inl (mX g))), ((aa 13), .inl (ct 0, 30, .inl (mZ g)))]) [0, 12, 13] rfl)) rfl rfl hl.1 rfl (lv_room (Nat.le_of_ble_eq_true rfl)) dX3_rank_60 ⟨Nat.zero_le _, Nat.zero_le _⟩)) ?_
            refine hk_top (y := scr (cX (gC g i)) (cZ (gC g i)) r) (by rw [mX_at g i (by omega), mZ_at g i (by omega), scr]) ?_
            refine lv_iload hx hb dX3_rank_63 (lv_at hl 4 rfl) ?_
            refine lv_icmp_ne (tgt := 78) hx hb dX3_rank_65 (by decide) (fun h2 => ?_) (fun h2 => ?_)
            · refine lv_iconst (v := nI 0) hx hb dX3_rank_78 (by decide) ?_
              refine hk_addN hx hb dX3_rank_79 ?_
              refine lv_istore_n (lv' := [(3, .int (nI ((rk (cX (gC g i)) (cZ (gC g i)) j r) + 0))), (6, .int (nI ((5 * i) + r))), (0, .ref (aa 0)), (1, .int (nI i)), (2, .int (nI j)), (4, .int (scr (cX (gC g i)) (cZ (gC g i)) j)), (5, .int (nI r))]) hx hb dX3_rank_80 rfl hl (by decide) rfl (fun ls hl => ?_)
              refine lv_iinc (v := nI (r + 1)) (lv' := [(5, .int (nI (r + 1))), (3, .int (nI ((rk (cX (gC g i)) (cZ (gC g i)) j r) + 0))), (6, .int (nI ((5 * i) + r))), (0, .ref (aa 0)), (1, .int (nI i)), (2, .int (nI j)), (4, .int (scr (cX (gC g i)) (cZ (gC g i)) j))]) hx hb dX3_rank_81 hl (k := 6) rfl (nI_add _ _) (by decide) rfl (fun ls hl => ?_)
              refine lv_goto (tgt := 16) hx hb dX3_rank_84 (by decide) ?_
              exact ih_loop (r + 1) (by omega) (by omega) ls (by rw [rk_0 (fun q => q.2.elim h1 (fun y => h2 y.1))]; exact lv_sub hl [3, 4, 5, 6, 1, 0] rfl)
            · refine lv_iload hx hb dX3_rank_68 (lv_at hl 6 rfl) ?_
              refine lv_iload_n hx hb dX3_rank_70 rfl (lv_at hl 3 rfl) ?_
              refine hk_geN (tgt := 78) hx hb (by omega) (by omega) dX3_rank_71 (by decide) (fun h3 => ?_) (fun h3 => ?_)
              · refine lv_iconst (v := nI 0) hx hb dX3_rank_78 (by decide) ?_
                refine hk_addN hx hb dX3_rank_79 ?_
                refine lv_istore_n (lv' := [(3, .int (nI ((rk (cX (gC g i)) (cZ (gC g i)) j r) + 0))), (6, .int (nI ((5 * i) + r))), (0, .ref (aa 0)), (1, .int (nI i)), (2, .int (nI j)), (4, .int (scr (cX (gC g i)) (cZ (gC g i)) j)), (5, .int (nI r))]) hx hb dX3_rank_80 rfl hl (by decide) rfl (fun ls hl => ?_)
                refine lv_iinc (v := nI (r + 1)) (lv' := [(5, .int (nI (r + 1))), (3, .int (nI ((rk (cX (gC g i)) (cZ (gC g i)) j r) + 0))), (6, .int (nI ((5 * i) + r))), (0, .ref (aa 0)), (1, .int (nI i)), (2, .int (nI j)), (4, .int (scr (cX (gC g i)) (cZ (gC g i)) j))]) hx hb dX3_rank_81 hl (k := 6) rfl (nI_add _ _) (by decide) rfl (fun ls hl => ?_)
                refine lv_goto (tgt := 16) hx hb dX3_rank_84 (by decide) ?_
                exact ih_loop (r + 1) (by omega) (by omega) ls (by rw [rk_0 (fun q => q.2.elim h1 (fun y => absurd y.2 (by omega)))]; exact lv_sub hl [3, 4, 5, 6, 1, 0] rfl)
              · refine lv_iconst (v := nI 1) hx hb dX3_rank_74 (by decide) ?_
                refine lv_goto (tgt := 79) hx hb dX3_rank_75 (by decide) ?_
                refine hk_addN hx hb dX3_rank_79 ?_
                refine lv_istore_n (lv' := [(3, .int (nI ((rk (cX (gC g i)) (cZ (gC g i)) j r) + 1))), (6, .int (nI ((5 * i) + r))), (0, .ref (aa 0)), (1, .int (nI i)), (2, .int (nI j)), (4, .int (scr (cX (gC g i)) (cZ (gC g i)) j)), (5, .int (nI r))]) hx hb dX3_rank_80 rfl hl (by decide) rfl (fun ls hl => ?_)
                refine lv_iinc (v := nI (r + 1)) (lv' := [(5, .int (nI (r + 1))), (3, .int (nI ((rk (cX (gC g i)) (cZ (gC g i)) j r) + 1))), (6, .int (nI ((5 * i) + r))), (0, .ref (aa 0)), (1, .int (nI i)), (2, .int (nI j)), (4, .int (scr (cX (gC g i)) (cZ (gC g i)) j))]) hx hb dX3_rank_81 hl (k := 6) rfl (nI_add _ _) (by decide) rfl (fun ls hl => ?_)
                refine lv_goto (tgt := 16) hx hb dX3_rank_84 (by decide) ?_
                exact ih_loop (r + 1) (by omega) (by omega) ls (by rw [rk_1 ⟨h9, Or.inr ⟨h2, h3⟩⟩]; exact lv_sub hl [3, 4, 5, 6, 1, 0] rfl)
  exact loop (cW (gC g i) + 1) 0 (by omega) (by omega) ls (lv_sub hl [3, 4, 5, 1, 2, 0] rfl)

set_option maxHeartbeats 4000000 in
set_option maxRecDepth 100000 in
theorem c_X3_of (l : Launch) (D : va_G) (ct : Nat → ClassId) (sa : Nat → Nat) (aa : Nat → Nat) (g : Sg) (rf : Int32) (x : Int32) (y : Int32) (z : Int32) (hI : Inv g) : Met l yX3_of wsX3_of ({ frames := 2, cells := 0, slots := 0, locals := 47 }) (hkPc D ct sa [.ref (aa 0), .int x, .int y, .int z] (fun H => va_P D vwCl (mdW ct aa g rf) H ∧ va_D (fun _ => True) (mdW ct aa g rf))) (hkQ (some (.int (opOf g x y z).2.1)) D (mdW ct aa (opOf g x y z).2.2 (opOf g x y z).1) [(aa 0), (aa 1), (aa 2), (aa 3), (aa 4), (aa 5), (aa 6), (aa 7), (aa 8), (aa 9), (aa 10), (aa 11), (aa 12), (aa 13)]) 0 0 (hkA [(aa 0), (aa 1), (aa 2), (aa 3), (aa 4), (aa 5), (aa 6), (aa 7), (aa 8), (aa 9), (aa 10), (aa 11), (aa 12), (aa 13)]) := by
  refine Met.ofW (cc := cX3_of) (maxL := 5) (ret := (some .int)) (by decide) rfl ?_
  intro p e s m args below meth c s₁ B hml hv
  obtain ⟨rfl, hE, hp⟩ := hv
  have hx := B.exec
  have hb := B.bytes
  have hr := B.returns
  have hts := atoms_spec (ws := wsX3_of) B.pre
  have hown : s.vm.findClass RX3 = some m.cls := findClass_of_methodNamed B.named
  have hlocks := B.notSynchronized
  have hin3 : ∀ w ∈ wsX30, w ∈ wsX3_of := by decide +kernel
  obtain ⟨hP, hD0⟩ := hp
  have hD : va_D (hkA [(aa 0), (aa 1), (aa 2), (aa 3), (aa 4), (aa 5), (aa 6), (aa 7), (aa 8), (aa 9), (aa 10), (aa 11), (aa 12), (aa 13)]) [((aa 0), .inr (3, [.int rf, .int (nI (gN g)), .ref (aa 1), .ref (aa 2), .ref (aa 3), .ref (aa 4), .ref (aa 5), .ref (aa 6), .ref (aa 7), .ref (aa 8), .ref (aa 9), .int (nI (gd g)), .ref (aa 10), .int (nI (gc g)), .ref (aa 11), .ref (aa 12), .ref (aa 13)])), ((aa 1), .inl (ct 0, 60, .inl (mK g))), ((aa 2), .inl (ct 0, 60, .inl (mL g))), ((aa 3), .inl (ct 0, 5, .inl (mY g))), ((aa 4), .inl (ct 0, 60, .inl (mS g))), ((aa 5), .inl (ct 0, 720, .inl (mP g))), ((aa 6), .inl (ct 0, 5, .inl (mC g))), ((aa 7), .inl (ct 0, 5, .inl (mLa g))), ((aa 8), .inl (ct 0, 5, .inl (mQ g))), ((aa 9), .inl (ct 0, 150, .inl (mT g))), ((aa 10), .inl (ct 0, 24, .inl (mD g))), ((aa 11), .inl (ct 0, 6, .inl (mW g))), ((aa 12), .inl (ct 0, 30, .inl (mX g))), ((aa 13), .inl (ct 0, 30, .inl (mZ g)))] := hD0.weaken (fun k q hk _ => hk_mem hk)
  have hS : va_S (hkA [(aa 0), (aa 1), (aa 2), (aa 3), (aa 4), (aa 5), (aa 6), (aa 7), (aa 8), (aa 9), (aa 10), (aa 11), (aa 12), (aa 13)]) s.heap s.heap [] := va_S.rf
  obtain ⟨hN5, hd24, hc6, hSt, hDr, hNs, hCs, hCo⟩ := id hI
  have hl := lv_entry ([.ref (aa 0), .int x, .int y, .int z]) (n := 5) (Nat.le_of_ble_eq_true rfl)
  rw [lg_entry_eq]
  generalize (lg_sl ([.ref (aa 0), .int x, .int y, .int z]) ++ List.replicate (5 - (lg_sl ([.ref (aa 0), .int x, .int y, .int z])).length) Slot.unset).toArray = ls at hl ⊢
  have hl : lv_has ls 5 [(0, .ref (aa 0)), (1, .int x), (2, .int y), (3, .int z)] := hl
  refine lv_aload_n hx hb dX3_of_0 rfl (lv_at hl 0 rfl) ?_
  refine lv_aload_n hx hb dX3_of_1 rfl (lv_at hl 0 rfl) ?_
  refine lv_iload_n hx hb dX3_of_2 rfl (lv_at hl 1 rfl) ?_
  refine lv_iload_n hx hb dX3_of_3 rfl (lv_at hl 2 rfl) ?_
  refine hk_R (rest := [.ref (aa 0)]) (va_Run.run (va_runV (As := [.int x, .int y]) (rest := [.ref (aa 0)]) ⟨hx, hb, hml, hown, hts⟩ (c_X3_isIn l D ct sa aa g rf x y hI) (cwV 2 hts gX3_of_X3_isIn rfl rfl rfl (by decide +kernel) ⟨Nat.le_of_ble_eq_true rfl, Nat.le_of_ble_eq_true rfl⟩) (hk_preV hE (va_recv hE.1 hP (ci := 3) (q0 := 0) rfl rfl) hP) rfl rfl hl.1 rfl (lv_room (Nat.le_of_ble_eq_true rfl)) dX3_of_4 ⟨Nat.zero_le _, Nat.zero_le _⟩)) ?_
  by_cases hbb : bd x (gc g) ∨ bd y (cW (gC g (ix x)))
  · refine hk_top (y := nI 0) (if_pos hbb) ?_
    refine hk_ne0N (tgt := 14) hx hb (by omega) dX3_of_7 (by decide) (fun hk8 => ?_) (fun hk9 => ?_)
    · exact absurd hk8 (by decide)
    · refine lv_iconst (v := nI 1) hx hb dX3_of_10 (by decide) ?_
      refine lv_goto (tgt := 28) hx hb dX3_of_11 (by decide) ?_
      refine hk_M (rest := []) (va_Run.run (va_runV (As := [.int (nI 1)]) (rest := []) ⟨hx, hb, hml, hown, hts⟩ (c_X3_refused l D ct sa aa g rf (nI 1)) (cwV 1 hts gX3_of_X3_refused rfl rfl rfl (by decide +kernel) ⟨Nat.le_of_ble_eq_true rfl, Nat.le_of_ble_eq_true rfl⟩) (hk_preV hE (va_recv hE.1 hP (ci := 3) (q0 := 0) rfl rfl) ⟨hP.sub (ws' := [((aa 0), .inr (3, [.int rf, .int (nI (gN g)), .ref (aa 1), .ref (aa 2), .ref (aa 3), .ref (aa 4), .ref (aa 5), .ref (aa 6), .ref (aa 7), .ref (aa 8), .ref (aa 9), .int (nI (gd g)), .ref (aa 10), .int (nI (gc g)), .ref (aa 11), .ref (aa 12), .ref (aa 13)]))]) [0] rfl, (hD.sub (ws' := [((aa 0), .inr (3, [.int rf, .int (nI (gN g)), .ref (aa 1), .ref (aa 2), .ref (aa 3), .ref (aa 4), .ref (aa 5), .ref (aa 6), .ref (aa 7), .ref (aa 8), .ref (aa 9), .int (nI (gd g)), .ref (aa 10), .int (nI (gc g)), .ref (aa 11), .ref (aa 12), .ref (aa 13)]))]) [0] (by decide) rfl).weaken (fun _ _ _ _ => trivial)⟩) rfl rfl hl.1 rfl (lv_room (Nat.le_of_ble_eq_true rfl)) dX3_of_28 ⟨Nat.zero_le _, Nat.zero_le _⟩)) hP hD hS [0] (wc := [((aa 0), .inr (3, [.int rf, .int (nI (gN g)), .ref (aa 1), .ref (aa 2), .ref (aa 3), .ref (aa 4), .ref (aa 5), .ref (aa 6), .ref (aa 7), .ref (aa 8), .ref (aa 9), .int (nI (gd g)), .ref (aa 10), .int (nI (gc g)), .ref (aa 11), .ref (aa 12), .ref (aa 13)]))]) rfl rfl rfl (fun H locs hP hD hS => ?_)
      have hP : va_P D vwCl [((aa 0), .inr (3, [.int (nI 1), .int (nI (gN g)), .ref (aa 1), .ref (aa 2), .ref (aa 3), .ref (aa 4), .ref (aa 5), .ref (aa 6), .ref (aa 7), .ref (aa 8), .ref (aa 9), .int (nI (gd g)), .ref (aa 10), .int (nI (gc g)), .ref (aa 11), .ref (aa 12), .ref (aa 13)])), ((aa 1), .inl (ct 0, 60, .inl (mK g))), ((aa 2), .inl (ct 0, 60, .inl (mL g))), ((aa 3), .inl (ct 0, 5, .inl (mY g))), ((aa 4), .inl (ct 0, 60, .inl (mS g))), ((aa 5), .inl (ct 0, 720, .inl (mP g))), ((aa 6), .inl (ct 0, 5, .inl (mC g))), ((aa 7), .inl (ct 0, 5, .inl (mLa g))), ((aa 8), .inl (ct 0, 5, .inl (mQ g))), ((aa 9), .inl (ct 0, 150, .inl (mT g))), ((aa 10), .inl (ct 0, 24, .inl (mD g))), ((aa 11), .inl (ct 0, 6, .inl (mW g))), ((aa 12), .inl (ct 0, 30, .inl (mX g))), ((aa 13), .inl (ct 0, 30, .inl (mZ g)))] H := hP
      have hD : va_D (hkA [(aa 0), (aa 1), (aa 2), (aa 3), (aa 4), (aa 5), (aa 6), (aa 7), (aa 8), (aa 9), (aa 10), (aa 11), (aa 12), (aa 13)]) [((aa 0), .inr (3, [.int (nI 1), .int (nI (gN g)), .ref (aa 1), .ref (aa 2), .ref (aa 3), .ref (aa 4), .ref (aa 5), .ref (aa 6), .ref (aa 7), .ref (aa 8), .ref (aa 9), .int (nI (gd g)), .ref (aa 10), .int (nI (gc g)), .ref (aa 11), .ref (aa 12), .ref (aa 13)])), ((aa 1), .inl (ct 0, 60, .inl (mK g))), ((aa 2), .inl (ct 0, 60, .inl (mL g))), ((aa 3), .inl (ct 0, 5, .inl (mY g))), ((aa 4), .inl (ct 0, 60, .inl (mS g))), ((aa 5), .inl (ct 0, 720, .inl (mP g))), ((aa 6), .inl (ct 0, 5, .inl (mC g))), ((aa 7), .inl (ct 0, 5, .inl (mLa g))), ((aa 8), .inl (ct 0, 5, .inl (mQ g))), ((aa 9), .inl (ct 0, 150, .inl (mT g))), ((aa 10), .inl (ct 0, 24, .inl (mD g))), ((aa 11), .inl (ct 0, 6, .inl (mW g))), ((aa 12), .inl (ct 0, 30, .inl (mX g))), ((aa 13), .inl (ct 0, 30, .inl (mZ g)))] := hD
      refine hk_top (y := nI 1) (by decide) ?_
      refine hk_eq0N (tgt := 36) hx hb (by omega) dX3_of_31 (by decide) (fun hr9 => ?_) (fun hr0 => ?_)
      · exact absurd hr9 (by decide)
      · refine lv_iconst (v := nI 0) hx hb dX3_of_34 (by decide) ?_
        have hz : opOf g x y z = (1, 0, g) := by rw [opOf, if_pos hbb]
        rw [hz]
        have hP9 : va_P D vwCl [((aa 0), .inr (3, [.int (nI 1), .int (nI (gN g)), .ref (aa 1), .ref (aa 2), .ref (aa 3), .ref (aa 4), .ref (aa 5), .ref (aa 6), .ref (aa 7), .ref (aa 8), .ref (aa 9), .int (nI (gd g)), .ref (aa 10), .int (nI (gc g)), .ref (aa 11), .ref (aa 12), .ref (aa 13)])), ((aa 1), .inl (ct 0, 60, .inl (mK g))), ((aa 2), .inl (ct 0, 60, .inl (mL g))), ((aa 3), .inl (ct 0, 5, .inl (mY g))), ((aa 4), .inl (ct 0, 60, .inl (mS g))), ((aa 5), .inl (ct 0, 720, .inl (mP g))), ((aa 6), .inl (ct 0, 5, .inl (mC g))), ((aa 7), .inl (ct 0, 5, .inl (mLa g))), ((aa 8), .inl (ct 0, 5, .inl (mQ g))), ((aa 9), .inl (ct 0, 150, .inl (mT g))), ((aa 10), .inl (ct 0, 24, .inl (mD g))), ((aa 11), .inl (ct 0, 6, .inl (mW g))), ((aa 12), .inl (ct 0, 30, .inl (mX g))), ((aa 13), .inl (ct 0, 30, .inl (mZ g)))] H := hP
        exact W.iret (v := nI 0) hx hb hr (fun t ht hW => ⟨rfl, by rw [ht]; exact hP9, by rw [ht]; exact ⟨hS.1, hS.2.1⟩⟩) hS.2.2 dX3_of_35
  · refine hk_top (y := nI 1) (if_neg hbb) ?_
    have hbx : ¬ bd x (gc g) := fun q => hbb (Or.inl q)
    have hby9 : ¬ bd y (cW (gC g (ix x))) := fun q => hbb (Or.inr q)
    refine hk_ne0N (tgt := 14) hx hb (by omega) dX3_of_7 (by decide) (fun hk8 => ?_) (fun hk9 => ?_)
    · obtain ⟨i, hi, rfl⟩ := bd_of (by omega) hbx
      have hic : (nI i).toNatClampNeg = i := nI_clamp (by omega)
      obtain ⟨hw5, hXX, hZZ, hZn⟩ := hCo i
      have hby : ¬ bd y (cW (gC g i)) := by rw [ix, hic] at hby9; exact hby9
      obtain ⟨j, hj, rfl⟩ := bd_of (by omega) hby
      have hjc : (nI j).toNatClampNeg = j := nI_clamp (by omega)
      have hX1 := hXX j hj
      have hbn : ¬ (bd (nI i) (gc g) ∨ bd (nI j) (cW (gC g (ix (nI i))))) := by rw [ix, hic]; exact fun q => q.elim (bd_nI hi (by omega)) (bd_nI hj (by omega))
      have hXz : ¬ mX g (5 * i + j) = 0 := by rw [mX_at g i (by omega)]; exact nI_ne0 (by omega) (by omega)
      refine lv_iload_n hx hb dX3_of_14 rfl (lv_at hl 3 rfl) ?_
      refine lv_iconst (v := nI 0) hx hb dX3_of_15 (by decide) ?_
      refine lv_iconst (v := nI 3) hx hb dX3_of_16 (by decide) ?_
      refine hk_R (rest := [.ref (aa 0)]) (va_Run.run (va_runS (As := [.int z, .int (nI 0), .int (nI 3)]) (rest := [.ref (aa 0)]) ⟨hx, hb, hml, hown, hts⟩ (c_X3_is l D ct sa z (nI 0) (nI 3)) (va_cwS 3 hts gX3_of_X3_is rfl rfl rfl (by decide +kernel) ⟨Nat.le_of_ble_eq_true rfl, Nat.le_of_ble_eq_true rfl⟩) (hk_preS hE trivial) rfl rfl hl.1 rfl (lv_room (Nat.le_of_ble_eq_true rfl)) dX3_of_17 ⟨Nat.zero_le _, Nat.zero_le _⟩)) ?_
      by_cases hz9 : z < 0 ∨ nI 3 < z
      · refine hk_top (y := nI 0) (hkIs_0 hz9) ?_
        refine hk_ne0N (tgt := 27) hx hb (by omega) dX3_of_20 (by decide) (fun hk8 => ?_) (fun hk9 => ?_)
        · exact absurd hk8 (by decide)
        · refine lv_iconst (v := nI 2) hx hb dX3_of_23 (by decide) ?_
          refine lv_goto (tgt := 28) hx hb dX3_of_24 (by decide) ?_
          refine hk_M (rest := []) (va_Run.run (va_runV (As := [.int (nI 2)]) (rest := []) ⟨hx, hb, hml, hown, hts⟩ (c_X3_refused l D ct sa aa g rf (nI 2)) (cwV 1 hts gX3_of_X3_refused rfl rfl rfl (by decide +kernel) ⟨Nat.le_of_ble_eq_true rfl, Nat.le_of_ble_eq_true rfl⟩) (hk_preV hE (va_recv hE.1 hP (ci := 3) (q0 := 0) rfl rfl) ⟨hP.sub (ws' := [((aa 0), .inr (3, [.int rf, .int (nI (gN g)), .ref (aa 1), .ref (aa 2), .ref (aa 3), .ref (aa 4), .ref (aa 5), .ref (aa 6), .ref (aa 7), .ref (aa 8), .ref (aa 9), .int (nI (gd g)), .ref (aa 10), .int (nI (gc g)), .ref (aa 11), .ref (aa 12), .ref (aa 13)]))]) [0] rfl, (hD.sub (ws' := [((aa 0), .inr (3, [.int rf, .int (nI (gN g)), .ref (aa 1), .ref (aa 2), .ref (aa 3), .ref (aa 4), .ref (aa 5), .ref (aa 6), .ref (aa 7), .ref (aa 8), .ref (aa 9), .int (nI (gd g)), .ref (aa 10), .int (nI (gc g)), .ref (aa 11), .ref (aa 12), .ref (aa 13)]))]) [0] (by decide) rfl).weaken (fun _ _ _ _ => trivial)⟩) rfl rfl hl.1 rfl (lv_room (Nat.le_of_ble_eq_true rfl)) dX3_of_28 ⟨Nat.zero_le _, Nat.zero_le _⟩)) hP hD hS [0] (wc := [((aa 0), .inr (3, [.int rf, .int (nI (gN g)), .ref (aa 1), .ref (aa 2), .ref (aa 3), .ref (aa 4), .ref (aa 5), .ref (aa 6), .ref (aa 7), .ref (aa 8), .ref (aa 9), .int (nI (gd g)), .ref (aa 10), .int (nI (gc g)), .ref (aa 11), .ref (aa 12), .ref (aa 13)]))]) rfl rfl rfl (fun H locs hP hD hS => ?_)
          have hP : va_P D vwCl [((aa 0), .inr (3, [.int (nI 2), .int (nI (gN g)), .ref (aa 1), .ref (aa 2), .ref (aa 3), .ref (aa 4), .ref (aa 5), .ref (aa 6), .ref (aa 7), .ref (aa 8), .ref (aa 9), .int (nI (gd g)), .ref (aa 10), .int (nI (gc g)), .ref (aa 11), .ref (aa 12), .ref (aa 13)])), ((aa 1), .inl (ct 0, 60, .inl (mK g))), ((aa 2), .inl (ct 0, 60, .inl (mL g))), ((aa 3), .inl (ct 0, 5, .inl (mY g))), ((aa 4), .inl (ct 0, 60, .inl (mS g))), ((aa 5), .inl (ct 0, 720, .inl (mP g))), ((aa 6), .inl (ct 0, 5, .inl (mC g))), ((aa 7), .inl (ct 0, 5, .inl (mLa g))), ((aa 8), .inl (ct 0, 5, .inl (mQ g))), ((aa 9), .inl (ct 0, 150, .inl (mT g))), ((aa 10), .inl (ct 0, 24, .inl (mD g))), ((aa 11), .inl (ct 0, 6, .inl (mW g))), ((aa 12), .inl (ct 0, 30, .inl (mX g))), ((aa 13), .inl (ct 0, 30, .inl (mZ g)))] H := hP
          have hD : va_D (hkA [(aa 0), (aa 1), (aa 2), (aa 3), (aa 4), (aa 5), (aa 6), (aa 7), (aa 8), (aa 9), (aa 10), (aa 11), (aa 12), (aa 13)]) [((aa 0), .inr (3, [.int (nI 2), .int (nI (gN g)), .ref (aa 1), .ref (aa 2), .ref (aa 3), .ref (aa 4), .ref (aa 5), .ref (aa 6), .ref (aa 7), .ref (aa 8), .ref (aa 9), .int (nI (gd g)), .ref (aa 10), .int (nI (gc g)), .ref (aa 11), .ref (aa 12), .ref (aa 13)])), ((aa 1), .inl (ct 0, 60, .inl (mK g))), ((aa 2), .inl (ct 0, 60, .inl (mL g))), ((aa 3), .inl (ct 0, 5, .inl (mY g))), ((aa 4), .inl (ct 0, 60, .inl (mS g))), ((aa 5), .inl (ct 0, 720, .inl (mP g))), ((aa 6), .inl (ct 0, 5, .inl (mC g))), ((aa 7), .inl (ct 0, 5, .inl (mLa g))), ((aa 8), .inl (ct 0, 5, .inl (mQ g))), ((aa 9), .inl (ct 0, 150, .inl (mT g))), ((aa 10), .inl (ct 0, 24, .inl (mD g))), ((aa 11), .inl (ct 0, 6, .inl (mW g))), ((aa 12), .inl (ct 0, 30, .inl (mX g))), ((aa 13), .inl (ct 0, 30, .inl (mZ g)))] := hD
          refine hk_top (y := nI 1) (by decide) ?_
          refine hk_eq0N (tgt := 36) hx hb (by omega) dX3_of_31 (by decide) (fun hr9 => ?_) (fun hr0 => ?_)
          · exact absurd hr9 (by decide)
          · refine lv_iconst (v := nI 0) hx hb dX3_of_34 (by decide) ?_
            have hz : opOf g (nI i) (nI j) z = (2, 0, g) := by rw [opOf, if_neg hbn, if_pos hz9]
            rw [hz]
            have hP9 : va_P D vwCl [((aa 0), .inr (3, [.int (nI 2), .int (nI (gN g)), .ref (aa 1), .ref (aa 2), .ref (aa 3), .ref (aa 4), .ref (aa 5), .ref (aa 6), .ref (aa 7), .ref (aa 8), .ref (aa 9), .int (nI (gd g)), .ref (aa 10), .int (nI (gc g)), .ref (aa 11), .ref (aa 12), .ref (aa 13)])), ((aa 1), .inl (ct 0, 60, .inl (mK g))), ((aa 2), .inl (ct 0, 60, .inl (mL g))), ((aa 3), .inl (ct 0, 5, .inl (mY g))), ((aa 4), .inl (ct 0, 60, .inl (mS g))), ((aa 5), .inl (ct 0, 720, .inl (mP g))), ((aa 6), .inl (ct 0, 5, .inl (mC g))), ((aa 7), .inl (ct 0, 5, .inl (mLa g))), ((aa 8), .inl (ct 0, 5, .inl (mQ g))), ((aa 9), .inl (ct 0, 150, .inl (mT g))), ((aa 10), .inl (ct 0, 24, .inl (mD g))), ((aa 11), .inl (ct 0, 6, .inl (mW g))), ((aa 12), .inl (ct 0, 30, .inl (mX g))), ((aa 13), .inl (ct 0, 30, .inl (mZ g)))] H := hP
            exact W.iret (v := nI 0) hx hb hr (fun t ht hW => ⟨rfl, by rw [ht]; exact hP9, by rw [ht]; exact ⟨hS.1, hS.2.1⟩⟩) hS.2.2 dX3_of_35
      · refine hk_top (y := nI 1) (hkIs_1 hz9) ?_
        refine hk_ne0N (tgt := 27) hx hb (by omega) dX3_of_20 (by decide) (fun hk8 => ?_) (fun hk9 => ?_)
        · refine lv_iconst (v := nI 0) hx hb dX3_of_27 (by decide) ?_
          refine hk_M (rest := []) (va_Run.run (va_runV (As := [.int (nI 0)]) (rest := []) ⟨hx, hb, hml, hown, hts⟩ (c_X3_refused l D ct sa aa g rf (nI 0)) (cwV 1 hts gX3_of_X3_refused rfl rfl rfl (by decide +kernel) ⟨Nat.le_of_ble_eq_true rfl, Nat.le_of_ble_eq_true rfl⟩) (hk_preV hE (va_recv hE.1 hP (ci := 3) (q0 := 0) rfl rfl) ⟨hP.sub (ws' := [((aa 0), .inr (3, [.int rf, .int (nI (gN g)), .ref (aa 1), .ref (aa 2), .ref (aa 3), .ref (aa 4), .ref (aa 5), .ref (aa 6), .ref (aa 7), .ref (aa 8), .ref (aa 9), .int (nI (gd g)), .ref (aa 10), .int (nI (gc g)), .ref (aa 11), .ref (aa 12), .ref (aa 13)]))]) [0] rfl, (hD.sub (ws' := [((aa 0), .inr (3, [.int rf, .int (nI (gN g)), .ref (aa 1), .ref (aa 2), .ref (aa 3), .ref (aa 4), .ref (aa 5), .ref (aa 6), .ref (aa 7), .ref (aa 8), .ref (aa 9), .int (nI (gd g)), .ref (aa 10), .int (nI (gc g)), .ref (aa 11), .ref (aa 12), .ref (aa 13)]))]) [0] (by decide) rfl).weaken (fun _ _ _ _ => trivial)⟩) rfl rfl hl.1 rfl (lv_room (Nat.le_of_ble_eq_true rfl)) dX3_of_28 ⟨Nat.zero_le _, Nat.zero_le _⟩)) hP hD hS [0] (wc := [((aa 0), .inr (3, [.int rf, .int (nI (gN g)), .ref (aa 1), .ref (aa 2), .ref (aa 3), .ref (aa 4), .ref (aa 5), .ref (aa 6), .ref (aa 7), .ref (aa 8), .ref (aa 9), .int (nI (gd g)), .ref (aa 10), .int (nI (gc g)), .ref (aa 11), .ref (aa 12), .ref (aa 13)]))]) rfl rfl rfl (fun H locs hP hD hS => ?_)
          have hP : va_P D vwCl [((aa 0), .inr (3, [.int (nI 0), .int (nI (gN g)), .ref (aa 1), .ref (aa 2), .ref (aa 3), .ref (aa 4), .ref (aa 5), .ref (aa 6), .ref (aa 7), .ref (aa 8), .ref (aa 9), .int (nI (gd g)), .ref (aa 10), .int (nI (gc g)), .ref (aa 11), .ref (aa 12), .ref (aa 13)])), ((aa 1), .inl (ct 0, 60, .inl (mK g))), ((aa 2), .inl (ct 0, 60, .inl (mL g))), ((aa 3), .inl (ct 0, 5, .inl (mY g))), ((aa 4), .inl (ct 0, 60, .inl (mS g))), ((aa 5), .inl (ct 0, 720, .inl (mP g))), ((aa 6), .inl (ct 0, 5, .inl (mC g))), ((aa 7), .inl (ct 0, 5, .inl (mLa g))), ((aa 8), .inl (ct 0, 5, .inl (mQ g))), ((aa 9), .inl (ct 0, 150, .inl (mT g))), ((aa 10), .inl (ct 0, 24, .inl (mD g))), ((aa 11), .inl (ct 0, 6, .inl (mW g))), ((aa 12), .inl (ct 0, 30, .inl (mX g))), ((aa 13), .inl (ct 0, 30, .inl (mZ g)))] H := hP
          have hD : va_D (hkA [(aa 0), (aa 1), (aa 2), (aa 3), (aa 4), (aa 5), (aa 6), (aa 7), (aa 8), (aa 9), (aa 10), (aa 11), (aa 12), (aa 13)]) [((aa 0), .inr (3, [.int (nI 0), .int (nI (gN g)), .ref (aa 1), .ref (aa 2), .ref (aa 3), .ref (aa 4), .ref (aa 5), .ref (aa 6), .ref (aa 7), .ref (aa 8), .ref (aa 9), .int (nI (gd g)), .ref (aa 10), .int (nI (gc g)), .ref (aa 11), .ref (aa 12), .ref (aa 13)])), ((aa 1), .inl (ct 0, 60, .inl (mK g))), ((aa 2), .inl (ct 0, 60, .inl (mL g))), ((aa 3), .inl (ct 0, 5, .inl (mY g))), ((aa 4), .inl (ct 0, 60, .inl (mS g))), ((aa 5), .inl (ct 0, 720, .inl (mP g))), ((aa 6), .inl (ct 0, 5, .inl (mC g))), ((aa 7), .inl (ct 0, 5, .inl (mLa g))), ((aa 8), .inl (ct 0, 5, .inl (mQ g))), ((aa 9), .inl (ct 0, 150, .inl (mT g))), ((aa 10), .inl (ct 0, 24, .inl (mD g))), ((aa 11), .inl (ct 0, 6, .inl (mW g))), ((aa 12), .inl (ct 0, 30, .inl (mX g))), ((aa 13), .inl (ct 0, 30, .inl (mZ g)))] := hD
          refine hk_top (y := nI 0) (by decide) ?_
          refine hk_eq0N (tgt := 36) hx hb (by omega) dX3_of_31 (by decide) (fun hr9 => ?_) (fun hr0 => ?_)
          · refine lv_iconst (v := nI 5) hx hb dX3_of_36 (by decide) ?_
            refine lv_iload_n hx hb dX3_of_37 rfl (lv_at hl 1 rfl) ?_
            refine hk_mulN hx hb dX3_of_38 ?_
            refine lv_iload_n hx hb dX3_of_39 rfl (lv_at hl 2 rfl) ?_
            refine hk_addN hx hb dX3_of_40 ?_
            refine lv_istore (lv' := [(4, .int (nI ((5 * i) + j))), (0, .ref (aa 0)), (1, .int (nI i)), (2, .int (nI j)), (3, .int z)]) hx hb dX3_of_41 hl (by decide) rfl (fun ls hl => ?_)
            refine lv_iload_n hx hb dX3_of_43 rfl (lv_at hl 4 rfl) ?_
            refine lv_if_ne (tgt := 55) hx hb dX3_of_44 (by decide) (fun q0 => ?_) (fun q0 => ?_)
            · refine lv_aload_n hx hb dX3_of_55 rfl (lv_at hl 1 rfl) ?_
              refine va_get (D := D) (ci := 3) (v := .ref (aa 13)) (C := RX3) (T := TX3) (N := 17) hx hb hts hin3 hown hE.1 hP 0 rfl rfl 16 (by decide) (hts (.fieldLink RX3 46 "HomekeysModel" "ticks" "[I") (by decide +kernel)) (fun _ h9 => h9) rfl dX3_of_56 ?_
              refine lv_iload hx hb dX3_of_59 (lv_at hl 0 rfl) ?_
              refine hk_iald hx hb hE hP 13 rfl (j := (5 * i) + j) (by omega) (by omega) dX3_of_61 ?_
              refine hk_top (y := cZ (gC g i) j) (mZ_at g i (by omega)) ?_
              refine lv_if_ne (tgt := 69) hx hb dX3_of_62 (by decide) (fun q1 => ?_) (fun q1 => ?_)
              · refine lv_iload_n hx hb dX3_of_69 rfl (lv_at hl 4 rfl) ?_
                refine lv_iconst (v := nI 1) hx hb dX3_of_70 (by decide) ?_
                refine lv_icmp_ne (tgt := 84) hx hb dX3_of_71 (by decide) (fun q2 => ?_) (fun q2 => ?_)
                · refine lv_iload_n hx hb dX3_of_84 rfl (lv_at hl 4 rfl) ?_
                  refine lv_iconst (v := nI 2) hx hb dX3_of_85 (by decide) ?_
                  refine lv_icmp_ne (tgt := 98) hx hb dX3_of_86 (by decide) (fun q3 => ?_) (fun q3 => ?_)
                  · refine lv_aload_n hx hb dX3_of_98 rfl (lv_at hl 1 rfl) ?_
                    refine lv_iload_n hx hb dX3_of_99 rfl (lv_at hl 2 rfl) ?_
                    refine lv_iload_n hx hb dX3_of_100 rfl (lv_at hl 3 rfl) ?_
                    refine hk_R (rest := []) (va_Run.run (va_runV (As := [.int (nI i), .int (nI j)]) (rest := []) ⟨hx, hb, hml, hown, hts⟩ (c_X3_rank l D ct sa aa g (nI 0) i j hI hi hj) (cwV 2 hts gX3_of_X3_rank rfl rfl rfl (by decide +kernel) ⟨Nat.le_of_ble_eq_true rfl, Nat.le_of_ble_eq_true rfl⟩) (hk_preV hE (va_recv hE.1 hP (ci := 3) (q0 := 0) rfl rfl) hP) rfl rfl hl.1 rfl (lv_room (Nat.le_of_ble_eq_true rfl)) dX3_of_101 ⟨Nat.zero_le _, Nat.zero_le _⟩)) ?_
                    have hz : opOf g (nI i) (nI j) z = (0, nI (rk (cX (gC g i)) (cZ (gC g i)) j 5), g) := by rw [opOf, if_neg hbn, if_neg hz9, ix, ix, hic, hjc, if_neg q0, if_pos (hk_pos0 (hZn j) q1), hkTo, if_neg (show ¬ z = 1 from q2), if_neg (show ¬ z = 2 from q3)]
                    rw [hz]
                    have hP9 : va_P D vwCl [((aa 0), .inr (3, [.int (nI 0), .int (nI (gN g)), .ref (aa 1), .ref (aa 2), .ref (aa 3), .ref (aa 4), .ref (aa 5), .ref (aa 6), .ref (aa 7), .ref (aa 8), .ref (aa 9), .int (nI (gd g)), .ref (aa 10), .int (nI (gc g)), .ref (aa 11), .ref (aa 12), .ref (aa 13)])), ((aa 1), .inl (ct 0, 60, .inl (mK g))), ((aa 2), .inl (ct 0, 60, .inl (mL g))), ((aa 3), .inl (ct 0, 5, .inl (mY g))), ((aa 4), .inl (ct 0, 60, .inl (mS g))), ((aa 5), .inl (ct 0, 720, .inl (mP g))), ((aa 6), .inl (ct 0, 5, .inl (mC g))), ((aa 7), .inl (ct 0, 5, .inl (mLa g))), ((aa 8), .inl (ct 0, 5, .inl (mQ g))), ((aa 9), .inl (ct 0, 150, .inl (mT g))), ((aa 10), .inl (ct 0, 24, .inl (mD g))), ((aa 11), .inl (ct 0, 6, .inl (mW g))), ((aa 12), .inl (ct 0, 30, .inl (mX g))), ((aa 13), .inl (ct 0, 30, .inl (mZ g)))] H := hP
                    exact W.iret (v := nI (rk (cX (gC g i)) (cZ (gC g i)) j 5)) hx hb hr (fun t ht hW => ⟨rfl, by rw [ht]; exact hP9, by rw [ht]; exact ⟨hS.1, hS.2.1⟩⟩) hS.2.2 dX3_of_104
                  · refine lv_aload_n hx hb dX3_of_89 rfl (lv_at hl 1 rfl) ?_
                    refine lv_iload hx hb dX3_of_90 (lv_at hl 0 rfl) ?_
                    refine hk_R (rest := []) (va_Run.run (va_runV (As := [.int (nI ((5 * i) + j))]) (rest := []) ⟨hx, hb, hml, hown, hts⟩ (c_X3_score l D ct sa aa (nI 0) (gN g) (gd g) (gc g) (mX g) (mZ g) (5 * i + j) (by omega) (by omega) hXz) (cwV 1 hts gX3_of_X3_score rfl rfl rfl (by decide +kernel) ⟨Nat.le_of_ble_eq_true rfl, Nat.le_of_ble_eq_true rfl⟩) (hk_preV hE (va_recv hE.1 hP (ci := 3) (q0 := 0) rfl rfl) (hP.sub (ws' := [((aa 0), .inr (3, [.int (nI 0), .int (nI (gN g)), .ref (aa 1), .ref (aa 2), .ref (aa 3), .ref (aa 4), .ref (aa 5), .ref (aa 6), .ref (aa 7), .ref (aa 8), .ref (aa 9), .int (nI (gd g)), .ref (aa 10), .int (nI (gc g)), .ref (aa 11), .ref (aa 12), .ref (aa 13)])), ((aa 12), .inl (ct 0, 30, .inl (mX g))), ((aa 13), .inl (ct 0, 30, .inl (mZ g)))]) [0, 12, 13] rfl)) rfl rfl hl.1 rfl (lv_room (Nat.le_of_ble_eq_true rfl)) dX3_of_92 ⟨Nat.zero_le _, Nat.zero_le _⟩)) ?_
                    refine hk_top (y := scr (cX (gC g i)) (cZ (gC g i)) j) (by rw [mX_at g i (by omega), mZ_at g i (by omega), scr]) ?_
                    refine lv_goto (tgt := 104) hx hb dX3_of_95 (by decide) ?_
                    have hz : opOf g (nI i) (nI j) z = (0, scr (cX (gC g i)) (cZ (gC g i)) j, g) := by rw [opOf, if_neg hbn, if_neg hz9, ix, ix, hic, hjc, if_neg q0, if_pos (hk_pos0 (hZn j) q1), hkTo, if_neg (show ¬ z = 1 from q2), if_pos (show z = 2 from q3)]
                    rw [hz]
                    have hP9 : va_P D vwCl [((aa 0), .inr (3, [.int (nI 0), .int (nI (gN g)), .ref (aa 1), .ref (aa 2), .ref (aa 3), .ref (aa 4), .ref (aa 5), .ref (aa 6), .ref (aa 7), .ref (aa 8), .ref (aa 9), .int (nI (gd g)), .ref (aa 10), .int (nI (gc g)), .ref (aa 11), .ref (aa 12), .ref (aa 13)])), ((aa 1), .inl (ct 0, 60, .inl (mK g))), ((aa 2), .inl (ct 0, 60, .inl (mL g))), ((aa 3), .inl (ct 0, 5, .inl (mY g))), ((aa 4), .inl (ct 0, 60, .inl (mS g))), ((aa 5), .inl (ct 0, 720, .inl (mP g))), ((aa 6), .inl (ct 0, 5, .inl (mC g))), ((aa 7), .inl (ct 0, 5, .inl (mLa g))), ((aa 8), .inl (ct 0, 5, .inl (mQ g))), ((aa 9), .inl (ct 0, 150, .inl (mT g))), ((aa 10), .inl (ct 0, 24, .inl (mD g))), ((aa 11), .inl (ct 0, 6, .inl (mW g))), ((aa 12), .inl (ct 0, 30, .inl (mX g))), ((aa 13), .inl (ct 0, 30, .inl (mZ g)))] H := hP
                    exact W.iret (v := scr (cX (gC g i)) (cZ (gC g i)) j) hx hb hr (fun t ht hW => ⟨rfl, by rw [ht]; exact hP9, by rw [ht]; exact ⟨hS.1, hS.2.1⟩⟩) hS.2.2 dX3_of_104
                · refine lv_aload_n hx hb dX3_of_74 rfl (lv_at hl 1 rfl) ?_
                  refine va_get (D := D) (ci := 3) (v := .ref (aa 13)) (C := RX3) (T := TX3) (N := 17) hx hb hts hin3 hown hE.1 hP 0 rfl rfl 16 (by decide) (hts (.fieldLink RX3 46 "HomekeysModel" "ticks" "[I") (by decide +kernel)) (fun _ h9 => h9) rfl dX3_of_75 ?_
                  refine lv_iload hx hb dX3_of_78 (lv_at hl 0 rfl) ?_
                  refine hk_iald hx hb hE hP 13 rfl (j := (5 * i) + j) (by omega) (by omega) dX3_of_80 ?_
                  refine hk_top (y := cZ (gC g i) j) (mZ_at g i (by omega)) ?_
                  refine lv_goto (tgt := 104) hx hb dX3_of_81 (by decide) ?_
                  have hz : opOf g (nI i) (nI j) z = (0, cZ (gC g i) j, g) := by rw [opOf, if_neg hbn, if_neg hz9, ix, ix, hic, hjc, if_neg q0, if_pos (hk_pos0 (hZn j) q1), hkTo, if_pos (show z = 1 from q2)]
                  rw [hz]
                  have hP9 : va_P D vwCl [((aa 0), .inr (3, [.int (nI 0), .int (nI (gN g)), .ref (aa 1), .ref (aa 2), .ref (aa 3), .ref (aa 4), .ref (aa 5), .ref (aa 6), .ref (aa 7), .ref (aa 8), .ref (aa 9), .int (nI (gd g)), .ref (aa 10), .int (nI (gc g)), .ref (aa 11), .ref (aa 12), .ref (aa 13)])), ((aa 1), .inl (ct 0, 60, .inl (mK g))), ((aa 2), .inl (ct 0, 60, .inl (mL g))), ((aa 3), .inl (ct 0, 5, .inl (mY g))), ((aa 4), .inl (ct 0, 60, .inl (mS g))), ((aa 5), .inl (ct 0, 720, .inl (mP g))), ((aa 6), .inl (ct 0, 5, .inl (mC g))), ((aa 7), .inl (ct 0, 5, .inl (mLa g))), ((aa 8), .inl (ct 0, 5, .inl (mQ g))), ((aa 9), .inl (ct 0, 150, .inl (mT g))), ((aa 10), .inl (ct 0, 24, .inl (mD g))), ((aa 11), .inl (ct 0, 6, .inl (mW g))), ((aa 12), .inl (ct 0, 30, .inl (mX g))), ((aa 13), .inl (ct 0, 30, .inl (mZ g)))] H := hP
                  exact W.iret (v := cZ (gC g i) j) hx hb hr (fun t ht hW => ⟨rfl, by rw [ht]; exact hP9, by rw [ht]; exact ⟨hS.1, hS.2.1⟩⟩) hS.2.2 dX3_of_104
              · refine lv_iconst (v := (-1)) hx hb dX3_of_65 (by decide) ?_
                refine lv_goto (tgt := 104) hx hb dX3_of_66 (by decide) ?_
                have hz : opOf g (nI i) (nI j) z = (0, -1, g) := by rw [opOf, if_neg hbn, if_neg hz9, ix, ix, hic, hjc, if_neg q0, if_neg (by rw [q1]; decide)]
                rw [hz]
                have hP9 : va_P D vwCl [((aa 0), .inr (3, [.int (nI 0), .int (nI (gN g)), .ref (aa 1), .ref (aa 2), .ref (aa 3), .ref (aa 4), .ref (aa 5), .ref (aa 6), .ref (aa 7), .ref (aa 8), .ref (aa 9), .int (nI (gd g)), .ref (aa 10), .int (nI (gc g)), .ref (aa 11), .ref (aa 12), .ref (aa 13)])), ((aa 1), .inl (ct 0, 60, .inl (mK g))), ((aa 2), .inl (ct 0, 60, .inl (mL g))), ((aa 3), .inl (ct 0, 5, .inl (mY g))), ((aa 4), .inl (ct 0, 60, .inl (mS g))), ((aa 5), .inl (ct 0, 720, .inl (mP g))), ((aa 6), .inl (ct 0, 5, .inl (mC g))), ((aa 7), .inl (ct 0, 5, .inl (mLa g))), ((aa 8), .inl (ct 0, 5, .inl (mQ g))), ((aa 9), .inl (ct 0, 150, .inl (mT g))), ((aa 10), .inl (ct 0, 24, .inl (mD g))), ((aa 11), .inl (ct 0, 6, .inl (mW g))), ((aa 12), .inl (ct 0, 30, .inl (mX g))), ((aa 13), .inl (ct 0, 30, .inl (mZ g)))] H := hP
                exact W.iret (v := (-1)) hx hb hr (fun t ht hW => ⟨rfl, by rw [ht]; exact hP9, by rw [ht]; exact ⟨hS.1, hS.2.1⟩⟩) hS.2.2 dX3_of_104
            · refine lv_aload_n hx hb dX3_of_47 rfl (lv_at hl 1 rfl) ?_
              refine va_get (D := D) (ci := 3) (v := .ref (aa 12)) (C := RX3) (T := TX3) (N := 17) hx hb hts hin3 hown hE.1 hP 0 rfl rfl 15 (by decide) (hts (.fieldLink RX3 43 "HomekeysModel" "texts" "[I") (by decide +kernel)) (fun _ h9 => h9) rfl dX3_of_48 ?_
              refine lv_iload hx hb dX3_of_51 (lv_at hl 0 rfl) ?_
              refine hk_iald hx hb hE hP 12 rfl (j := (5 * i) + j) (by omega) (by omega) dX3_of_53 ?_
              refine hk_top (y := nI (cX (gC g i) j)) (mX_at g i (by omega)) ?_
              have hz : opOf g (nI i) (nI j) z = (0, nI (cX (gC g i) j), g) := by rw [opOf, if_neg hbn, if_neg hz9, ix, ix, hic, hjc, if_pos q0]
              rw [hz]
              have hP9 : va_P D vwCl [((aa 0), .inr (3, [.int (nI 0), .int (nI (gN g)), .ref (aa 1), .ref (aa 2), .ref (aa 3), .ref (aa 4), .ref (aa 5), .ref (aa 6), .ref (aa 7), .ref (aa 8), .ref (aa 9), .int (nI (gd g)), .ref (aa 10), .int (nI (gc g)), .ref (aa 11), .ref (aa 12), .ref (aa 13)])), ((aa 1), .inl (ct 0, 60, .inl (mK g))), ((aa 2), .inl (ct 0, 60, .inl (mL g))), ((aa 3), .inl (ct 0, 5, .inl (mY g))), ((aa 4), .inl (ct 0, 60, .inl (mS g))), ((aa 5), .inl (ct 0, 720, .inl (mP g))), ((aa 6), .inl (ct 0, 5, .inl (mC g))), ((aa 7), .inl (ct 0, 5, .inl (mLa g))), ((aa 8), .inl (ct 0, 5, .inl (mQ g))), ((aa 9), .inl (ct 0, 150, .inl (mT g))), ((aa 10), .inl (ct 0, 24, .inl (mD g))), ((aa 11), .inl (ct 0, 6, .inl (mW g))), ((aa 12), .inl (ct 0, 30, .inl (mX g))), ((aa 13), .inl (ct 0, 30, .inl (mZ g)))] H := hP
              exact W.iret (v := nI (cX (gC g i) j)) hx hb hr (fun t ht hW => ⟨rfl, by rw [ht]; exact hP9, by rw [ht]; exact ⟨hS.1, hS.2.1⟩⟩) hS.2.2 dX3_of_54
          · exact absurd hr0 (by decide)
        · exact absurd hk9 (by decide)
    · exact absurd hk9 (by decide)

set_option maxHeartbeats 4000000 in
set_option maxRecDepth 100000 in
theorem c_X3_ranked (l : Launch) (D : va_G) (ct : Nat → ClassId) (sa : Nat → Nat) (aa : Nat → Nat) (g : Sg) (rf : Int32) (x : Int32) (y : Int32) (hI : Inv g) : Met l yX3_ranked wsX3_ranked ({ frames := 2, cells := 0, slots := 0, locals := 47 }) (hkPc D ct sa [.ref (aa 0), .int x, .int y] (fun H => va_P D vwCl (mdW ct aa g rf) H ∧ va_D (fun _ => True) (mdW ct aa g rf))) (hkQ (some (.int (opRanked g x y).2.1)) D (mdW ct aa (opRanked g x y).2.2 (opRanked g x y).1) [(aa 0), (aa 1), (aa 2), (aa 3), (aa 4), (aa 5), (aa 6), (aa 7), (aa 8), (aa 9), (aa 10), (aa 11), (aa 12), (aa 13)]) 0 0 (hkA [(aa 0), (aa 1), (aa 2), (aa 3), (aa 4), (aa 5), (aa 6), (aa 7), (aa 8), (aa 9), (aa 10), (aa 11), (aa 12), (aa 13)]) := by
  refine Met.ofW (cc := cX3_ranked) (maxL := 5) (ret := (some .int)) (by decide) rfl ?_
  intro p e s m args below meth c s₁ B hml hv
  obtain ⟨rfl, hE, hp⟩ := hv
  have hx := B.exec
  have hb := B.bytes
  have hr := B.returns
  have hts := atoms_spec (ws := wsX3_ranked) B.pre
  have hown : s.vm.findClass RX3 = some m.cls := findClass_of_methodNamed B.named
  have hlocks := B.notSynchronized
  have hin3 : ∀ w ∈ wsX30, w ∈ wsX3_ranked := by decide +kernel
  obtain ⟨hP, hD0⟩ := hp
  have hD : va_D (hkA [(aa 0), (aa 1), (aa 2), (aa 3), (aa 4), (aa 5), (aa 6), (aa 7), (aa 8), (aa 9), (aa 10), (aa 11), (aa 12), (aa 13)]) [((aa 0), .inr (3, [.int rf, .int (nI (gN g)), .ref (aa 1), .ref (aa 2), .ref (aa 3), .ref (aa 4), .ref (aa 5), .ref (aa 6), .ref (aa 7), .ref (aa 8), .ref (aa 9), .int (nI (gd g)), .ref (aa 10), .int (nI (gc g)), .ref (aa 11), .ref (aa 12), .ref (aa 13)])), ((aa 1), .inl (ct 0, 60, .inl (mK g))), ((aa 2), .inl (ct 0, 60, .inl (mL g))), ((aa 3), .inl (ct 0, 5, .inl (mY g))), ((aa 4), .inl (ct 0, 60, .inl (mS g))), ((aa 5), .inl (ct 0, 720, .inl (mP g))), ((aa 6), .inl (ct 0, 5, .inl (mC g))), ((aa 7), .inl (ct 0, 5, .inl (mLa g))), ((aa 8), .inl (ct 0, 5, .inl (mQ g))), ((aa 9), .inl (ct 0, 150, .inl (mT g))), ((aa 10), .inl (ct 0, 24, .inl (mD g))), ((aa 11), .inl (ct 0, 6, .inl (mW g))), ((aa 12), .inl (ct 0, 30, .inl (mX g))), ((aa 13), .inl (ct 0, 30, .inl (mZ g)))] := hD0.weaken (fun k q hk _ => hk_mem hk)
  have hS : va_S (hkA [(aa 0), (aa 1), (aa 2), (aa 3), (aa 4), (aa 5), (aa 6), (aa 7), (aa 8), (aa 9), (aa 10), (aa 11), (aa 12), (aa 13)]) s.heap s.heap [] := va_S.rf
  obtain ⟨hN5, hd24, hc6, hSt, hDr, hNs, hCs, hCo⟩ := id hI
  have hl := lv_entry ([.ref (aa 0), .int x, .int y]) (n := 5) (Nat.le_of_ble_eq_true rfl)
  rw [lg_entry_eq]
  generalize (lg_sl ([.ref (aa 0), .int x, .int y]) ++ List.replicate (5 - (lg_sl ([.ref (aa 0), .int x, .int y])).length) Slot.unset).toArray = ls at hl ⊢
  have hl : lv_has ls 5 [(0, .ref (aa 0)), (1, .int x), (2, .int y)] := hl
  refine lv_aload_n hx hb dX3_ranked_0 rfl (lv_at hl 0 rfl) ?_
  refine lv_iload_n hx hb dX3_ranked_1 rfl (lv_at hl 1 rfl) ?_
  refine lv_iconst (v := nI 0) hx hb dX3_ranked_2 (by decide) ?_
  refine lv_aload_n hx hb dX3_ranked_3 rfl (lv_at hl 0 rfl) ?_
  refine va_get (D := D) (ci := 3) (v := .int (nI (gc g))) (C := RX3) (T := TX3) (N := 17) hx hb hts hin3 hown hE.1 hP 0 rfl rfl 13 (by decide) (hts (.fieldLink RX3 95 "HomekeysModel" "contests" "I") (by decide +kernel)) (fun _ h9 => h9) rfl dX3_ranked_4 ?_
  refine lv_iconst (v := nI 1) hx hb dX3_ranked_7 (by decide) ?_
  refine lv_isub hx hb dX3_ranked_8 ?_
  refine hk_R (rest := [.ref (aa 0)]) (va_Run.run (va_runS (As := [.int x, .int (nI 0), .int ((nI (gc g)) - (nI 1))]) (rest := [.ref (aa 0)]) ⟨hx, hb, hml, hown, hts⟩ (c_X3_is l D ct sa x (nI 0) (nI (gc g) - nI 1)) (va_cwS 3 hts gX3_ranked_X3_is rfl rfl rfl (by decide +kernel) ⟨Nat.le_of_ble_eq_true rfl, Nat.le_of_ble_eq_true rfl⟩) (hk_preS hE trivial) rfl rfl hl.1 rfl (lv_room (Nat.le_of_ble_eq_true rfl)) dX3_ranked_9 ⟨Nat.zero_le _, Nat.zero_le _⟩)) ?_
  refine hk_top (y := nb x (gc g)) (is_nb x (by omega)) ?_
  by_cases hbx : bd x (gc g)
  · refine hk_top (y := nI 0) (if_pos hbx) ?_
    refine hk_eq0N (tgt := 23) hx hb (by omega) dX3_ranked_12 (by decide) (fun hk8 => ?_) (fun hk9 => ?_)
    · refine lv_iconst (v := nI 1) hx hb dX3_ranked_23 (by decide) ?_
      refine hk_M (rest := []) (va_Run.run (va_runV (As := [.int (nI 1)]) (rest := []) ⟨hx, hb, hml, hown, hts⟩ (c_X3_refused l D ct sa aa g rf (nI 1)) (cwV 1 hts gX3_ranked_X3_refused rfl rfl rfl (by decide +kernel) ⟨Nat.le_of_ble_eq_true rfl, Nat.le_of_ble_eq_true rfl⟩) (hk_preV hE (va_recv hE.1 hP (ci := 3) (q0 := 0) rfl rfl) ⟨hP.sub (ws' := [((aa 0), .inr (3, [.int rf, .int (nI (gN g)), .ref (aa 1), .ref (aa 2), .ref (aa 3), .ref (aa 4), .ref (aa 5), .ref (aa 6), .ref (aa 7), .ref (aa 8), .ref (aa 9), .int (nI (gd g)), .ref (aa 10), .int (nI (gc g)), .ref (aa 11), .ref (aa 12), .ref (aa 13)]))]) [0] rfl, (hD.sub (ws' := [((aa 0), .inr (3, [.int rf, .int (nI (gN g)), .ref (aa 1), .ref (aa 2), .ref (aa 3), .ref (aa 4), .ref (aa 5), .ref (aa 6), .ref (aa 7), .ref (aa 8), .ref (aa 9), .int (nI (gd g)), .ref (aa 10), .int (nI (gc g)), .ref (aa 11), .ref (aa 12), .ref (aa 13)]))]) [0] (by decide) rfl).weaken (fun _ _ _ _ => trivial)⟩) rfl rfl hl.1 rfl (lv_room (Nat.le_of_ble_eq_true rfl)) dX3_ranked_24 ⟨Nat.zero_le _, Nat.zero_le _⟩)) hP hD hS [0] (wc := [((aa 0), .inr (3, [.int rf, .int (nI (gN g)), .ref (aa 1), .ref (aa 2), .ref (aa 3), .ref (aa 4), .ref (aa 5), .ref (aa 6), .ref (aa 7), .ref (aa 8), .ref (aa 9), .int (nI (gd g)), .ref (aa 10), .int (nI (gc g)), .ref (aa 11), .ref (aa 12), .ref (aa 13)]))]) rfl rfl rfl (fun H locs hP hD hS => ?_)
      have hP : va_P D vwCl [((aa 0), .inr (3, [.int (nI 1), .int (nI (gN g)), .ref (aa 1), .ref (aa 2), .ref (aa 3), .ref (aa 4), .ref (aa 5), .ref (aa 6), .ref (aa 7), .ref (aa 8), .ref (aa 9), .int (nI (gd g)), .ref (aa 10), .int (nI (gc g)), .ref (aa 11), .ref (aa 12), .ref (aa 13)])), ((aa 1), .inl (ct 0, 60, .inl (mK g))), ((aa 2), .inl (ct 0, 60, .inl (mL g))), ((aa 3), .inl (ct 0, 5, .inl (mY g))), ((aa 4), .inl (ct 0, 60, .inl (mS g))), ((aa 5), .inl (ct 0, 720, .inl (mP g))), ((aa 6), .inl (ct 0, 5, .inl (mC g))), ((aa 7), .inl (ct 0, 5, .inl (mLa g))), ((aa 8), .inl (ct 0, 5, .inl (mQ g))), ((aa 9), .inl (ct 0, 150, .inl (mT g))), ((aa 10), .inl (ct 0, 24, .inl (mD g))), ((aa 11), .inl (ct 0, 6, .inl (mW g))), ((aa 12), .inl (ct 0, 30, .inl (mX g))), ((aa 13), .inl (ct 0, 30, .inl (mZ g)))] H := hP
      have hD : va_D (hkA [(aa 0), (aa 1), (aa 2), (aa 3), (aa 4), (aa 5), (aa 6), (aa 7), (aa 8), (aa 9), (aa 10), (aa 11), (aa 12), (aa 13)]) [((aa 0), .inr (3, [.int (nI 1), .int (nI (gN g)), .ref (aa 1), .ref (aa 2), .ref (aa 3), .ref (aa 4), .ref (aa 5), .ref (aa 6), .ref (aa 7), .ref (aa 8), .ref (aa 9), .int (nI (gd g)), .ref (aa 10), .int (nI (gc g)), .ref (aa 11), .ref (aa 12), .ref (aa 13)])), ((aa 1), .inl (ct 0, 60, .inl (mK g))), ((aa 2), .inl (ct 0, 60, .inl (mL g))), ((aa 3), .inl (ct 0, 5, .inl (mY g))), ((aa 4), .inl (ct 0, 60, .inl (mS g))), ((aa 5), .inl (ct 0, 720, .inl (mP g))), ((aa 6), .inl (ct 0, 5, .inl (mC g))), ((aa 7), .inl (ct 0, 5, .inl (mLa g))), ((aa 8), .inl (ct 0, 5, .inl (mQ g))), ((aa 9), .inl (ct 0, 150, .inl (mT g))), ((aa 10), .inl (ct 0, 24, .inl (mD g))), ((aa 11), .inl (ct 0, 6, .inl (mW g))), ((aa 12), .inl (ct 0, 30, .inl (mX g))), ((aa 13), .inl (ct 0, 30, .inl (mZ g)))] := hD
      refine hk_top (y := nI 1) (by decide) ?_
      refine hk_eq0N (tgt := 32) hx hb (by omega) dX3_ranked_27 (by decide) (fun hr9 => ?_) (fun hr0 => ?_)
      · exact absurd hr9 (by decide)
      · refine lv_iconst (v := nI 0) hx hb dX3_ranked_30 (by decide) ?_
        have hz : opRanked g x y = (1, 0, g) := by rw [opRanked, if_pos (Or.inl hbx)]
        rw [hz]
        have hP9 : va_P D vwCl [((aa 0), .inr (3, [.int (nI 1), .int (nI (gN g)), .ref (aa 1), .ref (aa 2), .ref (aa 3), .ref (aa 4), .ref (aa 5), .ref (aa 6), .ref (aa 7), .ref (aa 8), .ref (aa 9), .int (nI (gd g)), .ref (aa 10), .int (nI (gc g)), .ref (aa 11), .ref (aa 12), .ref (aa 13)])), ((aa 1), .inl (ct 0, 60, .inl (mK g))), ((aa 2), .inl (ct 0, 60, .inl (mL g))), ((aa 3), .inl (ct 0, 5, .inl (mY g))), ((aa 4), .inl (ct 0, 60, .inl (mS g))), ((aa 5), .inl (ct 0, 720, .inl (mP g))), ((aa 6), .inl (ct 0, 5, .inl (mC g))), ((aa 7), .inl (ct 0, 5, .inl (mLa g))), ((aa 8), .inl (ct 0, 5, .inl (mQ g))), ((aa 9), .inl (ct 0, 150, .inl (mT g))), ((aa 10), .inl (ct 0, 24, .inl (mD g))), ((aa 11), .inl (ct 0, 6, .inl (mW g))), ((aa 12), .inl (ct 0, 30, .inl (mX g))), ((aa 13), .inl (ct 0, 30, .inl (mZ g)))] H := hP
        exact W.iret (v := nI 0) hx hb hr (fun t ht hW => ⟨rfl, by rw [ht]; exact hP9, by rw [ht]; exact ⟨hS.1, hS.2.1⟩⟩) hS.2.2 dX3_ranked_31
    · exact absurd hk9 (by decide)
  · refine hk_top (y := nI 1) (if_neg hbx) ?_
    refine hk_eq0N (tgt := 23) hx hb (by omega) dX3_ranked_12 (by decide) (fun hk8 => ?_) (fun hk9 => ?_)
    · exact absurd hk8 (by decide)
    · refine lv_iload_n hx hb dX3_ranked_15 rfl (lv_at hl 2 rfl) ?_
      refine lv_if_lt (tgt := 23) hx hb dX3_ranked_16 (by decide) (fun h1 => ?_) (fun h1 => ?_)
      · refine lv_iconst (v := nI 1) hx hb dX3_ranked_23 (by decide) ?_
        refine hk_M (rest := []) (va_Run.run (va_runV (As := [.int (nI 1)]) (rest := []) ⟨hx, hb, hml, hown, hts⟩ (c_X3_refused l D ct sa aa g rf (nI 1)) (cwV 1 hts gX3_ranked_X3_refused rfl rfl rfl (by decide +kernel) ⟨Nat.le_of_ble_eq_true rfl, Nat.le_of_ble_eq_true rfl⟩) (hk_preV hE (va_recv hE.1 hP (ci := 3) (q0 := 0) rfl rfl) ⟨hP.sub (ws' := [((aa 0), .inr (3, [.int rf, .int (nI (gN g)), .ref (aa 1), .ref (aa 2), .ref (aa 3), .ref (aa 4), .ref (aa 5), .ref (aa 6), .ref (aa 7), .ref (aa 8), .ref (aa 9), .int (nI (gd g)), .ref (aa 10), .int (nI (gc g)), .ref (aa 11), .ref (aa 12), .ref (aa 13)]))]) [0] rfl, (hD.sub (ws' := [((aa 0), .inr (3, [.int rf, .int (nI (gN g)), .ref (aa 1), .ref (aa 2), .ref (aa 3), .ref (aa 4), .ref (aa 5), .ref (aa 6), .ref (aa 7), .ref (aa 8), .ref (aa 9), .int (nI (gd g)), .ref (aa 10), .int (nI (gc g)), .ref (aa 11), .ref (aa 12), .ref (aa 13)]))]) [0] (by decide) rfl).weaken (fun _ _ _ _ => trivial)⟩) rfl rfl hl.1 rfl (lv_room (Nat.le_of_ble_eq_true rfl)) dX3_ranked_24 ⟨Nat.zero_le _, Nat.zero_le _⟩)) hP hD hS [0] (wc := [((aa 0), .inr (3, [.int rf, .int (nI (gN g)), .ref (aa 1), .ref (aa 2), .ref (aa 3), .ref (aa 4), .ref (aa 5), .ref (aa 6), .ref (aa 7), .ref (aa 8), .ref (aa 9), .int (nI (gd g)), .ref (aa 10), .int (nI (gc g)), .ref (aa 11), .ref (aa 12), .ref (aa 13)]))]) rfl rfl rfl (fun H locs hP hD hS => ?_)
        have hP : va_P D vwCl [((aa 0), .inr (3, [.int (nI 1), .int (nI (gN g)), .ref (aa 1), .ref (aa 2), .ref (aa 3), .ref (aa 4), .ref (aa 5), .ref (aa 6), .ref (aa 7), .ref (aa 8), .ref (aa 9), .int (nI (gd g)), .ref (aa 10), .int (nI (gc g)), .ref (aa 11), .ref (aa 12), .ref (aa 13)])), ((aa 1), .inl (ct 0, 60, .inl (mK g))), ((aa 2), .inl (ct 0, 60, .inl (mL g))), ((aa 3), .inl (ct 0, 5, .inl (mY g))), ((aa 4), .inl (ct 0, 60, .inl (mS g))), ((aa 5), .inl (ct 0, 720, .inl (mP g))), ((aa 6), .inl (ct 0, 5, .inl (mC g))), ((aa 7), .inl (ct 0, 5, .inl (mLa g))), ((aa 8), .inl (ct 0, 5, .inl (mQ g))), ((aa 9), .inl (ct 0, 150, .inl (mT g))), ((aa 10), .inl (ct 0, 24, .inl (mD g))), ((aa 11), .inl (ct 0, 6, .inl (mW g))), ((aa 12), .inl (ct 0, 30, .inl (mX g))), ((aa 13), .inl (ct 0, 30, .inl (mZ g)))] H := hP
        have hD : va_D (hkA [(aa 0), (aa 1), (aa 2), (aa 3), (aa 4), (aa 5), (aa 6), (aa 7), (aa 8), (aa 9), (aa 10), (aa 11), (aa 12), (aa 13)]) [((aa 0), .inr (3, [.int (nI 1), .int (nI (gN g)), .ref (aa 1), .ref (aa 2), .ref (aa 3), .ref (aa 4), .ref (aa 5), .ref (aa 6), .ref (aa 7), .ref (aa 8), .ref (aa 9), .int (nI (gd g)), .ref (aa 10), .int (nI (gc g)), .ref (aa 11), .ref (aa 12), .ref (aa 13)])), ((aa 1), .inl (ct 0, 60, .inl (mK g))), ((aa 2), .inl (ct 0, 60, .inl (mL g))), ((aa 3), .inl (ct 0, 5, .inl (mY g))), ((aa 4), .inl (ct 0, 60, .inl (mS g))), ((aa 5), .inl (ct 0, 720, .inl (mP g))), ((aa 6), .inl (ct 0, 5, .inl (mC g))), ((aa 7), .inl (ct 0, 5, .inl (mLa g))), ((aa 8), .inl (ct 0, 5, .inl (mQ g))), ((aa 9), .inl (ct 0, 150, .inl (mT g))), ((aa 10), .inl (ct 0, 24, .inl (mD g))), ((aa 11), .inl (ct 0, 6, .inl (mW g))), ((aa 12), .inl (ct 0, 30, .inl (mX g))), ((aa 13), .inl (ct 0, 30, .inl (mZ g)))] := hD
        refine hk_top (y := nI 1) (by decide) ?_
        refine hk_eq0N (tgt := 32) hx hb (by omega) dX3_ranked_27 (by decide) (fun hr9 => ?_) (fun hr0 => ?_)
        · exact absurd hr9 (by decide)
        · refine lv_iconst (v := nI 0) hx hb dX3_ranked_30 (by decide) ?_
          have hz : opRanked g x y = (1, 0, g) := by rw [opRanked, if_pos (Or.inr h1)]
          rw [hz]
          have hP9 : va_P D vwCl [((aa 0), .inr (3, [.int (nI 1), .int (nI (gN g)), .ref (aa 1), .ref (aa 2), .ref (aa 3), .ref (aa 4), .ref (aa 5), .ref (aa 6), .ref (aa 7), .ref (aa 8), .ref (aa 9), .int (nI (gd g)), .ref (aa 10), .int (nI (gc g)), .ref (aa 11), .ref (aa 12), .ref (aa 13)])), ((aa 1), .inl (ct 0, 60, .inl (mK g))), ((aa 2), .inl (ct 0, 60, .inl (mL g))), ((aa 3), .inl (ct 0, 5, .inl (mY g))), ((aa 4), .inl (ct 0, 60, .inl (mS g))), ((aa 5), .inl (ct 0, 720, .inl (mP g))), ((aa 6), .inl (ct 0, 5, .inl (mC g))), ((aa 7), .inl (ct 0, 5, .inl (mLa g))), ((aa 8), .inl (ct 0, 5, .inl (mQ g))), ((aa 9), .inl (ct 0, 150, .inl (mT g))), ((aa 10), .inl (ct 0, 24, .inl (mD g))), ((aa 11), .inl (ct 0, 6, .inl (mW g))), ((aa 12), .inl (ct 0, 30, .inl (mX g))), ((aa 13), .inl (ct 0, 30, .inl (mZ g)))] H := hP
          exact W.iret (v := nI 0) hx hb hr (fun t ht hW => ⟨rfl, by rw [ht]; exact hP9, by rw [ht]; exact ⟨hS.1, hS.2.1⟩⟩) hS.2.2 dX3_ranked_31
      · refine lv_iconst (v := nI 0) hx hb dX3_ranked_19 (by decide) ?_
        refine lv_goto (tgt := 24) hx hb dX3_ranked_20 (by decide) ?_
        refine hk_M (rest := []) (va_Run.run (va_runV (As := [.int (nI 0)]) (rest := []) ⟨hx, hb, hml, hown, hts⟩ (c_X3_refused l D ct sa aa g rf (nI 0)) (cwV 1 hts gX3_ranked_X3_refused rfl rfl rfl (by decide +kernel) ⟨Nat.le_of_ble_eq_true rfl, Nat.le_of_ble_eq_true rfl⟩) (hk_preV hE (va_recv hE.1 hP (ci := 3) (q0 := 0) rfl rfl) ⟨hP.sub (ws' := [((aa 0), .inr (3, [.int rf, .int (nI (gN g)), .ref (aa 1), .ref (aa 2), .ref (aa 3), .ref (aa 4), .ref (aa 5), .ref (aa 6), .ref (aa 7), .ref (aa 8), .ref (aa 9), .int (nI (gd g)), .ref (aa 10), .int (nI (gc g)), .ref (aa 11), .ref (aa 12), .ref (aa 13)]))]) [0] rfl, (hD.sub (ws' := [((aa 0), .inr (3, [.int rf, .int (nI (gN g)), .ref (aa 1), .ref (aa 2), .ref (aa 3), .ref (aa 4), .ref (aa 5), .ref (aa 6), .ref (aa 7), .ref (aa 8), .ref (aa 9), .int (nI (gd g)), .ref (aa 10), .int (nI (gc g)), .ref (aa 11), .ref (aa 12), .ref (aa 13)]))]) [0] (by decide) rfl).weaken (fun _ _ _ _ => trivial)⟩) rfl rfl hl.1 rfl (lv_room (Nat.le_of_ble_eq_true rfl)) dX3_ranked_24 ⟨Nat.zero_le _, Nat.zero_le _⟩)) hP hD hS [0] (wc := [((aa 0), .inr (3, [.int rf, .int (nI (gN g)), .ref (aa 1), .ref (aa 2), .ref (aa 3), .ref (aa 4), .ref (aa 5), .ref (aa 6), .ref (aa 7), .ref (aa 8), .ref (aa 9), .int (nI (gd g)), .ref (aa 10), .int (nI (gc g)), .ref (aa 11), .ref (aa 12), .ref (aa 13)]))]) rfl rfl rfl (fun H locs hP hD hS => ?_)
        have hP : va_P D vwCl [((aa 0), .inr (3, [.int (nI 0), .int (nI (gN g)), .ref (aa 1), .ref (aa 2), .ref (aa 3), .ref (aa 4), .ref (aa 5), .ref (aa 6), .ref (aa 7), .ref (aa 8), .ref (aa 9), .int (nI (gd g)), .ref (aa 10), .int (nI (gc g)), .ref (aa 11), .ref (aa 12), .ref (aa 13)])), ((aa 1), .inl (ct 0, 60, .inl (mK g))), ((aa 2), .inl (ct 0, 60, .inl (mL g))), ((aa 3), .inl (ct 0, 5, .inl (mY g))), ((aa 4), .inl (ct 0, 60, .inl (mS g))), ((aa 5), .inl (ct 0, 720, .inl (mP g))), ((aa 6), .inl (ct 0, 5, .inl (mC g))), ((aa 7), .inl (ct 0, 5, .inl (mLa g))), ((aa 8), .inl (ct 0, 5, .inl (mQ g))), ((aa 9), .inl (ct 0, 150, .inl (mT g))), ((aa 10), .inl (ct 0, 24, .inl (mD g))), ((aa 11), .inl (ct 0, 6, .inl (mW g))), ((aa 12), .inl (ct 0, 30, .inl (mX g))), ((aa 13), .inl (ct 0, 30, .inl (mZ g)))] H := hP
        have hD : va_D (hkA [(aa 0), (aa 1), (aa 2), (aa 3), (aa 4), (aa 5), (aa 6), (aa 7), (aa 8), (aa 9), (aa 10), (aa 11), (aa 12), (aa 13)]) [((aa 0), .inr (3, [.int (nI 0), .int (nI (gN g)), .ref (aa 1), .ref (aa 2), .ref (aa 3), .ref (aa 4), .ref (aa 5), .ref (aa 6), .ref (aa 7), .ref (aa 8), .ref (aa 9), .int (nI (gd g)), .ref (aa 10), .int (nI (gc g)), .ref (aa 11), .ref (aa 12), .ref (aa 13)])), ((aa 1), .inl (ct 0, 60, .inl (mK g))), ((aa 2), .inl (ct 0, 60, .inl (mL g))), ((aa 3), .inl (ct 0, 5, .inl (mY g))), ((aa 4), .inl (ct 0, 60, .inl (mS g))), ((aa 5), .inl (ct 0, 720, .inl (mP g))), ((aa 6), .inl (ct 0, 5, .inl (mC g))), ((aa 7), .inl (ct 0, 5, .inl (mLa g))), ((aa 8), .inl (ct 0, 5, .inl (mQ g))), ((aa 9), .inl (ct 0, 150, .inl (mT g))), ((aa 10), .inl (ct 0, 24, .inl (mD g))), ((aa 11), .inl (ct 0, 6, .inl (mW g))), ((aa 12), .inl (ct 0, 30, .inl (mX g))), ((aa 13), .inl (ct 0, 30, .inl (mZ g)))] := hD
        refine hk_top (y := nI 0) (by decide) ?_
        refine hk_eq0N (tgt := 32) hx hb (by omega) dX3_ranked_27 (by decide) (fun hr9 => ?_) (fun hr0 => ?_)
        · obtain ⟨i, hi, rfl⟩ := bd_of (by omega) hbx
          have hic : (nI i).toNatClampNeg = i := nI_clamp (by omega)
          have hv := hCo i
          obtain ⟨hw5, hXX, hZZ, hZn⟩ := id hv
          refine lv_iconst (v := (-1)) hx hb dX3_ranked_32 (by decide) ?_
          refine lv_istore_n (lv' := [(3, .int (-1)), (0, .ref (aa 0)), (1, .int (nI i)), (2, .int y)]) hx hb dX3_ranked_33 rfl hl (by decide) rfl (fun ls hl => ?_)
          refine lv_iconst (v := nI 0) hx hb dX3_ranked_34 (by decide) ?_
          refine lv_istore (lv' := [(4, .int (nI 0)), (3, .int (-1)), (0, .ref (aa 0)), (1, .int (nI i)), (2, .int y)]) hx hb dX3_ranked_35 hl (by decide) rfl (fun ls hl => ?_)
          have loop : ∀ (k : Nat) (r : Nat), cW (gC g i) < r + k → r ≤ cW (gC g i) → ∀ (ls : Array Slot), lv_has ls 5 [(0, .ref (aa 0)), (1, .int (nI i)), (2, .int y), (3, .int (lf (rkd (gC g i) y) (-1) r)), (4, .int (nI r))] → W p l e (headSpec wsX3_ranked ({ frames := 2, cells := 0, slots := 0, locals := 47 })).room s m ([.ref (aa 0), .int (nI i), .int y] : List Value).toArray below meth c H locs 0 0 (MQ below (hkQ (some (.int (opRanked g (nI i) y).2.1)) D (mdW ct aa (opRanked g (nI i) y).2.2 (opRanked g (nI i) y).1) [(aa 0), (aa 1), (aa 2), (aa 3), (aa 4), (aa 5), (aa 6), (aa 7), (aa 8), (aa 9), (aa 10), (aa 11), (aa 12), (aa 13)]) ([.ref (aa 0), .int (nI i), .int y] : List Value).toArray s 0 0 (hkA [(aa 0), (aa 1), (aa 2), (aa 3), (aa 4), (aa 5), (aa 6), (aa 7), (aa 8), (aa 9), (aa 10), (aa 11), (aa 12), (aa 13)])) (F0 m 37 ls []) := by
            intro k
            induction k with
            | zero => intro r hk; intros; exact absurd hk (by omega)
            | succ k ih_loop =>
              intro r hk hr9 ls hl
              refine lv_iload hx hb dX3_ranked_37 (lv_at hl 4 rfl) ?_
              refine lv_aload_n hx hb dX3_ranked_39 rfl (lv_at hl 0 rfl) ?_
              refine va_get (D := D) (ci := 3) (v := .ref (aa 11)) (C := RX3) (T := TX3) (N := 17) hx hb hts hin3 hown hE.1 hP 0 rfl rfl 14 (by decide) (hts (.fieldLink RX3 40 "HomekeysModel" "within" "[I") (by decide +kernel)) (fun _ h9 => h9) rfl dX3_ranked_40 ?_
              refine lv_iload_n hx hb dX3_ranked_43 rfl (lv_at hl 1 rfl) ?_
              refine hk_iald hx hb hE hP 11 rfl (j := i) (by omega) (by omega) dX3_ranked_44 ?_
              refine hk_top (y := nI (cW (gC g i))) rfl ?_
              refine hk_geN (tgt := 86) hx hb (by omega) (by omega) dX3_ranked_45 (by decide) (fun hd => ?_) (fun hd => ?_)
              · obtain rfl : r = cW (gC g i) := by omega
                refine lv_iload_n hx hb dX3_ranked_86 rfl (lv_at hl 3 rfl) ?_
                refine hk_top (y := fi (rkd (gC g i) y) 5 0) (lf_fi hv) ?_
                have hz : opRanked g (nI i) y = (0, fi (rkd (gC g i) y) 5 0, g) := by rw [opRanked, if_neg (fun q => q.elim (bd_nI hi (by omega)) h1), ix, hic]
                rw [hz]
                have hP9 : va_P D vwCl [((aa 0), .inr (3, [.int (nI 0), .int (nI (gN g)), .ref (aa 1), .ref (aa 2), .ref (aa 3), .ref (aa 4), .ref (aa 5), .ref (aa 6), .ref (aa 7), .ref (aa 8), .ref (aa 9), .int (nI (gd g)), .ref (aa 10), .int (nI (gc g)), .ref (aa 11), .ref (aa 12), .ref (aa 13)])), ((aa 1), .inl (ct 0, 60, .inl (mK g))), ((aa 2), .inl (ct 0, 60, .inl (mL g))), ((aa 3), .inl (ct 0, 5, .inl (mY g))), ((aa 4), .inl (ct 0, 60, .inl (mS g))), ((aa 5), .inl (ct 0, 720, .inl (mP g))), ((aa 6), .inl (ct 0, 5, .inl (mC g))), ((aa 7), .inl (ct 0, 5, .inl (mLa g))), ((aa 8), .inl (ct 0, 5, .inl (mQ g))), ((aa 9), .inl (ct 0, 150, .inl (mT g))), ((aa 10), .inl (ct 0, 24, .inl (mD g))), ((aa 11), .inl (ct 0, 6, .inl (mW g))), ((aa 12), .inl (ct 0, 30, .inl (mX g))), ((aa 13), .inl (ct 0, 30, .inl (mZ g)))] H := hP
                exact W.iret (v := fi (rkd (gC g i) y) 5 0) hx hb hr (fun t ht hW => ⟨rfl, by rw [ht]; exact hP9, by rw [ht]; exact ⟨hS.1, hS.2.1⟩⟩) hS.2.2 dX3_ranked_87
              · refine lv_aload_n hx hb dX3_ranked_48 rfl (lv_at hl 0 rfl) ?_
                refine va_get (D := D) (ci := 3) (v := .ref (aa 13)) (C := RX3) (T := TX3) (N := 17) hx hb hts hin3 hown hE.1 hP 0 rfl rfl 16 (by decide) (hts (.fieldLink RX3 46 "HomekeysModel" "ticks" "[I") (by decide +kernel)) (fun _ h9 => h9) rfl dX3_ranked_49 ?_
                refine lv_iconst (v := nI 5) hx hb dX3_ranked_52 (by decide) ?_
                refine lv_iload_n hx hb dX3_ranked_53 rfl (lv_at hl 1 rfl) ?_
                refine hk_mulN hx hb dX3_ranked_54 ?_
                refine lv_iload hx hb dX3_ranked_55 (lv_at hl 4 rfl) ?_
                refine hk_addN hx hb dX3_ranked_57 ?_
                refine hk_iald hx hb hE hP 13 rfl (j := (5 * i) + r) (by omega) (by omega) dX3_ranked_58 ?_
                refine hk_top (y := cZ (gC g i) r) (mZ_at g i (by omega)) ?_
                refine lv_if_le (tgt := 78) hx hb dX3_ranked_59 (by decide) (fun h0 => ?_) (fun h0 => ?_)
                · refine lv_iload_n hx hb dX3_ranked_78 rfl (lv_at hl 3 rfl) ?_
                  refine lv_istore_n (lv' := [(3, .int (lf (rkd (gC g i) y) (-1) r)), (0, .ref (aa 0)), (1, .int (nI i)), (2, .int y), (4, .int (nI r))]) hx hb dX3_ranked_79 rfl hl (by decide) rfl (fun ls hl => ?_)
                  refine lv_iinc (v := nI (r + 1)) (lv' := [(4, .int (nI (r + 1))), (3, .int (lf (rkd (gC g i) y) (-1) r)), (0, .ref (aa 0)), (1, .int (nI i)), (2, .int y)]) hx hb dX3_ranked_80 hl (k := 4) rfl (nI_add _ _) (by decide) rfl (fun ls hl => ?_)
                  refine lv_goto (tgt := 37) hx hb dX3_ranked_83 (by decide) ?_
                  exact ih_loop (r + 1) (by omega) (by omega) ls (by rw [lf, if_neg (fun q => absurd (of_decide_eq_true q).1 (Int32.not_lt.mpr h0))]; exact lv_sub hl [2, 3, 4, 1, 0] rfl)
                · refine lv_aload_n hx hb dX3_ranked_62 rfl (lv_at hl 0 rfl) ?_
                  refine lv_iload_n hx hb dX3_ranked_63 rfl (lv_at hl 1 rfl) ?_
                  refine lv_iload hx hb dX3_ranked_64 (lv_at hl 4 rfl) ?_
                  refine hk_R (rest := []) (va_Run.run (va_runV (As := [.int (nI i), .int (nI r)]) (rest := []) ⟨hx, hb, hml, hown, hts⟩ (c_X3_rank l D ct sa aa g (nI 0) i r hI hi hd) (cwV 2 hts gX3_ranked_X3_rank rfl rfl rfl (by decide +kernel) ⟨Nat.le_of_ble_eq_true rfl, Nat.le_of_ble_eq_true rfl⟩) (hk_preV hE (va_recv hE.1 hP (ci := 3) (q0 := 0) rfl rfl) hP) rfl rfl hl.1 rfl (lv_room (Nat.le_of_ble_eq_true rfl)) dX3_ranked_66 ⟨Nat.zero_le _, Nat.zero_le _⟩)) ?_
                  refine lv_iload_n hx hb dX3_ranked_69 rfl (lv_at hl 2 rfl) ?_
                  refine lv_icmp_ne (tgt := 78) hx hb dX3_ranked_70 (by decide) (fun h2 => ?_) (fun h2 => ?_)
                  · refine lv_iload_n hx hb dX3_ranked_78 rfl (lv_at hl 3 rfl) ?_
                    refine lv_istore_n (lv' := [(3, .int (lf (rkd (gC g i) y) (-1) r)), (0, .ref (aa 0)), (1, .int (nI i)), (2, .int y), (4, .int (nI r))]) hx hb dX3_ranked_79 rfl hl (by decide) rfl (fun ls hl => ?_)
                    refine lv_iinc (v := nI (r + 1)) (lv' := [(4, .int (nI (r + 1))), (3, .int (lf (rkd (gC g i) y) (-1) r)), (0, .ref (aa 0)), (1, .int (nI i)), (2, .int y)]) hx hb dX3_ranked_80 hl (k := 4) rfl (nI_add _ _) (by decide) rfl (fun ls hl => ?_)
                    refine lv_goto (tgt := 37) hx hb dX3_ranked_83 (by decide) ?_
                    exact ih_loop (r + 1) (by omega) (by omega) ls (by rw [lf, if_neg (fun q => h2 (of_decide_eq_true q).2)]; exact lv_sub hl [2, 3, 4, 1, 0] rfl)
                  · refine lv_iload hx hb dX3_ranked_73 (lv_at hl 4 rfl) ?_
                    refine lv_goto (tgt := 79) hx hb dX3_ranked_75 (by decide) ?_
                    refine lv_istore_n (lv' := [(3, .int (nI r)), (0, .ref (aa 0)), (1, .int (nI i)), (2, .int y), (4, .int (nI r))]) hx hb dX3_ranked_79 rfl hl (by decide) rfl (fun ls hl => ?_)
                    refine lv_iinc (v := nI (r + 1)) (lv' := [(4, .int (nI (r + 1))), (3, .int (nI r)), (0, .ref (aa 0)), (1, .int (nI i)), (2, .int y)]) hx hb dX3_ranked_80 hl (k := 4) rfl (nI_add _ _) (by decide) rfl (fun ls hl => ?_)
                    refine lv_goto (tgt := 37) hx hb dX3_ranked_83 (by decide) ?_
                    exact ih_loop (r + 1) (by omega) (by omega) ls (by rw [lf, if_pos (show rkd (gC g i) y r = true from decide_eq_true ⟨Int32.not_le.mp h0, h2⟩)]; exact lv_sub hl [2, 3, 4, 1, 0] rfl)
          exact loop (cW (gC g i) + 1) 0 (by omega) (by omega) ls (lv_sub hl [2, 3, 4, 1, 0] rfl)
        · exact absurd hr0 (by decide)
