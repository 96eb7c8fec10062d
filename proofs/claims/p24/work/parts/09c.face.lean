/-! a student more, a contest more -/
theorem va_P.mem {D : va_G} {cl : List vw_C} {w1 w2 : va_W} {H : Heap} (h : va_P D cl w1 H) (hs : ∀ q ∈ w2, q ∈ w1) : va_P D cl w2 H := by
  intro k q hk
  obtain ⟨j, hj⟩ := List.getElem?_of_mem (hs q (List.mem_of_getElem? hk))
  exact h j q hj
theorem hkW_memS {ct : Nat → ClassId} {b : Nat → Nat} {d : Ad} {g : Sg} {i : Nat} (h : i < gN g) : ∀ q ∈ stW ct (d.1 i) (gS g i), q ∈ hkW ct b d g := fun q hq => (hkW_S h).subset (List.mem_append_right _ (List.mem_append_left _ hq))
theorem hk_last (w : va_W) (x : Nat × va_E) (r : va_W) : (w ++ x :: r)[w.length]? = some x := by
  rw [List.getElem?_append_right (Nat.le_refl _), Nat.sub_self]
  rfl
theorem rfs_0 (a : Nat → Nat → Nat) : rfs 0 a = fun _ => none := by
  funext j
  exact if_neg (Nat.not_lt_zero j)
theorem rfs_add (n : Nat) (a : Nat → Nat → Nat) (x : Nat → Nat) : rfs (n + 1) (va_up a n x) = va_up (rfs n a) n (some (x 0)) := by
  funext j
  unfold rfs va_up
  by_cases h : j = n
  · subst h
    rw [if_pos (Nat.lt_succ_self _), if_pos rfl, if_pos rfl]
  · rw [if_neg h, if_neg h]
    show _ = if j < n then some (a j 0) else none
    by_cases h2 : j < n
    · rw [if_pos (by omega), if_pos h2]
    · rw [if_neg (by omega), if_neg h2]
def adr6 (q : Nat) (u : Nat × Nat × Nat × Nat × Nat) : Nat → Nat := fun k => if k = 0 then q else if k = 1 then u.1 else if k = 2 then u.2.1 else if k = 3 then u.2.2.1 else if k = 4 then u.2.2.2.1 else u.2.2.2.2
def adr4 (q : Nat) (u : Nat × Nat × Nat) : Nat → Nat := fun k => if k = 0 then q else if k = 1 then u.1 else if k = 2 then u.2.1 else u.2.2
def gA (g : Sg) : Sg := (gN g + 1, gS g, gd g, gD g, gc g, gC g)
def dA (d : Ad) (n : Nat) (a : Nat → Nat) : Ad := (va_up d.1 n a, d.2.1, d.2.2)
def gB (g : Sg) : Sg := (gN g, gS g, 0, gD g, gc g + 1, va_up (gC g) (gc g) (newCo g))
def dB (d : Ad) (n : Nat) (a : Nat → Nat) : Ad := (d.1, va_up d.2.1 n a, d.2.2)
theorem st_id : (fun j => nI (if j < 12 then j else 0)) = fun j => if j < 12 then nI j else 0 := by
  funext j
  split <;> rfl
theorem stW_new (ct : Nat → ClassId) (q : Nat) (u : Nat × Nat × Nat × Nat × Nat) : stW ct (adr6 q u) st0 = [(q, .inr (1, [.ref u.1, .ref u.2.1, .int (nI 0), .ref u.2.2.1, .ref u.2.2.2.1, .ref u.2.2.2.2, .int (nI 0), .int (nI 0)])), (u.1, .inl (ct 0, 12, .inl (fun j => if j < 12 then nI j else 0))), (u.2.1, .inl (ct 0, 12, .inl (fun j => if j < 12 then nI j else 0))), (u.2.2.1, .inl (ct 0, 12, .inl (fun _ => 0))), (u.2.2.2.1, .inl (ct 0, 144, .inl (fun _ => 0))), (u.2.2.2.2, .inl (ct 0, 30, .inl (fun _ => 0)))] := by
  rw [← st_id]
  rfl
theorem ssW_add (ct : Nat → ClassId) (d : Ad) (g : Sg) (a : Nat → Nat) : ssW ct (dA d (gN g) a) (gA g) (List.range (gN g + 1)) = ssW ct d g (List.range (gN g)) ++ stW ct a (gS g (gN g)) := by
  unfold ssW
  rw [List.range_succ, List.flatMap_append]
  congr 1
  · rw [List.flatMap_def, List.flatMap_def]
    congr 1
    refine List.map_congr_left (fun i hi => ?_)
    have h1 := List.mem_range.mp hi
    show stW ct (va_up d.1 (gN g) a i) (gS g i) = _
    rw [va_up_ne _ _ (by omega)]
  · rw [List.flatMap_cons, List.flatMap_nil, List.append_nil]
    show stW ct (va_up d.1 (gN g) a (gN g)) (gS g (gN g)) = _
    rw [va_up_self]
theorem ccW_add (ct : Nat → ClassId) (d : Ad) (g : Sg) (a : Nat → Nat) : ccW ct (dB d (gc g) a) (gB g) (List.range (gc g + 1)) = ccW ct d g (List.range (gc g)) ++ coW ct a (newCo g) := by
  unfold ccW
  rw [List.range_succ, List.flatMap_append]
  congr 1
  · rw [List.flatMap_def, List.flatMap_def]
    congr 1
    refine List.map_congr_left (fun i hi => ?_)
    have h1 := List.mem_range.mp hi
    show coW ct (va_up d.2.1 (gc g) a i) (va_up (gC g) (gc g) (newCo g) i) = _
    rw [va_up_ne _ _ (by omega), va_up_ne _ _ (by omega)]
  · rw [List.flatMap_cons, List.flatMap_nil, List.append_nil]
    show coW ct (va_up d.2.1 (gc g) a (gc g)) (va_up (gC g) (gc g) (newCo g) (gc g)) = _
    rw [va_up_self, va_up_self]
theorem hk_mid {α : Type} (X S T C : List α) : List.Perm (X ++ ((S ++ T) ++ C)) ((X ++ (S ++ C)) ++ T) := by
  rw [List.append_assoc X (S ++ C) T]
  refine List.Perm.append_left _ ?_
  rw [List.append_assoc, List.append_assoc]
  exact List.Perm.append_left _ List.perm_append_comm
theorem hkW_add {ct : Nat → ClassId} {b : Nat → Nat} {d : Ad} {g : Sg} {q : Nat} {u : Nat × Nat × Nat × Nat × Nat} (h : gS g (gN g) = st0) : List.Perm (hkW ct b (dA d (gN g) (adr6 q u)) (gA g)) (([(b 0, .inr (2, [.ref (b 1), .ref (b 2), .ref (b 3), .int (nI (gd g)), .ref (b 4)])), (b 1, .inl (ct 1, 5, .inr (.inr (.inr (.inr (va_up (rfs (gN g) d.1) (gN g) (some q))))))), (b 2, .inl (ct 2, 6, .inr (.inr (.inr (.inr (rfs (gc g) d.2.1)))))), (b 3, .inl (ct 0, 24, .inl (fun j => nI (gD g j)))), (b 4, .inl (ct 0, 144, .inl d.2.2))] ++ (ssW ct d g (List.range (gN g)) ++ ccW ct d g (List.range (gc g)))) ++ [(q, .inr (1, [.ref u.1, .ref u.2.1, .int (nI 0), .ref u.2.2.1, .ref u.2.2.2.1, .ref u.2.2.2.2, .int (nI 0), .int (nI 0)])), (u.1, .inl (ct 0, 12, .inl (fun j => if j < 12 then nI j else 0))), (u.2.1, .inl (ct 0, 12, .inl (fun j => if j < 12 then nI j else 0))), (u.2.2.1, .inl (ct 0, 12, .inl (fun _ => 0))), (u.2.2.2.1, .inl (ct 0, 144, .inl (fun _ => 0))), (u.2.2.2.2, .inl (ct 0, 30, .inl (fun _ => 0)))]) := by
  rw [← stW_new ct q u, ← h]
  have e1 : bsW ct b (dA d (gN g) (adr6 q u)) (gA g) = [(b 0, .inr (2, [.ref (b 1), .ref (b 2), .ref (b 3), .int (nI (gd g)), .ref (b 4)])), (b 1, .inl (ct 1, 5, .inr (.inr (.inr (.inr (va_up (rfs (gN g) d.1) (gN g) (some q))))))), (b 2, .inl (ct 2, 6, .inr (.inr (.inr (.inr (rfs (gc g) d.2.1)))))), (b 3, .inl (ct 0, 24, .inl (fun j => nI (gD g j)))), (b 4, .inl (ct 0, 144, .inl d.2.2))] := by
    have h2 := rfs_add (gN g) d.1 (adr6 q u)
    have h3 : va_up (rfs (gN g) d.1) (gN g) (some q) = rfs (gN g + 1) (va_up d.1 (gN g) (adr6 q u)) := h2.symm
    rw [h3]
    rfl
  rw [← e1]
  unfold hkW
  rw [show gN (gA g) = gN g + 1 from rfl, show gc (gA g) = gc g from rfl, ssW_add]
  exact hk_mid _ _ _ _
theorem hkW_addC {ct : Nat → ClassId} {b : Nat → Nat} {d : Ad} {g : Sg} {q : Nat} {u : Nat × Nat × Nat} : List.Perm (hkW ct b (dB d (gc g) (adr4 q u)) (gB g)) ([(b 0, .inr (2, [.ref (b 1), .ref (b 2), .ref (b 3), .int (nI 0), .ref (b 4)])), (b 1, .inl (ct 1, 5, .inr (.inr (.inr (.inr (rfs (gN g) d.1)))))), (b 2, .inl (ct 2, 6, .inr (.inr (.inr (.inr (va_up (rfs (gc g) d.2.1) (gc g) (some q))))))), (b 3, .inl (ct 0, 24, .inl (fun j => nI (gD g j)))), (b 4, .inl (ct 0, 144, .inl d.2.2))] ++ ((ssW ct d g (List.range (gN g)) ++ ccW ct d g (List.range (gc g))) ++ coW ct (adr4 q u) (newCo g))) := by
  have e1 : bsW ct b (dB d (gc g) (adr4 q u)) (gB g) = [(b 0, .inr (2, [.ref (b 1), .ref (b 2), .ref (b 3), .int (nI 0), .ref (b 4)])), (b 1, .inl (ct 1, 5, .inr (.inr (.inr (.inr (rfs (gN g) d.1)))))), (b 2, .inl (ct 2, 6, .inr (.inr (.inr (.inr (va_up (rfs (gc g) d.2.1) (gc g) (some q))))))), (b 3, .inl (ct 0, 24, .inl (fun j => nI (gD g j)))), (b 4, .inl (ct 0, 144, .inl d.2.2))] := by
    have h2 := rfs_add (gc g) d.2.1 (adr4 q u)
    have h3 : va_up (rfs (gc g) d.2.1) (gc g) (some q) = rfs (gc g + 1) (va_up d.2.1 (gc g) (adr4 q u)) := h2.symm
    rw [h3]
    rfl
  rw [← e1]
  unfold hkW
  rw [show gN (gB g) = gN g from rfl, show gc (gB g) = gc g + 1 from rfl, ccW_add]
  refine List.Perm.append_left _ ?_
  rw [List.append_assoc]
  exact List.Perm.append_left _ (List.Perm.refl _)
theorem newCo_in (g : Sg) {j : Nat} (h : j < gN g) : cX (newCo g) j = tt (gk (sK (gS g j)) (gD g)) (gd g) := if_pos h
theorem newCo_out (g : Sg) {j : Nat} (h : ¬ j < gN g) : cX (newCo g) j = 0 := if_neg h
theorem nc_0 (g : Sg) : (fun _ => 0 : Nat → Int32) = fun j => nI (if j < 0 then cX (newCo g) j else 0) := by
  funext j
  rw [if_neg (Nat.not_lt_zero j)]
  rfl
theorem nc_upd (g : Sg) {i : Nat} (h : i < gN g) : upd (fun j => nI (if j < i then cX (newCo g) j else 0)) i (nI (tt (gk (sK (gS g i)) (gD g)) (gd g))) = fun j => nI (if j < i + 1 then cX (newCo g) j else 0) := by
  funext j
  unfold upd
  by_cases hj : j = i
  · subst hj
    rw [if_pos rfl, if_pos (Nat.lt_succ_self _), newCo_in g h]
  · rw [if_neg hj]
    show nI (if j < i then _ else _) = _
    by_cases h2 : j < i
    · rw [if_pos h2, if_pos (by omega)]
    · rw [if_neg h2, if_neg (by omega)]
theorem nc_skip (g : Sg) {i : Nat} (h : ¬ i < gN g) : (fun j => nI (if j < i then cX (newCo g) j else 0)) = fun j => nI (if j < i + 1 then cX (newCo g) j else 0) := by
  funext j
  by_cases h2 : j < i
  · rw [if_pos h2, if_pos (by omega)]
  · rw [if_neg h2]
    by_cases hj : j = i
    · subst hj
      rw [if_pos (Nat.lt_succ_self _), newCo_out g h]
    · rw [if_neg (by omega)]
theorem nc_end (g : Sg) (h : gN g ≤ 5) : (fun j => nI (if j < 5 then cX (newCo g) j else 0)) = fun j => nI (cX (newCo g) j) := by
  funext j
  by_cases h2 : j < 5
  · rw [if_pos h2]
  · rw [if_neg h2, newCo_out g (by omega)]
theorem tt_le (f : Nat → Nat) : ∀ n, tt f n ≤ 7 * n
  | 0 => by rw [tt]; omega
  | 1 => by rw [tt]; omega
  | n + 2 => by
    have h := tt_le f (n + 1)
    have h2 : stp (f n) (f (n + 1)) ≤ 7 := by
      unfold stp
      split
      · omega
      · split
        · omega
        · split <;> omega
    rw [tt]
    omega
theorem tt_ge (f : Nat → Nat) : ∀ n, 0 < n → 2 ≤ tt f n
  | 0, h => absurd h (by omega)
  | 1, _ => by rw [tt]; omega
  | n + 2, _ => by
    have h := tt_ge f (n + 1) (by omega)
    rw [tt]
    omega
theorem scr_0 (X : Nat → Nat) (h : ∀ j, X j < 2 ^ 31) : scr X (fun _ => 0) = fun _ => 0 := by
  funext j
  have e1 : (nI 1000 * 0 : Int32) = nI 0 := by decide +kernel
  show nI 1000 * 0 / nI (X j) = 0
  rw [e1]
  by_cases h0 : X j = 0
  · rw [h0]
    decide +kernel
  · rw [pk_div (by decide) (by omega) (h j), Nat.zero_div]
    rfl
theorem newCo_lt (g : Sg) (h : gd g ≤ 24) (j : Nat) : cX (newCo g) j < 2 ^ 31 := by
  by_cases h1 : j < gN g
  · rw [newCo_in g h1]
    have := tt_le (gk (sK (gS g j)) (gD g)) (gd g)
    omega
  · rw [newCo_out g h1]
    omega
theorem coW_new (ct : Nat → ClassId) (q : Nat) (u : Nat × Nat × Nat) (g : Sg) (hn : gN g ≤ 5) (hd : gd g ≤ 24) : coW ct (adr4 q u) (newCo g) = [(q, .inr (0, [.ref u.1, .ref u.2.1, .ref u.2.2])), (u.1, .inl (ct 0, 5, .inl (fun j => nI (if j < 5 then cX (newCo g) j else 0)))), (u.2.1, .inl (ct 0, 5, .inl (fun _ => 0))), (u.2.2, .inl (ct 0, 5, .inl (fun _ => 0)))] := by
  rw [nc_end g hn]
  show [_, _, _, (u.2.2, Sum.inl (ct 0, 5, Sum.inl (scr (cX (newCo g)) (fun _ => 0))))] = _
  rw [scr_0 _ (newCo_lt g hd)]
  rfl
set_option maxHeartbeats 4000000 in
set_option maxRecDepth 100000 in
theorem c_X2_student (l : Launch) (hfl : l.flags = flags0) (D : va_G) (ct : Nat → ClassId) (sa : Nat → Nat) (G0 : Nat) (sz : Nat) (b : Nat → Nat) (d : Ad) (g : Sg)  (hI : Inv g) : vx_Met l yX2_student wsX2_student ({ frames := 6, cells := 6, slots := 218, locals := 82 }) (hkPx D ct sa G0 [.ref (b 0)] (hkFP D ct b d g G0 sz)) (hkFQ D ct b (va_A (hkW ct b d g) sz) (opStudent g)) (hkXC (hkOk ["java/lang/IllegalStateException"] (opStudent g).1)) 6 218 (va_A (hkW ct b d g) sz) := by
  refine vx_ofW (cc := cX2_student) (maxL := 2) (ret := (some .int)) (by decide) rfl ?_
  intro p e s m args below meth c s₁ B hml hout hv
  obtain ⟨rfl, hE, hH, hp⟩ := hv
  have hx := B.exec
  have hb := B.bytes
  have hr := B.returns
  have hts := atoms_spec (ws := wsX2_student) B.pre
  have hown : s.vm.findClass RX2 = some m.cls := findClass_of_methodNamed B.named
  have hlocks := B.notSynchronized
  have hin1 : ∀ w ∈ wsX10, w ∈ wsX2_student := by decide +kernel
  have hin2 : ∀ w ∈ wsX20, w ∈ wsX2_student := by decide +kernel
  obtain ⟨hsz, hPW, hD0⟩ := hp
  subst hsz
  have hDW := hD0.self (sz := s.heap.size)
  generalize hAe : va_A (hkW ct b d g) s.heap.size = A at hDW ⊢
  have hA : ∀ q : Nat, s.heap.size ≤ q → A q := fun q h => by rw [← hAe]; exact Or.inr h
  have hS : va_S A s.heap s.heap [] := va_S.rf
  obtain ⟨hN5, hd24, hc6, hSt, hDr, hNs, hCs, hCo⟩ := id hI
  have hl := lv_entry ([.ref (b 0)]) (n := 2) (Nat.le_of_ble_eq_true rfl)
  rw [lg_entry_eq]
  generalize (lg_sl ([.ref (b 0)]) ++ List.replicate (2 - (lg_sl ([.ref (b 0)])).length) Slot.unset).toArray = ls at hl ⊢
  have hl : lv_has ls 2 [(0, .ref (b 0))] := hl
  have hP : va_P D vwCl (((b 0), .inr (2, [.ref (b 1), .ref (b 2), .ref (b 3), .int (nI (gd g)), .ref (b 4)])) :: ((b 1), .inl (ct 1, 5, .inr (.inr (.inr (.inr (rfs (gN g) d.1)))))) :: ((b 2), .inl (ct 2, 6, .inr (.inr (.inr (.inr (rfs (gc g) d.2.1)))))) :: ((b 3), .inl (ct 0, 24, .inl (fun j => nI (gD g j)))) :: ((b 4), .inl (ct 0, 144, .inl d.2.2)) :: (ssW ct d g (List.range (gN g)) ++ ccW ct d g (List.range (gc g)))) s.heap := hPW
  have hD : va_D A (((b 0), .inr (2, [.ref (b 1), .ref (b 2), .ref (b 3), .int (nI (gd g)), .ref (b 4)])) :: ((b 1), .inl (ct 1, 5, .inr (.inr (.inr (.inr (rfs (gN g) d.1)))))) :: ((b 2), .inl (ct 2, 6, .inr (.inr (.inr (.inr (rfs (gc g) d.2.1)))))) :: ((b 3), .inl (ct 0, 24, .inl (fun j => nI (gD g j)))) :: ((b 4), .inl (ct 0, 144, .inl d.2.2)) :: (ssW ct d g (List.range (gN g)) ++ ccW ct d g (List.range (gc g)))) := hDW
  refine lv_iconst (v := nI 0) hx hb dX2_student_0 (by decide) ?_
  refine lv_istore_n (lv' := [(1, .int (nI 0)), (0, .ref (b 0))]) hx hb dX2_student_1 rfl hl (by decide) rfl (fun ls hl => ?_)
  have loop : ∀ (k : Nat) (i : Nat), 5 < i + k → i ≤ gN g → ∀ (ls : Array Slot), lv_has ls 2 [(0, .ref (b 0)), (1, .int (nI i))] → W p l e (headSpec wsX2_student ({ frames := 6, cells := 6, slots := 218, locals := 82 })).room s m ([.ref (b 0)] : List Value).toArray below meth c s.heap [] 0 0 (vx_MQ below (hkFQ D ct b A (opStudent g)) (hkXC (hkOk ["java/lang/IllegalStateException"] (opStudent g).1)) ([.ref (b 0)] : List Value).toArray s 6 218 A) (F0 m 2 ls []) := by
    intro k
    induction k with
    | zero => intro i hk; intros; exact absurd hk (by omega)
    | succ k ih_loop =>
      intro i hk hi ls hl
      refine lv_iload_n hx hb dX2_student_2 rfl (lv_at hl 1 rfl) ?_
      refine lv_aload_n hx hb dX2_student_3 rfl (lv_at hl 0 rfl) ?_
      refine va_get (D := D) (ci := 2) (v := .ref (b 1)) (C := RX2) (T := TX2) (N := 5) hx hb hts hin2 hown hE.1 hP 0 rfl rfl 0 (by decide) (hts (.fieldLink RX2 11 "Homekeys" "students" "[LHomekeys$Student;") (by decide +kernel)) (fun _ h9 => h9) rfl dX2_student_4 ?_
      refine hk_alen1 hx hb hE hP 1 rfl dX2_student_7 ?_
      refine hk_geN (tgt := 41) hx hb (by omega) (by omega) dX2_student_8 (by decide) (fun hc => ?_) (fun hc => ?_)
      · exact hk_throw (G0 := G0) hx hb hfl (cls := "java/lang/IllegalStateException") (text := "there are 5 students") (ik := 33) (is := 35) (ic := 37) (k := 0) hown (by decide +kernel) (hts (.classLink RX2 33 "java/lang/IllegalStateException") (by decide +kernel)) (hts (.initialized "java/lang/IllegalStateException") (by decide +kernel)) (fun w hw => hts w (List.mem_cons_of_mem _ (List.mem_append_right _ hw))) hk_ng0 hk_ot0 hE hH (List.mem_of_getElem? (i := 0) rfl) (hl.1.trans hml.symm) dX2_student_41 dX2_student_44 dX2_student_45 dX2_student_47 dX2_student_50 hout (Nat.le_of_ble_eq_true rfl) (Nat.le_of_ble_eq_true rfl) (Nat.le_of_ble_eq_true rfl) (Nat.le_of_ble_eq_true rfl) hlocks ⟨0, rfl, by rw [opStudent, if_pos (show gN g = 5 by omega)]; rfl⟩ (Nat.le_of_ble_eq_true rfl) (Nat.le_of_ble_eq_true rfl)
      · refine lv_aload_n hx hb dX2_student_11 rfl (lv_at hl 0 rfl) ?_
        refine va_get (D := D) (ci := 2) (v := .ref (b 1)) (C := RX2) (T := TX2) (N := 5) hx hb hts hin2 hown hE.1 hP 0 rfl rfl 0 (by decide) (hts (.fieldLink RX2 11 "Homekeys" "students" "[LHomekeys$Student;") (by decide +kernel)) (fun _ h9 => h9) rfl dX2_student_12 ?_
        refine lv_iload_n hx hb dX2_student_15 rfl (lv_at hl 1 rfl) ?_
        refine hk_aald1 hx hb hE hP 1 rfl (j := i) (by omega) (by omega) dX2_student_16 ?_
        by_cases hin : i < gN g
        · refine hk_topr (a := (d.1 i 0)) (rfs_in hin) ?_
          refine lv_ifnonnull (tgt := 35) hx hb dX2_student_17 (by decide) ?_
          refine lv_iinc (v := nI (i + 1)) (lv' := [(1, .int (nI (i + 1))), (0, .ref (b 0))]) hx hb dX2_student_35 hl (k := 1) rfl (nI_add _ _) (by decide) rfl (fun ls hl => ?_)
          refine lv_goto (tgt := 2) hx hb dX2_student_38 (by decide) ?_
          exact ih_loop (i + 1) (by omega) (by omega) ls (lv_sub hl [1, 0] rfl)
        · refine hk_topn (rfs_out hin) ?_
          refine lv_ifnonnullN hx hb dX2_student_17 ?_
          obtain rfl : i = gN g := by omega
          refine lv_aload_n hx hb dX2_student_20 rfl (lv_at hl 0 rfl) ?_
          refine va_get (D := D) (ci := 2) (v := .ref (b 1)) (C := RX2) (T := TX2) (N := 5) hx hb hts hin2 hown hE.1 hP 0 rfl rfl 0 (by decide) (hts (.fieldLink RX2 11 "Homekeys" "students" "[LHomekeys$Student;") (by decide +kernel)) (fun _ h9 => h9) rfl dX2_student_21 ?_
          refine lv_iload_n hx hb dX2_student_24 rfl (lv_at hl 1 rfl) ?_
          refine va_new (ci := 1) (fs := [.null, .null, .int 0, .null, .null, .null, .int 0, .int 0]) (C := RX1) (T := TX1) (N := 8) hx hb hts hin1 tyX1 tyX1_ok hown (hts (.classLink RX2 9 RX1) (by decide +kernel)) (hts (.instantiable RX1 8) (by decide +kernel)) (hts (.initialized RX1) (by decide +kernel)) hE.1 hPW hDW hS hA rfl (fun j hj => by rcases (show j = 0 ∨ j = 1 ∨ j = 2 ∨ j = 3 ∨ j = 4 ∨ j = 5 ∨ j = 6 ∨ j = 7 by omega) with rfl | rfl | rfl | rfl | rfl | rfl | rfl | rfl <;> rfl) (Nat.le_of_ble_eq_true rfl) (Nat.le_of_ble_eq_true rfl) dX2_student_25 (fun qn H hP hD hS => ?_)
          refine lv_dup hx hb dX2_student_28 rfl ?_
          refine hk_C (rest := [.ref qn, .int (nI (gN g)), .ref (b 1)]) (wr := (hkW ct b d g)) (wc := [(qn, .inr (1, [.null, .null, .int 0, .null, .null, .null, .int 0, .int 0]))]) (va_runIN (host := RX2) (As := []) (rest := [.ref qn, .int (nI (gN g)), .ref (b 1)]) ⟨hx, hb, hml, hown, hts⟩ (c_X1_init l D ct sa qn H.size) ⟨va_cnB 0 hts gX2_student_X1_init_n32 rfl rfl rfl (hE.nw hkN_X2_32) (hts (.initialized RX1) (by decide +kernel)) (by decide +kernel) ⟨Nat.le_of_ble_eq_true rfl, Nat.le_of_ble_eq_true rfl⟩, rfl, hts (.instanceMethod yX1_init) (by decide +kernel)⟩ (hk_preS hE ⟨rfl, hP.right, hD.right.weaken (fun _ _ _ _ => trivial)⟩) rfl rfl hl.1 rfl (lv_room (Nat.le_of_ble_eq_true rfl)) dX2_student_29 ⟨Nat.le_of_ble_eq_true rfl, Nat.le_of_ble_eq_true rfl⟩) rfl hP hD hS hA (fun u H locs hP hD hS => ?_)
          refine va_astq (r := (RX1, TX1, 8)) hx hb hE.1 hP hD hS 1 1 (hkW ct b d g).length 1 rfl rfl (hk_last _ _ _) rfl (vp_in_nI (by omega) (by decide)) dX2_student_32 (fun H locs hP hD hS => ?_)
          rw [nI_clamp (by omega)] at hP hD
          refine lv_iload_n hx hb dX2_student_33 rfl (lv_at hl 1 rfl) ?_
          have hz : opStudent g = (0, nI (gN g), gA g) := by rw [opStudent, if_neg (by omega)]; rfl
          rw [hz]
          have hP9 : va_P D vwCl (hkW ct b (dA d (gN g) (adr6 qn u)) (gA g)) H := va_P.perm hP (hkW_add (hNs _ (Nat.le_refl _)))
          have hD9 : va_D A (hkW ct b (dA d (gN g) (adr6 qn u)) (gA g)) := va_D.perm hD (hkW_add (hNs _ (Nat.le_refl _)))
          refine W.widen (k := 6) (n := 218) (Nat.le_of_ble_eq_true rfl) (Nat.le_of_ble_eq_true rfl) ?_
          exact vx_ret (W.iret (v := nI (gN g)) hx hb hr (fun t ht hW => ⟨rfl, rfl, ⟨dA d (gN g) (adr6 qn u), by rw [ht]; exact hP9, hD9⟩, hS.F ht⟩) hS.2.2 dX2_student_34)
  exact loop 6 0 (by omega) (by omega) ls (lv_sub hl [1, 0] rfl)

set_option maxHeartbeats 4000000 in
set_option maxRecDepth 100000 in
theorem c_X2_contestOfDraft (l : Launch) (D : va_G) (ct : Nat → ClassId) (sa : Nat → Nat) (sz : Nat) (b : Nat → Nat) (d : Ad) (g : Sg) (hI : Inv g) : Met l yX2_contestOfDraft wsX2_contestOfDraft ({ frames := 3, cells := 4, slots := 18, locals := 69 }) (hkPc D ct sa [.ref (b 0)] (fun H => H.size = sz ∧ va_P D vwCl (hkW ct b d g) H ∧ va_D (fun _ => True) (hkW ct b d g))) (va_Qr (fun _ : Nat × Nat × Nat => True) (fun u q t => va_P D vwCl (hkW ct b d g ++ coW ct (adr4 q u) (newCo g)) t.heap ∧ va_D (va_A (hkW ct b d g) sz) (hkW ct b d g ++ coW ct (adr4 q u) (newCo g))) (va_A (hkW ct b d g) sz)) 4 18 (va_A (hkW ct b d g) sz) := by
  refine Met.ofW (cc := cX2_contestOfDraft) (maxL := 4) (ret := (some (.object "Homekeys$Contest"))) (by decide) rfl ?_
  intro p e s m args below meth c s₁ B hml hv
  obtain ⟨rfl, hE, hp⟩ := hv
  have hx := B.exec
  have hb := B.bytes
  have hr := B.returns
  have hts := atoms_spec (ws := wsX2_contestOfDraft) B.pre
  have hown : s.vm.findClass RX2 = some m.cls := findClass_of_methodNamed B.named
  have hlocks := B.notSynchronized
  have hin0 : ∀ w ∈ wsX00, w ∈ wsX2_contestOfDraft := by decide +kernel
  have hin1 : ∀ w ∈ wsX10, w ∈ wsX2_contestOfDraft := by decide +kernel
  have hin2 : ∀ w ∈ wsX20, w ∈ wsX2_contestOfDraft := by decide +kernel
  obtain ⟨hsz, hPW, hD0⟩ := hp
  subst hsz
  have hDW := hD0.self (sz := s.heap.size)
  generalize hAe : va_A (hkW ct b d g) s.heap.size = A at hDW ⊢
  have hA : ∀ q : Nat, s.heap.size ≤ q → A q := fun q h => by rw [← hAe]; exact Or.inr h
  have hS : va_S A s.heap s.heap [] := va_S.rf
  obtain ⟨hN5, hd24, hc6, hSt, hDr, hNs, hCs, hCo⟩ := id hI
  have hl := lv_entry ([.ref (b 0)]) (n := 4) (Nat.le_of_ble_eq_true rfl)
  rw [lg_entry_eq]
  generalize (lg_sl ([.ref (b 0)]) ++ List.replicate (4 - (lg_sl ([.ref (b 0)])).length) Slot.unset).toArray = ls at hl ⊢
  have hl : lv_has ls 4 [(0, .ref (b 0))] := hl
  have hP : va_P D vwCl (((b 0), .inr (2, [.ref (b 1), .ref (b 2), .ref (b 3), .int (nI (gd g)), .ref (b 4)])) :: ((b 1), .inl (ct 1, 5, .inr (.inr (.inr (.inr (rfs (gN g) d.1)))))) :: ((b 2), .inl (ct 2, 6, .inr (.inr (.inr (.inr (rfs (gc g) d.2.1)))))) :: ((b 3), .inl (ct 0, 24, .inl (fun j => nI (gD g j)))) :: ((b 4), .inl (ct 0, 144, .inl d.2.2)) :: (ssW ct d g (List.range (gN g)) ++ ccW ct d g (List.range (gc g)))) s.heap := hPW
  have hD : va_D A (((b 0), .inr (2, [.ref (b 1), .ref (b 2), .ref (b 3), .int (nI (gd g)), .ref (b 4)])) :: ((b 1), .inl (ct 1, 5, .inr (.inr (.inr (.inr (rfs (gN g) d.1)))))) :: ((b 2), .inl (ct 2, 6, .inr (.inr (.inr (.inr (rfs (gc g) d.2.1)))))) :: ((b 3), .inl (ct 0, 24, .inl (fun j => nI (gD g j)))) :: ((b 4), .inl (ct 0, 144, .inl d.2.2)) :: (ssW ct d g (List.range (gN g)) ++ ccW ct d g (List.range (gc g)))) := hDW
  refine va_new (ci := 0) (fs := [.null, .null, .null]) (C := RX0) (T := TX0) (N := 3) hx hb hts hin0 tyX0 tyX0_ok hown (hts (.classLink RX2 15 RX0) (by decide +kernel)) (hts (.instantiable RX0 3) (by decide +kernel)) (hts (.initialized RX0) (by decide +kernel)) hE.1 hPW hDW hS hA rfl (fun j hj => by rcases (show j = 0 ∨ j = 1 ∨ j = 2 by omega) with rfl | rfl | rfl <;> rfl) (Nat.le_of_ble_eq_true rfl) (Nat.le_of_ble_eq_true rfl) dX2_contestOfDraft_0 (fun qn H hP hD hS => ?_)
  refine lv_dup hx hb dX2_contestOfDraft_3 rfl ?_
  refine hk_C (rest := [.ref qn]) (wr := (hkW ct b d g)) (wc := [(qn, .inr (0, [.null, .null, .null]))]) (va_runIN (host := RX2) (As := []) (rest := [.ref qn]) ⟨hx, hb, hml, hown, hts⟩ (c_X0_init l D ct sa qn H.size) ⟨va_cnB 0 hts gX2_contestOfDraft_X0_init_n193 rfl rfl rfl (hE.nw hkN_X2_193) (hts (.initialized RX0) (by decide +kernel)) (by decide +kernel) ⟨Nat.le_of_ble_eq_true rfl, Nat.le_of_ble_eq_true rfl⟩, rfl, hts (.instanceMethod yX0_init) (by decide +kernel)⟩ (hk_preS hE ⟨rfl, hP.right, hD.right.weaken (fun _ _ _ _ => trivial)⟩) rfl rfl hl.1 rfl (lv_room (Nat.le_of_ble_eq_true rfl)) dX2_contestOfDraft_4 ⟨Nat.le_of_ble_eq_true rfl, Nat.le_of_ble_eq_true rfl⟩) rfl hP hD hS hA (fun u H locs hP hD hS => ?_)
  have hP : va_P D vwCl ((qn, .inr (0, [.ref u.1, .ref u.2.1, .ref u.2.2])) :: (u.1, .inl (ct 0, 5, .inl (fun _ => 0))) :: (u.2.1, .inl (ct 0, 5, .inl (fun _ => 0))) :: (u.2.2, .inl (ct 0, 5, .inl (fun _ => 0))) :: ((b 0), .inr (2, [.ref (b 1), .ref (b 2), .ref (b 3), .int (nI (gd g)), .ref (b 4)])) :: ((b 1), .inl (ct 1, 5, .inr (.inr (.inr (.inr (rfs (gN g) d.1)))))) :: ((b 2), .inl (ct 2, 6, .inr (.inr (.inr (.inr (rfs (gc g) d.2.1)))))) :: ((b 3), .inl (ct 0, 24, .inl (fun j => nI (gD g j)))) :: ((b 4), .inl (ct 0, 144, .inl d.2.2)) :: (ssW ct d g (List.range (gN g)) ++ ccW ct d g (List.range (gc g)))) H := va_P.perm hP (List.perm_append_comm (l₁ := ([(qn, .inr (0, [.ref u.1, .ref u.2.1, .ref u.2.2])), (u.1, .inl (ct 0, 5, .inl (fun _ => 0))), (u.2.1, .inl (ct 0, 5, .inl (fun _ => 0))), (u.2.2, .inl (ct 0, 5, .inl (fun _ => 0)))] : va_W)) (l₂ := hkW ct b d g))
  have hD : va_D A ((qn, .inr (0, [.ref u.1, .ref u.2.1, .ref u.2.2])) :: (u.1, .inl (ct 0, 5, .inl (fun _ => 0))) :: (u.2.1, .inl (ct 0, 5, .inl (fun _ => 0))) :: (u.2.2, .inl (ct 0, 5, .inl (fun _ => 0))) :: ((b 0), .inr (2, [.ref (b 1), .ref (b 2), .ref (b 3), .int (nI (gd g)), .ref (b 4)])) :: ((b 1), .inl (ct 1, 5, .inr (.inr (.inr (.inr (rfs (gN g) d.1)))))) :: ((b 2), .inl (ct 2, 6, .inr (.inr (.inr (.inr (rfs (gc g) d.2.1)))))) :: ((b 3), .inl (ct 0, 24, .inl (fun j => nI (gD g j)))) :: ((b 4), .inl (ct 0, 144, .inl d.2.2)) :: (ssW ct d g (List.range (gN g)) ++ ccW ct d g (List.range (gc g)))) := va_D.perm hD (List.perm_append_comm (l₁ := ([(qn, .inr (0, [.ref u.1, .ref u.2.1, .ref u.2.2])), (u.1, .inl (ct 0, 5, .inl (fun _ => 0))), (u.2.1, .inl (ct 0, 5, .inl (fun _ => 0))), (u.2.2, .inl (ct 0, 5, .inl (fun _ => 0)))] : va_W)) (l₂ := hkW ct b d g))
  refine lv_astore_n (lv' := [(1, .ref qn), (0, .ref (b 0))]) hx hb dX2_contestOfDraft_7 rfl hl (by decide) rfl (fun ls hl => ?_)
  refine lv_iconst (v := nI 0) hx hb dX2_contestOfDraft_8 (by decide) ?_
  refine lv_istore_n (lv' := [(2, .int (nI 0)), (1, .ref qn), (0, .ref (b 0))]) hx hb dX2_contestOfDraft_9 rfl hl (by decide) rfl (fun ls hl => ?_)
  have hP : va_P D vwCl ((qn, .inr (0, [.ref u.1, .ref u.2.1, .ref u.2.2])) :: (u.1, .inl (ct 0, 5, .inl (fun j => nI (if j < 0 then cX (newCo g) j else 0)))) :: (u.2.1, .inl (ct 0, 5, .inl (fun _ => 0))) :: (u.2.2, .inl (ct 0, 5, .inl (fun _ => 0))) :: ((b 0), .inr (2, [.ref (b 1), .ref (b 2), .ref (b 3), .int (nI (gd g)), .ref (b 4)])) :: ((b 1), .inl (ct 1, 5, .inr (.inr (.inr (.inr (rfs (gN g) d.1)))))) :: ((b 2), .inl (ct 2, 6, .inr (.inr (.inr (.inr (rfs (gc g) d.2.1)))))) :: ((b 3), .inl (ct 0, 24, .inl (fun j => nI (gD g j)))) :: ((b 4), .inl (ct 0, 144, .inl d.2.2)) :: (ssW ct d g (List.range (gN g)) ++ ccW ct d g (List.range (gc g)))) H := by rw [← nc_0]; exact hP
  have hD : va_D A ((qn, .inr (0, [.ref u.1, .ref u.2.1, .ref u.2.2])) :: (u.1, .inl (ct 0, 5, .inl (fun j => nI (if j < 0 then cX (newCo g) j else 0)))) :: (u.2.1, .inl (ct 0, 5, .inl (fun _ => 0))) :: (u.2.2, .inl (ct 0, 5, .inl (fun _ => 0))) :: ((b 0), .inr (2, [.ref (b 1), .ref (b 2), .ref (b 3), .int (nI (gd g)), .ref (b 4)])) :: ((b 1), .inl (ct 1, 5, .inr (.inr (.inr (.inr (rfs (gN g) d.1)))))) :: ((b 2), .inl (ct 2, 6, .inr (.inr (.inr (.inr (rfs (gc g) d.2.1)))))) :: ((b 3), .inl (ct 0, 24, .inl (fun j => nI (gD g j)))) :: ((b 4), .inl (ct 0, 144, .inl d.2.2)) :: (ssW ct d g (List.range (gN g)) ++ ccW ct d g (List.range (gc g)))) := by rw [← nc_0]; exact hD
  have loop : ∀ (k : Nat) (i : Nat), 5 < i + k → i ≤ 5 → ∀ (H : Heap) (locs : List Loc), va_P D vwCl ((qn, .inr (0, [.ref u.1, .ref u.2.1, .ref u.2.2])) :: (u.1, .inl (ct 0, 5, .inl (fun j => nI (if j < i then cX (newCo g) j else 0)))) :: (u.2.1, .inl (ct 0, 5, .inl (fun _ => 0))) :: (u.2.2, .inl (ct 0, 5, .inl (fun _ => 0))) :: ((b 0), .inr (2, [.ref (b 1), .ref (b 2), .ref (b 3), .int (nI (gd g)), .ref (b 4)])) :: ((b 1), .inl (ct 1, 5, .inr (.inr (.inr (.inr (rfs (gN g) d.1)))))) :: ((b 2), .inl (ct 2, 6, .inr (.inr (.inr (.inr (rfs (gc g) d.2.1)))))) :: ((b 3), .inl (ct 0, 24, .inl (fun j => nI (gD g j)))) :: ((b 4), .inl (ct 0, 144, .inl d.2.2)) :: (ssW ct d g (List.range (gN g)) ++ ccW ct d g (List.range (gc g)))) H → va_D A ((qn, .inr (0, [.ref u.1, .ref u.2.1, .ref u.2.2])) :: (u.1, .inl (ct 0, 5, .inl (fun j => nI (if j < i then cX (newCo g) j else 0)))) :: (u.2.1, .inl (ct 0, 5, .inl (fun _ => 0))) :: (u.2.2, .inl (ct 0, 5, .inl (fun _ => 0))) :: ((b 0), .inr (2, [.ref (b 1), .ref (b 2), .ref (b 3), .int (nI (gd g)), .ref (b 4)])) :: ((b 1), .inl (ct 1, 5, .inr (.inr (.inr (.inr (rfs (gN g) d.1)))))) :: ((b 2), .inl (ct 2, 6, .inr (.inr (.inr (.inr (rfs (gc g) d.2.1)))))) :: ((b 3), .inl (ct 0, 24, .inl (fun j => nI (gD g j)))) :: ((b 4), .inl (ct 0, 144, .inl d.2.2)) :: (ssW ct d g (List.range (gN g)) ++ ccW ct d g (List.range (gc g)))) → va_S A s.heap H locs → ∀ (ls : Array Slot), lv_has ls 4 [(0, .ref (b 0)), (1, .ref qn), (2, .int (nI i))] → W p l e (headSpec wsX2_contestOfDraft ({ frames := 3, cells := 4, slots := 18, locals := 69 })).room s m ([.ref (b 0)] : List Value).toArray below meth c H locs 4 18 (MQ below (va_Qr (fun _ : Nat × Nat × Nat => True) (fun u q t => va_P D vwCl (hkW ct b d g ++ coW ct (adr4 q u) (newCo g)) t.heap ∧ va_D A (hkW ct b d g ++ coW ct (adr4 q u) (newCo g))) A) ([.ref (b 0)] : List Value).toArray s 4 18 A) (F0 m 10 ls []) := by
    intro k
    induction k with
    | zero => intro i hk; intros; exact absurd hk (by omega)
    | succ k ih_loop =>
      intro i hk hi H locs hP hD hS ls hl
      refine lv_iload_n hx hb dX2_contestOfDraft_10 rfl (lv_at hl 2 rfl) ?_
      refine lv_aload_n hx hb dX2_contestOfDraft_11 rfl (lv_at hl 0 rfl) ?_
      refine va_get (D := D) (ci := 2) (v := .ref (b 1)) (C := RX2) (T := TX2) (N := 5) hx hb hts hin2 hown hE.1 hP 4 rfl rfl 0 (by decide) (hts (.fieldLink RX2 11 "Homekeys" "students" "[LHomekeys$Student;") (by decide +kernel)) (fun _ h9 => h9) rfl dX2_contestOfDraft_12 ?_
      refine hk_alen1 hx hb hE hP 5 rfl dX2_contestOfDraft_15 ?_
      refine hk_geN (tgt := 61) hx hb (by omega) (by omega) dX2_contestOfDraft_16 (by decide) (fun hc => ?_) (fun hc => ?_)
      · obtain rfl : i = 5 := by omega
        refine lv_aload_n hx hb dX2_contestOfDraft_61 rfl (lv_at hl 1 rfl) ?_
        have hP9 : va_P D vwCl (hkW ct b d g ++ coW ct (adr4 qn u) (newCo g)) H := by rw [coW_new ct qn u g hN5 hd24]; exact va_P.perm hP (List.perm_append_comm (l₁ := hkW ct b d g) (l₂ := ([(qn, .inr (0, [.ref u.1, .ref u.2.1, .ref u.2.2])), (u.1, .inl (ct 0, 5, .inl (fun j => nI (if j < 5 then cX (newCo g) j else 0)))), (u.2.1, .inl (ct 0, 5, .inl (fun _ => 0))), (u.2.2, .inl (ct 0, 5, .inl (fun _ => 0)))] : va_W)))
        have hD9 : va_D A (hkW ct b d g ++ coW ct (adr4 qn u) (newCo g)) := by rw [coW_new ct qn u g hN5 hd24]; exact va_D.perm hD (List.perm_append_comm (l₁ := hkW ct b d g) (l₂ := ([(qn, .inr (0, [.ref u.1, .ref u.2.1, .ref u.2.2])), (u.1, .inl (ct 0, 5, .inl (fun j => nI (if j < 5 then cX (newCo g) j else 0)))), (u.2.1, .inl (ct 0, 5, .inl (fun _ => 0))), (u.2.2, .inl (ct 0, 5, .inl (fun _ => 0)))] : va_W)))
        exact W.aret (v := .ref qn) hx hb hr (Or.inl ⟨_, rfl⟩) (Or.inr ⟨_, rfl⟩) (fun t ht hW => ⟨⟨u, qn, rfl, trivial, by rw [ht]; exact hP9, hD9⟩, hS.F ht⟩) hS.2.2 dX2_contestOfDraft_62
      · refine lv_aload_n hx hb dX2_contestOfDraft_19 rfl (lv_at hl 0 rfl) ?_
        refine va_get (D := D) (ci := 2) (v := .ref (b 1)) (C := RX2) (T := TX2) (N := 5) hx hb hts hin2 hown hE.1 hP 4 rfl rfl 0 (by decide) (hts (.fieldLink RX2 11 "Homekeys" "students" "[LHomekeys$Student;") (by decide +kernel)) (fun _ h9 => h9) rfl dX2_contestOfDraft_20 ?_
        refine lv_iload_n hx hb dX2_contestOfDraft_23 rfl (lv_at hl 2 rfl) ?_
        refine hk_aald1 hx hb hE hP 5 rfl (j := i) (by omega) (by omega) dX2_contestOfDraft_24 ?_
        by_cases hin : i < gN g
        · refine hk_topr (a := (d.1 i 0)) (rfs_in hin) ?_
          refine lv_astore_n (lv' := [(3, .ref (d.1 i 0)), (0, .ref (b 0)), (1, .ref qn), (2, .int (nI i))]) hx hb dX2_contestOfDraft_25 rfl hl (by decide) rfl (fun ls hl => ?_)
          refine lv_aload_n hx hb dX2_contestOfDraft_26 rfl (lv_at hl 0 rfl) ?_
          refine lv_ifnull hx hb dX2_contestOfDraft_27 ?_
          obtain ⟨hKu, hLu, hKL, hqu, hTu, hYu⟩ := hSt i
          refine lv_aload_n hx hb dX2_contestOfDraft_30 rfl (lv_at hl 2 rfl) ?_
          refine va_getN (D := D) (host := RX2) (ci := 0) (v := .ref u.1) (C := RX0) (T := TX0) (N := 3) hx hb hts hin0 hown hE.1 hP 0 rfl rfl 0 (by decide) (hE.use hkN_X2_182) (fun _ h9 => h9) rfl dX2_contestOfDraft_31 ?_
          refine lv_iload_n hx hb dX2_contestOfDraft_34 rfl (lv_at hl 3 rfl) ?_
          refine lv_aload_n hx hb dX2_contestOfDraft_35 rfl (lv_at hl 1 rfl) ?_
          refine va_get (D := D) (ci := 2) (v := .ref (b 3)) (C := RX2) (T := TX2) (N := 5) hx hb hts hin2 hown hE.1 hP 4 rfl rfl 2 (by decide) (hts (.fieldLink RX2 21 "Homekeys" "draft" "[I") (by decide +kernel)) (fun _ h9 => h9) rfl dX2_contestOfDraft_36 ?_
          refine lv_aload_n hx hb dX2_contestOfDraft_39 rfl (lv_at hl 1 rfl) ?_
          refine va_get (D := D) (ci := 2) (v := .int (nI (gd g))) (C := RX2) (T := TX2) (N := 5) hx hb hts hin2 hown hE.1 hP 4 rfl rfl 3 (by decide) (hts (.fieldLink RX2 25 "Homekeys" "drafted" "I") (by decide +kernel)) (fun _ h9 => h9) rfl dX2_contestOfDraft_40 ?_
          refine lv_aload_n hx hb dX2_contestOfDraft_43 rfl (lv_at hl 0 rfl) ?_
          have hPi : va_P D vwCl [((d.1 i 0), .inr (1, [.ref (d.1 i 1), .ref (d.1 i 2), .int (sY (gS g i)), .ref (d.1 i 3), .ref (d.1 i 4), .ref (d.1 i 5), .int (nI (sq (gS g i))), .int (sC (gS g i))])), ((d.1 i 1), .inl (ct 0, 12, .inl (fun j => nI (sK (gS g i) j)))), ((d.1 i 2), .inl (ct 0, 12, .inl (fun j => nI (sL (gS g i) j)))), ((d.1 i 3), .inl (ct 0, 12, .inl (sS (gS g i)))), ((d.1 i 4), .inl (ct 0, 144, .inl (sP (gS g i)))), ((d.1 i 5), .inl (ct 0, 30, .inl (fun j => nI (sT (gS g i) j))))] H := va_P.mem hP (fun q hq => List.mem_append_right ([(qn, .inr (0, [.ref u.1, .ref u.2.1, .ref u.2.2])), (u.1, .inl (ct 0, 5, .inl (fun j => nI (if j < i then cX (newCo g) j else 0)))), (u.2.1, .inl (ct 0, 5, .inl (fun _ => 0))), (u.2.2, .inl (ct 0, 5, .inl (fun _ => 0)))] : va_W) (hkW_memS (b := b) hin q hq))
          refine va_getN (D := D) (host := RX2) (ci := 1) (v := .ref (d.1 i 1)) (C := RX1) (T := TX1) (N := 8) hx hb hts hin1 hown hE.1 hPi 0 rfl rfl 0 (by decide) (hE.use hkN_X2_67) (fun _ h9 => h9) rfl dX2_contestOfDraft_44 ?_
          refine lv_iconst (v := (-1)) hx hb dX2_contestOfDraft_47 (by decide) ?_
          refine lv_iconst (v := (-1)) hx hb dX2_contestOfDraft_48 (by decide) ?_
          refine hk_R (rest := [.int (nI i), .ref u.1]) (va_Run.run (va_runS (As := [.ref (b 3), .int (nI (gd g)), .ref (d.1 i 1), .int (-1), .int (-1)]) (rest := [.int (nI i), .ref u.1]) ⟨hx, hb, hml, hown, hts⟩ (c_X2_textTime l D ct sa (b 3) (d.1 i 1) (gd g) 24 (gD g) (sK (gS g i)) (gk (sK (gS g i)) (gD g)) (-1) (-1) (by decide) hd24 (fun p _ => hDr p) (fun p _ => ⟨hkSw_m1 (hKu _ (hDr p)), hKu _ (hDr p)⟩)) (va_cwS 5 hts gX2_contestOfDraft_X2_textTime rfl rfl rfl (by decide +kernel) ⟨Nat.le_of_ble_eq_true rfl, Nat.le_of_ble_eq_true rfl⟩) (hk_preS hE ((hP.sub (ws' := [((b 3), .inl (ct 0, 24, .inl (fun j => nI (gD g j))))]) [7] rfl).app (hPi.sub (ws' := [((d.1 i 1), .inl (ct 0, 12, .inl (fun j => nI (sK (gS g i) j))))]) [1] rfl))) rfl rfl hl.1 rfl (lv_room (Nat.le_of_ble_eq_true rfl)) dX2_contestOfDraft_49 ⟨Nat.le_of_ble_eq_true rfl, Nat.le_of_ble_eq_true rfl⟩)) ?_
          refine hk_M (rest := []) (va_Run.run (va_runS (As := [.ref u.1, .int (nI i), .int (nI (tt (gk (sK (gS g i)) (gD g)) (gd g)))]) (rest := []) ⟨hx, hb, hml, hown, hts⟩ (c_X2_put l D ct sa u.1 5 (fun j => nI (if j < i then cX (newCo g) j else 0)) i (nI (tt (gk (sK (gS g i)) (gD g)) (gd g))) (by decide) (by omega)) (va_cwS 3 hts gX2_contestOfDraft_X2_put rfl rfl rfl (by decide +kernel) ⟨Nat.le_of_ble_eq_true rfl, Nat.le_of_ble_eq_true rfl⟩) (hk_preS hE ⟨hP.sub (ws' := [(u.1, .inl (ct 0, 5, .inl (fun j => nI (if j < i then cX (newCo g) j else 0))))]) [1] rfl, (hD.sub (ws' := [(u.1, .inl (ct 0, 5, .inl (fun j => nI (if j < i then cX (newCo g) j else 0))))]) [1] (by decide) rfl).weaken (fun _ _ _ _ => trivial)⟩) rfl rfl hl.1 rfl (lv_room (Nat.le_of_ble_eq_true rfl)) dX2_contestOfDraft_52 ⟨Nat.le_of_ble_eq_true rfl, Nat.le_of_ble_eq_true rfl⟩)) hP hD hS [1] (wc := [(u.1, .inl (ct 0, 5, .inl (fun j => nI (if j < i then cX (newCo g) j else 0))))]) rfl rfl rfl (fun H locs hP hD hS => ?_)
          have hP : va_P D vwCl ((qn, .inr (0, [.ref u.1, .ref u.2.1, .ref u.2.2])) :: (u.1, .inl (ct 0, 5, .inl (upd (fun j => nI (if j < i then cX (newCo g) j else 0)) i (nI (tt (gk (sK (gS g i)) (gD g)) (gd g)))))) :: (u.2.1, .inl (ct 0, 5, .inl (fun _ => 0))) :: (u.2.2, .inl (ct 0, 5, .inl (fun _ => 0))) :: ((b 0), .inr (2, [.ref (b 1), .ref (b 2), .ref (b 3), .int (nI (gd g)), .ref (b 4)])) :: ((b 1), .inl (ct 1, 5, .inr (.inr (.inr (.inr (rfs (gN g) d.1)))))) :: ((b 2), .inl (ct 2, 6, .inr (.inr (.inr (.inr (rfs (gc g) d.2.1)))))) :: ((b 3), .inl (ct 0, 24, .inl (fun j => nI (gD g j)))) :: ((b 4), .inl (ct 0, 144, .inl d.2.2)) :: (ssW ct d g (List.range (gN g)) ++ ccW ct d g (List.range (gc g)))) H := hP
          have hD : va_D A ((qn, .inr (0, [.ref u.1, .ref u.2.1, .ref u.2.2])) :: (u.1, .inl (ct 0, 5, .inl (upd (fun j => nI (if j < i then cX (newCo g) j else 0)) i (nI (tt (gk (sK (gS g i)) (gD g)) (gd g)))))) :: (u.2.1, .inl (ct 0, 5, .inl (fun _ => 0))) :: (u.2.2, .inl (ct 0, 5, .inl (fun _ => 0))) :: ((b 0), .inr (2, [.ref (b 1), .ref (b 2), .ref (b 3), .int (nI (gd g)), .ref (b 4)])) :: ((b 1), .inl (ct 1, 5, .inr (.inr (.inr (.inr (rfs (gN g) d.1)))))) :: ((b 2), .inl (ct 2, 6, .inr (.inr (.inr (.inr (rfs (gc g) d.2.1)))))) :: ((b 3), .inl (ct 0, 24, .inl (fun j => nI (gD g j)))) :: ((b 4), .inl (ct 0, 144, .inl d.2.2)) :: (ssW ct d g (List.range (gN g)) ++ ccW ct d g (List.range (gc g)))) := hD
          have hP : va_P D vwCl ((qn, .inr (0, [.ref u.1, .ref u.2.1, .ref u.2.2])) :: (u.1, .inl (ct 0, 5, .inl (fun j => nI (if j < (i + 1) then cX (newCo g) j else 0)))) :: (u.2.1, .inl (ct 0, 5, .inl (fun _ => 0))) :: (u.2.2, .inl (ct 0, 5, .inl (fun _ => 0))) :: ((b 0), .inr (2, [.ref (b 1), .ref (b 2), .ref (b 3), .int (nI (gd g)), .ref (b 4)])) :: ((b 1), .inl (ct 1, 5, .inr (.inr (.inr (.inr (rfs (gN g) d.1)))))) :: ((b 2), .inl (ct 2, 6, .inr (.inr (.inr (.inr (rfs (gc g) d.2.1)))))) :: ((b 3), .inl (ct 0, 24, .inl (fun j => nI (gD g j)))) :: ((b 4), .inl (ct 0, 144, .inl d.2.2)) :: (ssW ct d g (List.range (gN g)) ++ ccW ct d g (List.range (gc g)))) H := by rw [← nc_upd g hin]; exact hP
          have hD : va_D A ((qn, .inr (0, [.ref u.1, .ref u.2.1, .ref u.2.2])) :: (u.1, .inl (ct 0, 5, .inl (fun j => nI (if j < (i + 1) then cX (newCo g) j else 0)))) :: (u.2.1, .inl (ct 0, 5, .inl (fun _ => 0))) :: (u.2.2, .inl (ct 0, 5, .inl (fun _ => 0))) :: ((b 0), .inr (2, [.ref (b 1), .ref (b 2), .ref (b 3), .int (nI (gd g)), .ref (b 4)])) :: ((b 1), .inl (ct 1, 5, .inr (.inr (.inr (.inr (rfs (gN g) d.1)))))) :: ((b 2), .inl (ct 2, 6, .inr (.inr (.inr (.inr (rfs (gc g) d.2.1)))))) :: ((b 3), .inl (ct 0, 24, .inl (fun j => nI (gD g j)))) :: ((b 4), .inl (ct 0, 144, .inl d.2.2)) :: (ssW ct d g (List.range (gN g)) ++ ccW ct d g (List.range (gc g)))) := by rw [← nc_upd g hin]; exact hD
          refine lv_iinc (v := nI (i + 1)) (lv' := [(2, .int (nI (i + 1))), (3, .ref (d.1 i 0)), (0, .ref (b 0)), (1, .ref qn)]) hx hb dX2_contestOfDraft_55 hl (k := 3) rfl (nI_add _ _) (by decide) rfl (fun ls hl => ?_)
          refine lv_goto (tgt := 10) hx hb dX2_contestOfDraft_58 (by decide) ?_
          exact ih_loop (i + 1) (by omega) (by omega) H locs hP hD hS ls (lv_sub hl [2, 3, 0] rfl)
        · refine hk_topn (rfs_out hin) ?_
          refine lv_astore_nN (lv' := [(3, .null), (0, .ref (b 0)), (1, .ref qn), (2, .int (nI i))]) hx hb dX2_contestOfDraft_25 rfl hl (by decide) rfl (fun ls hl => ?_)
          refine lv_aload_nN hx hb dX2_contestOfDraft_26 rfl (lv_at hl 0 rfl) ?_
          refine lv_ifnullN (tgt := 55) hx hb dX2_contestOfDraft_27 (by decide) ?_
          have hP : va_P D vwCl ((qn, .inr (0, [.ref u.1, .ref u.2.1, .ref u.2.2])) :: (u.1, .inl (ct 0, 5, .inl (fun j => nI (if j < (i + 1) then cX (newCo g) j else 0)))) :: (u.2.1, .inl (ct 0, 5, .inl (fun _ => 0))) :: (u.2.2, .inl (ct 0, 5, .inl (fun _ => 0))) :: ((b 0), .inr (2, [.ref (b 1), .ref (b 2), .ref (b 3), .int (nI (gd g)), .ref (b 4)])) :: ((b 1), .inl (ct 1, 5, .inr (.inr (.inr (.inr (rfs (gN g) d.1)))))) :: ((b 2), .inl (ct 2, 6, .inr (.inr (.inr (.inr (rfs (gc g) d.2.1)))))) :: ((b 3), .inl (ct 0, 24, .inl (fun j => nI (gD g j)))) :: ((b 4), .inl (ct 0, 144, .inl d.2.2)) :: (ssW ct d g (List.range (gN g)) ++ ccW ct d g (List.range (gc g)))) H := by rw [← nc_skip g hin]; exact hP
          have hD : va_D A ((qn, .inr (0, [.ref u.1, .ref u.2.1, .ref u.2.2])) :: (u.1, .inl (ct 0, 5, .inl (fun j => nI (if j < (i + 1) then cX (newCo g) j else 0)))) :: (u.2.1, .inl (ct 0, 5, .inl (fun _ => 0))) :: (u.2.2, .inl (ct 0, 5, .inl (fun _ => 0))) :: ((b 0), .inr (2, [.ref (b 1), .ref (b 2), .ref (b 3), .int (nI (gd g)), .ref (b 4)])) :: ((b 1), .inl (ct 1, 5, .inr (.inr (.inr (.inr (rfs (gN g) d.1)))))) :: ((b 2), .inl (ct 2, 6, .inr (.inr (.inr (.inr (rfs (gc g) d.2.1)))))) :: ((b 3), .inl (ct 0, 24, .inl (fun j => nI (gD g j)))) :: ((b 4), .inl (ct 0, 144, .inl d.2.2)) :: (ssW ct d g (List.range (gN g)) ++ ccW ct d g (List.range (gc g)))) := by rw [← nc_skip g hin]; exact hD
          refine lv_iinc (v := nI (i + 1)) (lv' := [(2, .int (nI (i + 1))), (3, .null), (0, .ref (b 0)), (1, .ref qn)]) hx hb dX2_contestOfDraft_55 hl (k := 3) rfl (nI_add _ _) (by decide) rfl (fun ls hl => ?_)
          refine lv_goto (tgt := 10) hx hb dX2_contestOfDraft_58 (by decide) ?_
          exact ih_loop (i + 1) (by omega) (by omega) H locs hP hD hS ls (lv_sub hl [2, 3, 0] rfl)
  exact loop 6 0 (by omega) (by omega) H locs hP hD hS ls (lv_sub hl [2, 1, 0] rfl)

set_option maxHeartbeats 4000000 in
set_option maxRecDepth 100000 in
theorem c_X2_contest (l : Launch) (hfl : l.flags = flags0) (D : va_G) (ct : Nat → ClassId) (sa : Nat → Nat) (G0 : Nat) (sz : Nat) (b : Nat → Nat) (d : Ad) (g : Sg)  (hI : Inv g) : vx_Met l yX2_contest wsX2_contest ({ frames := 6, cells := 4, slots := 18, locals := 92 }) (hkPx D ct sa G0 [.ref (b 0)] (hkFP D ct b d g G0 sz)) (hkFQ D ct b (va_A (hkW ct b d g) sz) (opContest g)) (hkXC (hkOk ["java/lang/IllegalStateException"] (opContest g).1)) 4 18 (va_A (hkW ct b d g) sz) := by
  refine vx_ofW (cc := cX2_contest) (maxL := 2) (ret := (some .int)) (by decide) rfl ?_
  intro p e s m args below meth c s₁ B hml hout hv
  obtain ⟨rfl, hE, hH, hp⟩ := hv
  have hx := B.exec
  have hb := B.bytes
  have hr := B.returns
  have hts := atoms_spec (ws := wsX2_contest) B.pre
  have hown : s.vm.findClass RX2 = some m.cls := findClass_of_methodNamed B.named
  have hlocks := B.notSynchronized
  have hin2 : ∀ w ∈ wsX20, w ∈ wsX2_contest := by decide +kernel
  obtain ⟨hsz, hPW, hD0⟩ := hp
  subst hsz
  have hDW := hD0.self (sz := s.heap.size)
  generalize hAe : va_A (hkW ct b d g) s.heap.size = A at hDW ⊢
  have hA : ∀ q : Nat, s.heap.size ≤ q → A q := fun q h => by rw [← hAe]; exact Or.inr h
  have hS : va_S A s.heap s.heap [] := va_S.rf
  obtain ⟨hN5, hd24, hc6, hSt, hDr, hNs, hCs, hCo⟩ := id hI
  have hl := lv_entry ([.ref (b 0)]) (n := 2) (Nat.le_of_ble_eq_true rfl)
  rw [lg_entry_eq]
  generalize (lg_sl ([.ref (b 0)]) ++ List.replicate (2 - (lg_sl ([.ref (b 0)])).length) Slot.unset).toArray = ls at hl ⊢
  have hl : lv_has ls 2 [(0, .ref (b 0))] := hl
  have hP : va_P D vwCl (((b 0), .inr (2, [.ref (b 1), .ref (b 2), .ref (b 3), .int (nI (gd g)), .ref (b 4)])) :: ((b 1), .inl (ct 1, 5, .inr (.inr (.inr (.inr (rfs (gN g) d.1)))))) :: ((b 2), .inl (ct 2, 6, .inr (.inr (.inr (.inr (rfs (gc g) d.2.1)))))) :: ((b 3), .inl (ct 0, 24, .inl (fun j => nI (gD g j)))) :: ((b 4), .inl (ct 0, 144, .inl d.2.2)) :: (ssW ct d g (List.range (gN g)) ++ ccW ct d g (List.range (gc g)))) s.heap := hPW
  have hD : va_D A (((b 0), .inr (2, [.ref (b 1), .ref (b 2), .ref (b 3), .int (nI (gd g)), .ref (b 4)])) :: ((b 1), .inl (ct 1, 5, .inr (.inr (.inr (.inr (rfs (gN g) d.1)))))) :: ((b 2), .inl (ct 2, 6, .inr (.inr (.inr (.inr (rfs (gc g) d.2.1)))))) :: ((b 3), .inl (ct 0, 24, .inl (fun j => nI (gD g j)))) :: ((b 4), .inl (ct 0, 144, .inl d.2.2)) :: (ssW ct d g (List.range (gN g)) ++ ccW ct d g (List.range (gc g)))) := hDW
  refine lv_aload_n hx hb dX2_contest_0 rfl (lv_at hl 0 rfl) ?_
  refine va_get (D := D) (ci := 2) (v := .int (nI (gd g))) (C := RX2) (T := TX2) (N := 5) hx hb hts hin2 hown hE.1 hP 0 rfl rfl 3 (by decide) (hts (.fieldLink RX2 25 "Homekeys" "drafted" "I") (by decide +kernel)) (fun _ h9 => h9) rfl dX2_contest_1 ?_
  refine hk_ne0N (tgt := 17) hx hb (by omega) dX2_contest_4 (by decide) (fun hc => ?_) (fun hc => ?_)
  · refine lv_aload_n hx hb dX2_contest_17 rfl (lv_at hl 0 rfl) ?_
    refine va_get (D := D) (ci := 2) (v := .ref (b 1)) (C := RX2) (T := TX2) (N := 5) hx hb hts hin2 hown hE.1 hP 0 rfl rfl 0 (by decide) (hts (.fieldLink RX2 11 "Homekeys" "students" "[LHomekeys$Student;") (by decide +kernel)) (fun _ h9 => h9) rfl dX2_contest_18 ?_
    refine lv_iconst (v := nI 0) hx hb dX2_contest_21 (by decide) ?_
    refine hk_aald1 hx hb hE hP 1 rfl (j := 0) (by omega) (by omega) dX2_contest_22 ?_
    by_cases h0n : 0 < gN g
    · refine hk_topr (a := (d.1 0 0)) (rfs_in h0n) ?_
      refine lv_ifnonnull (tgt := 36) hx hb dX2_contest_23 (by decide) ?_
      refine lv_iconst (v := nI 0) hx hb dX2_contest_36 (by decide) ?_
      refine lv_istore_n (lv' := [(1, .int (nI 0)), (0, .ref (b 0))]) hx hb dX2_contest_37 rfl hl (by decide) rfl (fun ls hl => ?_)
      have loop : ∀ (k : Nat) (i : Nat), 6 < i + k → i ≤ gc g → ∀ (ls : Array Slot), lv_has ls 2 [(0, .ref (b 0)), (1, .int (nI i))] → W p l e (headSpec wsX2_contest ({ frames := 6, cells := 4, slots := 18, locals := 92 })).room s m ([.ref (b 0)] : List Value).toArray below meth c s.heap [] 0 0 (vx_MQ below (hkFQ D ct b A (opContest g)) (hkXC (hkOk ["java/lang/IllegalStateException"] (opContest g).1)) ([.ref (b 0)] : List Value).toArray s 4 18 A) (F0 m 38 ls []) := by
        intro k
        induction k with
        | zero => intro i hk; intros; exact absurd hk (by omega)
        | succ k ih_loop =>
          intro i hk hi ls hl
          refine lv_iload_n hx hb dX2_contest_38 rfl (lv_at hl 1 rfl) ?_
          refine lv_aload_n hx hb dX2_contest_39 rfl (lv_at hl 0 rfl) ?_
          refine va_get (D := D) (ci := 2) (v := .ref (b 2)) (C := RX2) (T := TX2) (N := 5) hx hb hts hin2 hown hE.1 hP 0 rfl rfl 1 (by decide) (hts (.fieldLink RX2 17 "Homekeys" "contests" "[LHomekeys$Contest;") (by decide +kernel)) (fun _ h9 => h9) rfl dX2_contest_40 ?_
          refine hk_alen2 hx hb hE hP 2 rfl dX2_contest_43 ?_
          refine hk_geN (tgt := 79) hx hb (by omega) (by omega) dX2_contest_44 (by decide) (fun h6 => ?_) (fun h6 => ?_)
          · exact hk_throw (G0 := G0) hx hb hfl (cls := "java/lang/IllegalStateException") (text := "there were 6 contests") (ik := 33) (is := 143) (ic := 37) (k := 10) hown (by decide +kernel) (hts (.classLink RX2 33 "java/lang/IllegalStateException") (by decide +kernel)) (hts (.initialized "java/lang/IllegalStateException") (by decide +kernel)) (fun w hw => hts w (List.mem_cons_of_mem _ (List.mem_append_right _ hw))) hk_ng0 hk_ot0 hE hH (List.mem_of_getElem? (i := 10) rfl) (hl.1.trans hml.symm) dX2_contest_79 dX2_contest_82 dX2_contest_83 dX2_contest_85 dX2_contest_88 hout (Nat.le_of_ble_eq_true rfl) (Nat.le_of_ble_eq_true rfl) (Nat.le_of_ble_eq_true rfl) (Nat.le_of_ble_eq_true rfl) hlocks ⟨0, rfl, by rw [opContest, if_pos (Or.inr (Or.inr (show gc g = 6 by omega)))]; rfl⟩ (Nat.le_of_ble_eq_true rfl) (Nat.le_of_ble_eq_true rfl)
          · refine lv_aload_n hx hb dX2_contest_47 rfl (lv_at hl 0 rfl) ?_
            refine va_get (D := D) (ci := 2) (v := .ref (b 2)) (C := RX2) (T := TX2) (N := 5) hx hb hts hin2 hown hE.1 hP 0 rfl rfl 1 (by decide) (hts (.fieldLink RX2 17 "Homekeys" "contests" "[LHomekeys$Contest;") (by decide +kernel)) (fun _ h9 => h9) rfl dX2_contest_48 ?_
            refine lv_iload_n hx hb dX2_contest_51 rfl (lv_at hl 1 rfl) ?_
            refine hk_aald2 hx hb hE hP 2 rfl (j := i) (by omega) (by omega) dX2_contest_52 ?_
            by_cases hin : i < gc g
            · refine hk_topr (a := (d.2.1 i 0)) (rfs_in hin) ?_
              refine lv_ifnonnull (tgt := 73) hx hb dX2_contest_53 (by decide) ?_
              refine lv_iinc (v := nI (i + 1)) (lv' := [(1, .int (nI (i + 1))), (0, .ref (b 0))]) hx hb dX2_contest_73 hl (k := 1) rfl (nI_add _ _) (by decide) rfl (fun ls hl => ?_)
              refine lv_goto (tgt := 38) hx hb dX2_contest_76 (by decide) ?_
              exact ih_loop (i + 1) (by omega) (by omega) ls (lv_sub hl [1, 0] rfl)
            · refine hk_topn (rfs_out hin) ?_
              refine lv_ifnonnullN hx hb dX2_contest_53 ?_
              obtain rfl : i = gc g := by omega
              refine lv_aload_n hx hb dX2_contest_56 rfl (lv_at hl 0 rfl) ?_
              refine va_get (D := D) (ci := 2) (v := .ref (b 2)) (C := RX2) (T := TX2) (N := 5) hx hb hts hin2 hown hE.1 hP 0 rfl rfl 1 (by decide) (hts (.fieldLink RX2 17 "Homekeys" "contests" "[LHomekeys$Contest;") (by decide +kernel)) (fun _ h9 => h9) rfl dX2_contest_57 ?_
              refine lv_iload_n hx hb dX2_contest_60 rfl (lv_at hl 1 rfl) ?_
              refine lv_aload_n hx hb dX2_contest_61 rfl (lv_at hl 0 rfl) ?_
              refine va_callr (va_runV (As := []) (rest := [.int (nI (gc g)), .ref (b 2)]) ⟨hx, hb, hml, hown, hts⟩ (c_X2_contestOfDraft l D ct sa s.heap.size b d g hI) (cwV 0 hts gX2_contest_X2_contestOfDraft rfl rfl rfl (by decide +kernel) ⟨Nat.le_of_ble_eq_true rfl, Nat.le_of_ble_eq_true rfl⟩) (hk_preV hE (va_recv hE.1 hP (ci := 2) (q0 := 0) rfl rfl) ⟨rfl, hPW, hDW.weaken (fun _ _ _ _ => trivial)⟩) rfl rfl hl.1 rfl (lv_room (Nat.le_of_ble_eq_true rfl)) dX2_contest_62 ⟨Nat.le_of_ble_eq_true rfl, Nat.le_of_ble_eq_true rfl⟩) hS (fun q _ h => by rw [← hAe]; exact h) (fun q h => by rw [← hAe]; exact h) (fun u qn t H locs ht hvm hw hB hz1 hk1 hS => ?_)
              obtain ⟨hP, hD⟩ := hB
              rw [ht] at hP
              rw [hAe] at hD
              refine va_astq (r := (RX0, TX0, 3)) hx hb hE.1 hP hD hS 2 2 (hkW ct b d g).length 0 rfl rfl (hk_last _ _ _) rfl (vp_in_nI (by omega) (by decide)) dX2_contest_65 (fun H locs hP hD hS => ?_)
              rw [nI_clamp (by omega)] at hP hD
              have hP : va_P D vwCl (((b 0), .inr (2, [.ref (b 1), .ref (b 2), .ref (b 3), .int (nI (gd g)), .ref (b 4)])) :: ((b 1), .inl (ct 1, 5, .inr (.inr (.inr (.inr (rfs (gN g) d.1)))))) :: ((b 2), .inl (ct 2, 6, .inr (.inr (.inr (.inr (va_up (rfs (gc g) d.2.1) (gc g) (some qn))))))) :: ((b 3), .inl (ct 0, 24, .inl (fun j => nI (gD g j)))) :: ((b 4), .inl (ct 0, 144, .inl d.2.2)) :: ((ssW ct d g (List.range (gN g)) ++ ccW ct d g (List.range (gc g))) ++ coW ct (adr4 qn u) (newCo g))) H := hP
              have hD : va_D A (((b 0), .inr (2, [.ref (b 1), .ref (b 2), .ref (b 3), .int (nI (gd g)), .ref (b 4)])) :: ((b 1), .inl (ct 1, 5, .inr (.inr (.inr (.inr (rfs (gN g) d.1)))))) :: ((b 2), .inl (ct 2, 6, .inr (.inr (.inr (.inr (va_up (rfs (gc g) d.2.1) (gc g) (some qn))))))) :: ((b 3), .inl (ct 0, 24, .inl (fun j => nI (gD g j)))) :: ((b 4), .inl (ct 0, 144, .inl d.2.2)) :: ((ssW ct d g (List.range (gN g)) ++ ccW ct d g (List.range (gc g))) ++ coW ct (adr4 qn u) (newCo g))) := hD
              refine lv_aload_n hx hb dX2_contest_66 rfl (lv_at hl 0 rfl) ?_
              refine lv_iconst (v := nI 0) hx hb dX2_contest_67 (by decide) ?_
              refine va_put (D := D) (ci := 2) (v := .int (nI 0)) (ty := .int) (C := RX2) (T := TX2) (N := 5) hx hb hts hin2 tyX2 tyX2_ok nmX2 hown hE.1 hP hD hS 0 rfl rfl 3 (by decide) (hts (.fieldLink RX2 25 "Homekeys" "drafted" "I") (by decide +kernel)) (fun _ h9 => h9) rfl (by decide +kernel) rfl rfl (Nat.le_of_ble_eq_true rfl) dX2_contest_68 (fun H locs hP hD hS => ?_)
              have hP : va_P D vwCl (((b 0), .inr (2, [.ref (b 1), .ref (b 2), .ref (b 3), .int (nI 0), .ref (b 4)])) :: ((b 1), .inl (ct 1, 5, .inr (.inr (.inr (.inr (rfs (gN g) d.1)))))) :: ((b 2), .inl (ct 2, 6, .inr (.inr (.inr (.inr (va_up (rfs (gc g) d.2.1) (gc g) (some qn))))))) :: ((b 3), .inl (ct 0, 24, .inl (fun j => nI (gD g j)))) :: ((b 4), .inl (ct 0, 144, .inl d.2.2)) :: ((ssW ct d g (List.range (gN g)) ++ ccW ct d g (List.range (gc g))) ++ coW ct (adr4 qn u) (newCo g))) H := hP
              have hD : va_D A (((b 0), .inr (2, [.ref (b 1), .ref (b 2), .ref (b 3), .int (nI 0), .ref (b 4)])) :: ((b 1), .inl (ct 1, 5, .inr (.inr (.inr (.inr (rfs (gN g) d.1)))))) :: ((b 2), .inl (ct 2, 6, .inr (.inr (.inr (.inr (va_up (rfs (gc g) d.2.1) (gc g) (some qn))))))) :: ((b 3), .inl (ct 0, 24, .inl (fun j => nI (gD g j)))) :: ((b 4), .inl (ct 0, 144, .inl d.2.2)) :: ((ssW ct d g (List.range (gN g)) ++ ccW ct d g (List.range (gc g))) ++ coW ct (adr4 qn u) (newCo g))) := hD
              refine lv_iload_n hx hb dX2_contest_71 rfl (lv_at hl 1 rfl) ?_
              have hz : opContest g = (0, nI (gc g), gB g) := by rw [opContest, if_neg (by omega)]; rfl
              rw [hz]
              have hP9 : va_P D vwCl (hkW ct b (dB d (gc g) (adr4 qn u)) (gB g)) H := va_P.perm hP hkW_addC
              have hD9 : va_D A (hkW ct b (dB d (gc g) (adr4 qn u)) (gB g)) := va_D.perm hD hkW_addC
              refine W.widen (k := 4) (n := 18) (Nat.le_of_ble_eq_true rfl) (Nat.le_of_ble_eq_true rfl) ?_
              exact vx_ret (W.iret (v := nI (gc g)) hx hb hr (fun t ht hW => ⟨rfl, rfl, ⟨dB d (gc g) (adr4 qn u), by rw [ht]; exact hP9, hD9⟩, hS.F ht⟩) hS.2.2 dX2_contest_72)
      exact loop 7 0 (by omega) (by omega) ls (lv_sub hl [1, 0] rfl)
    · refine hk_topn (rfs_out h0n) ?_
      refine lv_ifnonnullN hx hb dX2_contest_23 ?_
      exact hk_throw (G0 := G0) hx hb hfl (cls := "java/lang/IllegalStateException") (text := "there are no students") (ik := 33) (is := 137) (ic := 37) (k := 9) hown (by decide +kernel) (hts (.classLink RX2 33 "java/lang/IllegalStateException") (by decide +kernel)) (hts (.initialized "java/lang/IllegalStateException") (by decide +kernel)) (fun w hw => hts w (List.mem_cons_of_mem _ (List.mem_append_right _ hw))) hk_ng0 hk_ot0 hE hH (List.mem_of_getElem? (i := 9) rfl) (hl.1.trans hml.symm) dX2_contest_26 dX2_contest_29 dX2_contest_30 dX2_contest_32 dX2_contest_35 hout (Nat.le_of_ble_eq_true rfl) (Nat.le_of_ble_eq_true rfl) (Nat.le_of_ble_eq_true rfl) (Nat.le_of_ble_eq_true rfl) hlocks ⟨0, rfl, by rw [opContest, if_pos (Or.inr (Or.inl (by omega)))]; rfl⟩ (Nat.le_of_ble_eq_true rfl) (Nat.le_of_ble_eq_true rfl)
  · exact hk_throw (G0 := G0) hx hb hfl (cls := "java/lang/IllegalStateException") (text := "the draft is empty") (ik := 33) (is := 135) (ic := 37) (k := 8) hown (by decide +kernel) (hts (.classLink RX2 33 "java/lang/IllegalStateException") (by decide +kernel)) (hts (.initialized "java/lang/IllegalStateException") (by decide +kernel)) (fun w hw => hts w (List.mem_cons_of_mem _ (List.mem_append_right _ hw))) hk_ng0 hk_ot0 hE hH (List.mem_of_getElem? (i := 8) rfl) (hl.1.trans hml.symm) dX2_contest_7 dX2_contest_10 dX2_contest_11 dX2_contest_13 dX2_contest_16 hout (Nat.le_of_ble_eq_true rfl) (Nat.le_of_ble_eq_true rfl) (Nat.le_of_ble_eq_true rfl) (Nat.le_of_ble_eq_true rfl) hlocks ⟨0, rfl, by rw [opContest, if_pos (Or.inl hc)]; rfl⟩ (Nat.le_of_ble_eq_true rfl) (Nat.le_of_ble_eq_true rfl)
