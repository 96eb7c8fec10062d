theorem hk_mem {ws : va_W} {k : Nat} {q : Nat × va_E} (h : ws[k]? = some q) : q.1 ∈ ws.map (fun z => z.1) := List.mem_map.mpr ⟨q, List.mem_of_getElem? h, rfl⟩
set_option maxHeartbeats 4000000 in
set_option maxRecDepth 100000 in
/-- row[place], 0 out of range -/
theorem c_X2_at (l : Launch) (D : va_G) (ct : Nat → ClassId) (sa : Nat → Nat) (a N : Nat) (f : Nat → Int32) (x : Int32) (hN : N < 2 ^ 31) : Met l yX2_at wsX2_at ({ frames := 0, cells := 0, slots := 0, locals := 0 }) (hkPc D ct sa [.ref a, .int x] (fun H => va_P D vwCl [(a, .inl (ct 0, N, .inl f))] H)) (QcRead (hkAt N f x)) 0 0 (fun _ => False) := by
  refine Met.ofW (cc := cX2_at) (maxL := 2) (ret := (some .int)) (by decide) rfl ?_
  intro p e s m args below meth c s₁ B hml hv
  obtain ⟨rfl, hE, hP⟩ := hv
  have hx := B.exec
  have hb := B.bytes
  have hr := B.returns
  have hts := atoms_spec (ws := wsX2_at) B.pre
  have hown : s.vm.findClass RX2 = some m.cls := findClass_of_methodNamed B.named
  have hlocks := B.notSynchronized
  have hl := lv_entry ([.ref a, .int x]) (n := 2) (Nat.le_of_ble_eq_true rfl)
  rw [lg_entry_eq]
  generalize (lg_sl ([.ref a, .int x]) ++ List.replicate (2 - (lg_sl ([.ref a, .int x])).length) Slot.unset).toArray = ls at hl ⊢
  have hl : lv_has ls 2 [(0, .ref a), (1, .int x)] := hl
  refine lv_iload_n hx hb dX2_at_0 rfl (lv_at hl 1 rfl) ?_
  refine lv_if_lt (tgt := 16) hx hb dX2_at_1 (by decide) (fun hc => ?_) (fun c0 => ?_)
  · refine lv_iconst (v := nI 0) hx hb dX2_at_16 (by decide) ?_
    exact W.iret (v := nI 0) hx hb hr (fun t ht hW => ⟨by rw [hkAt_out hN (Or.inl hc)]; rfl, ht⟩) (fun _ h => nomatch h) dX2_at_17
  · refine lv_iload_n hx hb dX2_at_4 rfl (lv_at hl 1 rfl) ?_
    refine lv_aload_n hx hb dX2_at_5 rfl (lv_at hl 0 rfl) ?_
    refine hk_alen0 hx hb hE hP 0 rfl dX2_at_6 ?_
    refine lv_icmp_ge (tgt := 16) hx hb dX2_at_7 (by decide) (fun hc => ?_) (fun hc => ?_)
    · refine lv_iconst (v := nI 0) hx hb dX2_at_16 (by decide) ?_
      exact W.iret (v := nI 0) hx hb hr (fun t ht hW => ⟨by rw [hkAt_out hN (Or.inr hc)]; rfl, ht⟩) (fun _ h => nomatch h) dX2_at_17
    · obtain ⟨j, hj, rfl⟩ := hk_ix hN c0 hc
      refine lv_aload_n hx hb dX2_at_10 rfl (lv_at hl 0 rfl) ?_
      refine lv_iload_n hx hb dX2_at_11 rfl (lv_at hl 1 rfl) ?_
      refine hk_iald hx hb hE hP 0 rfl (j := j) (by omega) (by omega) dX2_at_12 ?_
      refine lv_goto (tgt := 17) hx hb dX2_at_13 (by decide) ?_
      exact W.iret (v := f j) hx hb hr (fun t ht hW => ⟨by rw [hkAt_in hj hN], ht⟩) (fun _ h => nomatch h) dX2_at_17

set_option maxHeartbeats 4000000 in
set_option maxRecDepth 100000 in
/-- row[j] = x, in range -/
theorem c_X2_put (l : Launch) (D : va_G) (ct : Nat → ClassId) (sa : Nat → Nat) (a N : Nat) (f : Nat → Int32) (j : Nat) (x : Int32) (hN : N < 2 ^ 31) (hj : j < N) : Met l yX2_put wsX2_put ({ frames := 0, cells := 0, slots := 0, locals := 0 }) (hkPc D ct sa [.ref a, .int (nI j), .int x] (fun H => va_P D vwCl [(a, .inl (ct 0, N, .inl f))] H ∧ va_D (fun _ => True) [(a, .inl (ct 0, N, .inl f))])) (hkQ none D [(a, .inl (ct 0, N, .inl (upd f j x)))] [a]) 0 0 (hkA [a]) := by
  refine Met.ofW (cc := cX2_put) (maxL := 3) (ret := none) (by decide) rfl ?_
  intro p e s m args below meth c s₁ B hml hv
  obtain ⟨rfl, hE, hp⟩ := hv
  have hx := B.exec
  have hb := B.bytes
  have hr := B.returns
  have hts := atoms_spec (ws := wsX2_put) B.pre
  have hown : s.vm.findClass RX2 = some m.cls := findClass_of_methodNamed B.named
  have hlocks := B.notSynchronized
  obtain ⟨hP, hD0⟩ := hp
  have hD : va_D (hkA [a]) [(a, .inl (ct 0, N, .inl f))] := hD0.weaken (fun k q hk _ => hk_mem hk)
  have hS : va_S (hkA [a]) s.heap s.heap [] := va_S.rf
  have hl := lv_entry ([.ref a, .int (nI j), .int x]) (n := 3) (Nat.le_of_ble_eq_true rfl)
  rw [lg_entry_eq]
  generalize (lg_sl ([.ref a, .int (nI j), .int x]) ++ List.replicate (3 - (lg_sl ([.ref a, .int (nI j), .int x])).length) Slot.unset).toArray = ls at hl ⊢
  have hl : lv_has ls 3 [(0, .ref a), (1, .int (nI j)), (2, .int x)] := hl
  refine lv_iload_n hx hb dX2_put_0 rfl (lv_at hl 1 rfl) ?_
  refine hk_lt0N (tgt := 14) hx hb (by omega) dX2_put_1 (by decide) ?_
  refine lv_iload_n hx hb dX2_put_4 rfl (lv_at hl 1 rfl) ?_
  refine lv_aload_n hx hb dX2_put_5 rfl (lv_at hl 0 rfl) ?_
  refine hk_alen0 hx hb hE hP 0 rfl dX2_put_6 ?_
  refine hk_geN (tgt := 14) hx hb (by omega) (by omega) dX2_put_7 (by decide) (fun hc => ?_) (fun hc => ?_)
  · exact absurd hc (by omega)
  · refine lv_aload_n hx hb dX2_put_10 rfl (lv_at hl 0 rfl) ?_
    refine lv_iload_n hx hb dX2_put_11 rfl (lv_at hl 1 rfl) ?_
    refine lv_iload_n hx hb dX2_put_12 rfl (lv_at hl 2 rfl) ?_
    refine hk_iast hx hb hE hP hD hS 0 rfl (j := j) (x := x) (by omega) (by omega) dX2_put_13 (fun H locs hP hD hS => ?_)
    have hP : va_P D vwCl [(a, .inl (ct 0, N, .inl (upd f j x)))] H := hP
    have hD : va_D (hkA [a]) [(a, .inl (ct 0, N, .inl (upd f j x)))] := hD
    have hP9 : va_P D vwCl [(a, .inl (ct 0, N, .inl (upd f j x)))] H := hP
    exact W.vret hx hb hr (fun t ht hW => ⟨rfl, by rw [ht]; exact hP9, by rw [ht]; exact ⟨hS.1, hS.2.1⟩⟩) hS.2.2 dX2_put_14

set_option maxHeartbeats 4000000 in
set_option maxRecDepth 100000 in
theorem c_X2_fingerOf (l : Launch) (D : va_G) (ct : Nat → ClassId) (sa : Nat → Nat) (k : Nat) (hk : k < 12) : Met l yX2_fingerOf wsX2_fingerOf ({ frames := 0, cells := 0, slots := 0, locals := 0 }) (hkPc D ct sa [.int (nI k)] (fun _ => True)) (QcRead (nI (k % 6))) 0 0 (fun _ => False) := by
  refine Met.ofW (cc := cX2_fingerOf) (maxL := 1) (ret := (some .int)) (by decide) rfl ?_
  intro p e s m args below meth c s₁ B hml hv
  obtain ⟨rfl, hE, -⟩ := hv
  have hx := B.exec
  have hb := B.bytes
  have hr := B.returns
  have hts := atoms_spec (ws := wsX2_fingerOf) B.pre
  have hown : s.vm.findClass RX2 = some m.cls := findClass_of_methodNamed B.named
  have hlocks := B.notSynchronized
  have hl := lv_entry ([.int (nI k)]) (n := 1) (Nat.le_of_ble_eq_true rfl)
  rw [lg_entry_eq]
  generalize (lg_sl ([.int (nI k)]) ++ List.replicate (1 - (lg_sl ([.int (nI k)])).length) Slot.unset).toArray = ls at hl ⊢
  have hl : lv_has ls 1 [(0, .int (nI k))] := hl
  refine lv_iload_n hx hb dX2_fingerOf_0 rfl (lv_at hl 0 rfl) ?_
  refine lv_bipush (v := nI 6) hx hb dX2_fingerOf_1 (by decide) ?_
  refine hk_remN hx hb (by omega) (by omega) (by omega) dX2_fingerOf_3 ?_
  exact W.iret (v := nI (k % 6)) hx hb hr (fun t ht hW => ⟨rfl, ht⟩) (fun _ h => nomatch h) dX2_fingerOf_4

set_option maxHeartbeats 4000000 in
set_option maxRecDepth 100000 in
theorem c_X2_handOf (l : Launch) (D : va_G) (ct : Nat → ClassId) (sa : Nat → Nat) (k : Nat) (hk : k < 12) : Met l yX2_handOf wsX2_handOf ({ frames := 0, cells := 0, slots := 0, locals := 0 }) (hkPc D ct sa [.int (nI k)] (fun _ => True)) (QcRead (nI (k % 6 / 3))) 0 0 (fun _ => False) := by
  refine Met.ofW (cc := cX2_handOf) (maxL := 1) (ret := (some .int)) (by decide) rfl ?_
  intro p e s m args below meth c s₁ B hml hv
  obtain ⟨rfl, hE, -⟩ := hv
  have hx := B.exec
  have hb := B.bytes
  have hr := B.returns
  have hts := atoms_spec (ws := wsX2_handOf) B.pre
  have hown : s.vm.findClass RX2 = some m.cls := findClass_of_methodNamed B.named
  have hlocks := B.notSynchronized
  have hl := lv_entry ([.int (nI k)]) (n := 1) (Nat.le_of_ble_eq_true rfl)
  rw [lg_entry_eq]
  generalize (lg_sl ([.int (nI k)]) ++ List.replicate (1 - (lg_sl ([.int (nI k)])).length) Slot.unset).toArray = ls at hl ⊢
  have hl : lv_has ls 1 [(0, .int (nI k))] := hl
  refine lv_iload_n hx hb dX2_handOf_0 rfl (lv_at hl 0 rfl) ?_
  refine lv_bipush (v := nI 6) hx hb dX2_handOf_1 (by decide) ?_
  refine hk_remN hx hb (by omega) (by omega) (by omega) dX2_handOf_3 ?_
  refine lv_iconst (v := nI 3) hx hb dX2_handOf_4 (by decide) ?_
  refine hk_divN hx hb (by omega) (by omega) (by omega) dX2_handOf_5 ?_
  exact W.iret (v := nI ((k % 6) / 3)) hx hb hr (fun t ht hW => ⟨rfl, ht⟩) (fun _ h => nomatch h) dX2_handOf_6

set_option maxHeartbeats 4000000 in
set_option maxRecDepth 100000 in
theorem c_X2_rowOf (l : Launch) (D : va_G) (ct : Nat → ClassId) (sa : Nat → Nat) (k : Nat) (hk : k < 12) : Met l yX2_rowOf wsX2_rowOf ({ frames := 0, cells := 0, slots := 0, locals := 0 }) (hkPc D ct sa [.int (nI k)] (fun _ => True)) (QcRead (nI (k / 6))) 0 0 (fun _ => False) := by
  refine Met.ofW (cc := cX2_rowOf) (maxL := 1) (ret := (some .int)) (by decide) rfl ?_
  intro p e s m args below meth c s₁ B hml hv
  obtain ⟨rfl, hE, -⟩ := hv
  have hx := B.exec
  have hb := B.bytes
  have hr := B.returns
  have hts := atoms_spec (ws := wsX2_rowOf) B.pre
  have hown : s.vm.findClass RX2 = some m.cls := findClass_of_methodNamed B.named
  have hlocks := B.notSynchronized
  have hl := lv_entry ([.int (nI k)]) (n := 1) (Nat.le_of_ble_eq_true rfl)
  rw [lg_entry_eq]
  generalize (lg_sl ([.int (nI k)]) ++ List.replicate (1 - (lg_sl ([.int (nI k)])).length) Slot.unset).toArray = ls at hl ⊢
  have hl : lv_has ls 1 [(0, .int (nI k))] := hl
  refine lv_iload_n hx hb dX2_rowOf_0 rfl (lv_at hl 0 rfl) ?_
  refine lv_bipush (v := nI 6) hx hb dX2_rowOf_1 (by decide) ?_
  refine hk_divN hx hb (by omega) (by omega) (by omega) dX2_rowOf_3 ?_
  exact W.iret (v := nI (k / 6)) hx hb hr (fun t ht hW => ⟨rfl, ht⟩) (fun _ h => nomatch h) dX2_rowOf_4

set_option maxHeartbeats 4000000 in
set_option maxRecDepth 100000 in
theorem c_X2_pairPlace (l : Launch) (D : va_G) (ct : Nat → ClassId) (sa : Nat → Nat) (a b : Nat) : Met l yX2_pairPlace wsX2_pairPlace ({ frames := 0, cells := 0, slots := 0, locals := 0 }) (hkPc D ct sa [.int (nI a), .int (nI b)] (fun _ => True)) (QcRead (nI (12 * a + b))) 0 0 (fun _ => False) := by
  refine Met.ofW (cc := cX2_pairPlace) (maxL := 2) (ret := (some .int)) (by decide) rfl ?_
  intro p e s m args below meth c s₁ B hml hv
  obtain ⟨rfl, hE, -⟩ := hv
  have hx := B.exec
  have hb := B.bytes
  have hr := B.returns
  have hts := atoms_spec (ws := wsX2_pairPlace) B.pre
  have hown : s.vm.findClass RX2 = some m.cls := findClass_of_methodNamed B.named
  have hlocks := B.notSynchronized
  have hl := lv_entry ([.int (nI a), .int (nI b)]) (n := 2) (Nat.le_of_ble_eq_true rfl)
  rw [lg_entry_eq]
  generalize (lg_sl ([.int (nI a), .int (nI b)]) ++ List.replicate (2 - (lg_sl ([.int (nI a), .int (nI b)])).length) Slot.unset).toArray = ls at hl ⊢
  have hl : lv_has ls 2 [(0, .int (nI a)), (1, .int (nI b))] := hl
  refine lv_bipush (v := nI 12) hx hb dX2_pairPlace_0 (by decide) ?_
  refine lv_iload_n hx hb dX2_pairPlace_2 rfl (lv_at hl 0 rfl) ?_
  refine hk_mulN hx hb dX2_pairPlace_3 ?_
  refine lv_iload_n hx hb dX2_pairPlace_4 rfl (lv_at hl 1 rfl) ?_
  refine hk_addN hx hb dX2_pairPlace_5 ?_
  exact W.iret (v := nI ((12 * a) + b)) hx hb hr (fun t ht hW => ⟨rfl, ht⟩) (fun _ h => nomatch h) dX2_pairPlace_6

set_option maxHeartbeats 4000000 in
set_option maxRecDepth 100000 in
theorem c_X2_swapped (l : Launch) (D : va_G) (ct : Nat → ClassId) (sa : Nat → Nat) (k x y : Int32) : Met l yX2_swapped wsX2_swapped ({ frames := 0, cells := 0, slots := 0, locals := 0 }) (hkPc D ct sa [.int k, .int x, .int y] (fun _ => True)) (QcRead (hkSw k x y)) 0 0 (fun _ => False) := by
  refine Met.ofW (cc := cX2_swapped) (maxL := 3) (ret := (some .int)) (by decide) rfl ?_
  intro p e s m args below meth c s₁ B hml hv
  obtain ⟨rfl, hE, -⟩ := hv
  have hx := B.exec
  have hb := B.bytes
  have hr := B.returns
  have hts := atoms_spec (ws := wsX2_swapped) B.pre
  have hown : s.vm.findClass RX2 = some m.cls := findClass_of_methodNamed B.named
  have hlocks := B.notSynchronized
  have hl := lv_entry ([.int k, .int x, .int y]) (n := 3) (Nat.le_of_ble_eq_true rfl)
  rw [lg_entry_eq]
  generalize (lg_sl ([.int k, .int x, .int y]) ++ List.replicate (3 - (lg_sl ([.int k, .int x, .int y])).length) Slot.unset).toArray = ls at hl ⊢
  have hl : lv_has ls 3 [(0, .int k), (1, .int x), (2, .int y)] := hl
  refine lv_iload_n hx hb dX2_swapped_0 rfl (lv_at hl 0 rfl) ?_
  refine lv_iload_n hx hb dX2_swapped_1 rfl (lv_at hl 1 rfl) ?_
  refine lv_icmp_ne (tgt := 7) hx hb dX2_swapped_2 (by decide) (fun c1 => ?_) (fun c1 => ?_)
  · refine lv_iload_n hx hb dX2_swapped_7 rfl (lv_at hl 0 rfl) ?_
    refine lv_iload_n hx hb dX2_swapped_8 rfl (lv_at hl 2 rfl) ?_
    refine lv_icmp_ne (tgt := 16) hx hb dX2_swapped_9 (by decide) (fun c2 => ?_) (fun c2 => ?_)
    · refine lv_iload_n hx hb dX2_swapped_16 rfl (lv_at hl 0 rfl) ?_
      exact W.iret (v := k) hx hb hr (fun t ht hW => ⟨by rw [hkSw, if_neg c1, if_neg c2], ht⟩) (fun _ h => nomatch h) dX2_swapped_17
    · refine lv_iload_n hx hb dX2_swapped_12 rfl (lv_at hl 1 rfl) ?_
      refine lv_goto (tgt := 17) hx hb dX2_swapped_13 (by decide) ?_
      exact W.iret (v := x) hx hb hr (fun t ht hW => ⟨by rw [hkSw, if_neg c1, if_pos c2], ht⟩) (fun _ h => nomatch h) dX2_swapped_17
  · refine lv_iload_n hx hb dX2_swapped_5 rfl (lv_at hl 2 rfl) ?_
    exact W.iret (v := y) hx hb hr (fun t ht hW => ⟨by rw [hkSw, if_pos c1], ht⟩) (fun _ h => nomatch h) dX2_swapped_6

set_option maxHeartbeats 4000000 in
set_option maxRecDepth 100000 in
/-- row[j] grows by one -/
theorem c_X2_count (l : Launch) (D : va_G) (ct : Nat → ClassId) (sa : Nat → Nat) (a N : Nat) (f : Nat → Int32) (j : Nat) (hN : N < 2 ^ 31) (hj : j < N) : Met l yX2_count wsX2_count ({ frames := 1, cells := 0, slots := 0, locals := 22 }) (hkPc D ct sa [.ref a, .int (nI j)] (fun H => va_P D vwCl [(a, .inl (ct 0, N, .inl f))] H ∧ va_D (fun _ => True) [(a, .inl (ct 0, N, .inl f))])) (hkQ none D [(a, .inl (ct 0, N, .inl (upd f j (f j + nI 1))))] [a]) 0 0 (hkA [a]) := by
  refine Met.ofW (cc := cX2_count) (maxL := 2) (ret := none) (by decide) rfl ?_
  intro p e s m args below meth c s₁ B hml hv
  obtain ⟨rfl, hE, hp⟩ := hv
  have hx := B.exec
  have hb := B.bytes
  have hr := B.returns
  have hts := atoms_spec (ws := wsX2_count) B.pre
  have hown : s.vm.findClass RX2 = some m.cls := findClass_of_methodNamed B.named
  have hlocks := B.notSynchronized
  obtain ⟨hP, hD0⟩ := hp
  have hD : va_D (hkA [a]) [(a, .inl (ct 0, N, .inl f))] := hD0.weaken (fun k q hk _ => hk_mem hk)
  have hS : va_S (hkA [a]) s.heap s.heap [] := va_S.rf
  have hl := lv_entry ([.ref a, .int (nI j)]) (n := 2) (Nat.le_of_ble_eq_true rfl)
  rw [lg_entry_eq]
  generalize (lg_sl ([.ref a, .int (nI j)]) ++ List.replicate (2 - (lg_sl ([.ref a, .int (nI j)])).length) Slot.unset).toArray = ls at hl ⊢
  have hl : lv_has ls 2 [(0, .ref a), (1, .int (nI j))] := hl
  refine lv_aload_n hx hb dX2_count_0 rfl (lv_at hl 0 rfl) ?_
  refine lv_iload_n hx hb dX2_count_1 rfl (lv_at hl 1 rfl) ?_
  refine lv_aload_n hx hb dX2_count_2 rfl (lv_at hl 0 rfl) ?_
  refine lv_iload_n hx hb dX2_count_3 rfl (lv_at hl 1 rfl) ?_
  refine hk_R (rest := [.int (nI j), .ref a]) (va_Run.run (va_runS (As := [.ref a, .int (nI j)]) (rest := [.int (nI j), .ref a]) ⟨hx, hb, hml, hown, hts⟩ (c_X2_at l D ct sa a N f (nI j) hN) (va_cwS 2 hts gX2_count_X2_at rfl rfl rfl (by decide +kernel) ⟨Nat.le_of_ble_eq_true rfl, Nat.le_of_ble_eq_true rfl⟩) (hk_preS hE (hP.sub (ws' := [(a, .inl (ct 0, N, .inl f))]) [0] rfl)) rfl rfl hl.1 rfl (lv_room (Nat.le_of_ble_eq_true rfl)) dX2_count_4 ⟨Nat.zero_le _, Nat.zero_le _⟩)) ?_
  refine hk_top (y := f j) (hkAt_in hj hN) ?_
  refine lv_iconst (v := nI 1) hx hb dX2_count_7 (by decide) ?_
  refine lv_iadd hx hb dX2_count_8 ?_
  refine hk_M (rest := []) (va_Run.run (va_runS (As := [.ref a, .int (nI j), .int ((f j) + (nI 1))]) (rest := []) ⟨hx, hb, hml, hown, hts⟩ (c_X2_put l D ct sa a N f j ((f j) + (nI 1)) hN hj) (va_cwS 3 hts gX2_count_X2_put rfl rfl rfl (by decide +kernel) ⟨Nat.le_of_ble_eq_true rfl, Nat.le_of_ble_eq_true rfl⟩) (hk_preS hE ⟨hP, hD.weaken (fun _ _ _ _ => trivial)⟩) rfl rfl hl.1 rfl (lv_room (Nat.le_of_ble_eq_true rfl)) dX2_count_9 ⟨Nat.zero_le _, Nat.zero_le _⟩)) hP hD hS [0] (wc := [(a, .inl (ct 0, N, .inl f))]) rfl rfl rfl (fun H locs hP hD hS => ?_)
  have hP : va_P D vwCl [(a, .inl (ct 0, N, .inl (upd f j ((f j) + (nI 1)))))] H := hP
  have hD : va_D (hkA [a]) [(a, .inl (ct 0, N, .inl (upd f j ((f j) + (nI 1)))))] := hD
  have hP9 : va_P D vwCl [(a, .inl (ct 0, N, .inl (upd f j ((f j) + (nI 1)))))] H := hP
  exact W.vret hx hb hr (fun t ht hW => ⟨rfl, by rw [ht]; exact hP9, by rw [ht]; exact ⟨hS.1, hS.2.1⟩⟩) hS.2.2 dX2_count_12

set_option maxHeartbeats 4000000 in
set_option maxRecDepth 100000 in
theorem c_X2_stepTime (l : Launch) (D : va_G) (ct : Nat → ClassId) (sa : Nat → Nat) (a b : Nat) (ha : a < 12) (hb9 : b < 12) : Met l yX2_stepTime wsX2_stepTime ({ frames := 1, cells := 0, slots := 0, locals := 20 }) (hkPc D ct sa [.int (nI a), .int (nI b)] (fun _ => True)) (QcRead (nI (stp a b))) 0 0 (fun _ => False) := by
  refine Met.ofW (cc := cX2_stepTime) (maxL := 2) (ret := (some .int)) (by decide) rfl ?_
  intro p e s m args below meth c s₁ B hml hv
  obtain ⟨rfl, hE, -⟩ := hv
  have hx := B.exec
  have hb := B.bytes
  have hr := B.returns
  have hts := atoms_spec (ws := wsX2_stepTime) B.pre
  have hown : s.vm.findClass RX2 = some m.cls := findClass_of_methodNamed B.named
  have hlocks := B.notSynchronized
  have hl := lv_entry ([.int (nI a), .int (nI b)]) (n := 2) (Nat.le_of_ble_eq_true rfl)
  rw [lg_entry_eq]
  generalize (lg_sl ([.int (nI a), .int (nI b)]) ++ List.replicate (2 - (lg_sl ([.int (nI a), .int (nI b)])).length) Slot.unset).toArray = ls at hl ⊢
  have hl : lv_has ls 2 [(0, .int (nI a)), (1, .int (nI b))] := hl
  refine lv_iload_n hx hb dX2_stepTime_0 rfl (lv_at hl 0 rfl) ?_
  refine lv_iload_n hx hb dX2_stepTime_1 rfl (lv_at hl 1 rfl) ?_
  refine hk_neN (tgt := 7) hx hb (by omega) (by omega) dX2_stepTime_2 (by decide) (fun c1 => ?_) (fun c1 => ?_)
  · refine lv_iload_n hx hb dX2_stepTime_7 rfl (lv_at hl 0 rfl) ?_
    refine hk_R (rest := []) (va_Run.run (va_runS (As := [.int (nI a)]) (rest := []) ⟨hx, hb, hml, hown, hts⟩ (c_X2_fingerOf l D ct sa a ha) (va_cwS 1 hts gX2_stepTime_X2_fingerOf rfl rfl rfl (by decide +kernel) ⟨Nat.le_of_ble_eq_true rfl, Nat.le_of_ble_eq_true rfl⟩) (hk_preS hE trivial) rfl rfl hl.1 rfl (lv_room (Nat.le_of_ble_eq_true rfl)) dX2_stepTime_8 ⟨Nat.zero_le _, Nat.zero_le _⟩)) ?_
    refine lv_iload_n hx hb dX2_stepTime_11 rfl (lv_at hl 1 rfl) ?_
    refine hk_R (rest := [.int (nI (a % 6))]) (va_Run.run (va_runS (As := [.int (nI b)]) (rest := [.int (nI (a % 6))]) ⟨hx, hb, hml, hown, hts⟩ (c_X2_fingerOf l D ct sa b hb9) (va_cwS 1 hts gX2_stepTime_X2_fingerOf rfl rfl rfl (by decide +kernel) ⟨Nat.le_of_ble_eq_true rfl, Nat.le_of_ble_eq_true rfl⟩) (hk_preS hE trivial) rfl rfl hl.1 rfl (lv_room (Nat.le_of_ble_eq_true rfl)) dX2_stepTime_12 ⟨Nat.zero_le _, Nat.zero_le _⟩)) ?_
    refine hk_neN (tgt := 35) hx hb (by omega) (by omega) dX2_stepTime_15 (by decide) (fun c2 => ?_) (fun c2 => ?_)
    · refine lv_iload_n hx hb dX2_stepTime_35 rfl (lv_at hl 0 rfl) ?_
      refine hk_R (rest := []) (va_Run.run (va_runS (As := [.int (nI a)]) (rest := []) ⟨hx, hb, hml, hown, hts⟩ (c_X2_handOf l D ct sa a ha) (va_cwS 1 hts gX2_stepTime_X2_handOf rfl rfl rfl (by decide +kernel) ⟨Nat.le_of_ble_eq_true rfl, Nat.le_of_ble_eq_true rfl⟩) (hk_preS hE trivial) rfl rfl hl.1 rfl (lv_room (Nat.le_of_ble_eq_true rfl)) dX2_stepTime_36 ⟨Nat.zero_le _, Nat.zero_le _⟩)) ?_
      refine lv_iload_n hx hb dX2_stepTime_39 rfl (lv_at hl 1 rfl) ?_
      refine hk_R (rest := [.int (nI (a % 6 / 3))]) (va_Run.run (va_runS (As := [.int (nI b)]) (rest := [.int (nI (a % 6 / 3))]) ⟨hx, hb, hml, hown, hts⟩ (c_X2_handOf l D ct sa b hb9) (va_cwS 1 hts gX2_stepTime_X2_handOf rfl rfl rfl (by decide +kernel) ⟨Nat.le_of_ble_eq_true rfl, Nat.le_of_ble_eq_true rfl⟩) (hk_preS hE trivial) rfl rfl hl.1 rfl (lv_room (Nat.le_of_ble_eq_true rfl)) dX2_stepTime_40 ⟨Nat.zero_le _, Nat.zero_le _⟩)) ?_
      refine hk_neN (tgt := 50) hx hb (by omega) (by omega) dX2_stepTime_43 (by decide) (fun c3 => ?_) (fun c3 => ?_)
      · refine lv_iconst (v := nI 2) hx hb dX2_stepTime_50 (by decide) ?_
        exact W.iret (v := nI 2) hx hb hr (fun t ht hW => ⟨by rw [stp, if_neg c1, if_neg c2, if_neg c3], ht⟩) (fun _ h => nomatch h) dX2_stepTime_51
      · refine lv_iconst (v := nI 4) hx hb dX2_stepTime_46 (by decide) ?_
        refine lv_goto (tgt := 51) hx hb dX2_stepTime_47 (by decide) ?_
        exact W.iret (v := nI 4) hx hb hr (fun t ht hW => ⟨by rw [stp, if_neg c1, if_neg c2, if_pos c3], ht⟩) (fun _ h => nomatch h) dX2_stepTime_51
    · refine lv_iconst (v := nI 5) hx hb dX2_stepTime_18 (by decide) ?_
      refine lv_iconst (v := nI 2) hx hb dX2_stepTime_19 (by decide) ?_
      refine lv_iload_n hx hb dX2_stepTime_20 rfl (lv_at hl 0 rfl) ?_
      refine hk_R (rest := [.int (nI 2), .int (nI 5)]) (va_Run.run (va_runS (As := [.int (nI a)]) (rest := [.int (nI 2), .int (nI 5)]) ⟨hx, hb, hml, hown, hts⟩ (c_X2_rowOf l D ct sa a ha) (va_cwS 1 hts gX2_stepTime_X2_rowOf rfl rfl rfl (by decide +kernel) ⟨Nat.le_of_ble_eq_true rfl, Nat.le_of_ble_eq_true rfl⟩) (hk_preS hE trivial) rfl rfl hl.1 rfl (lv_room (Nat.le_of_ble_eq_true rfl)) dX2_stepTime_21 ⟨Nat.zero_le _, Nat.zero_le _⟩)) ?_
      refine lv_iload_n hx hb dX2_stepTime_24 rfl (lv_at hl 1 rfl) ?_
      refine hk_R (rest := [.int (nI (a / 6)), .int (nI 2), .int (nI 5)]) (va_Run.run (va_runS (As := [.int (nI b)]) (rest := [.int (nI (a / 6)), .int (nI 2), .int (nI 5)]) ⟨hx, hb, hml, hown, hts⟩ (c_X2_rowOf l D ct sa b hb9) (va_cwS 1 hts gX2_stepTime_X2_rowOf rfl rfl rfl (by decide +kernel) ⟨Nat.le_of_ble_eq_true rfl, Nat.le_of_ble_eq_true rfl⟩) (hk_preS hE trivial) rfl rfl hl.1 rfl (lv_room (Nat.le_of_ble_eq_true rfl)) dX2_stepTime_25 ⟨Nat.zero_le _, Nat.zero_le _⟩)) ?_
      refine lv_isub hx hb dX2_stepTime_28 ?_
      refine va_mabs hx hb (hml.trans hl.1.symm) hown (hts (.methodLink RX2 204 Lib.Math.abs.name) (by decide +kernel)) (hts (.static Lib.Math.abs.name) (by decide +kernel)) (hts (.initialized "java/lang/Math") (by decide +kernel)) (hts (.code Lib.Math.abs.name Lib.Math.abs.code 1 (some .int)) (by decide +kernel)) (Nat.le_of_ble_eq_true rfl) (Nat.le_of_ble_eq_true rfl) (Nat.zero_le _) (Nat.zero_le _) dX2_stepTime_29 ?_
      refine hk_top (y := nI 1) (hk_abs a ha b hb9 c1 c2) ?_
      refine hk_mulN hx hb dX2_stepTime_32 ?_
      refine hk_addN hx hb dX2_stepTime_33 ?_
      exact W.iret (v := nI (5 + (2 * 1))) hx hb hr (fun t ht hW => ⟨by rw [stp, if_neg c1, if_pos c2], ht⟩) (fun _ h => nomatch h) dX2_stepTime_34
  · refine lv_iconst (v := nI 3) hx hb dX2_stepTime_5 (by decide) ?_
    exact W.iret (v := nI 3) hx hb hr (fun t ht hW => ⟨by rw [stp, if_pos c1], ht⟩) (fun _ h => nomatch h) dX2_stepTime_6
