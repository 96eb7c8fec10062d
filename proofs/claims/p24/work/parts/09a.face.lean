theorem tpR_z (K : Nat → Nat) (z b : Nat) : narrow .boolean (.int (tpR K z b)) = .int (tpR K z b) := by
  unfold tpR
  split <;> rfl
theorem gD_up (f : Nat → Nat) (k j : Nat) : upd (fun j => nI (f j)) k (nI j) = fun z => nI (va_up f k j z) := by
  funext z
  unfold upd va_up
  split <;> rfl
set_option maxHeartbeats 4000000 in
set_option maxRecDepth 100000 in
theorem c_X2_keyOf (l : Launch) (hfl : l.flags = flags0) (D : va_G) (ct : Nat → ClassId) (sa : Nat → Nat) (G0 : Nat) (sz : Nat) (b : Nat → Nat) (d : Ad) (g : Sg) (x : Int32) (y : Int32) (hI : Inv g) : vx_Met l yX2_keyOf wsX2_keyOf ({ frames := 7, cells := 2, slots := 12, locals := 104 }) (hkPx D ct sa G0 [.ref (b 0), .int x, .int y] (hkFP D ct b d g G0 sz)) (hkFQ D ct b (va_A (hkW ct b d g) sz) (opKeyOf g x y)) (hkXC (hkOk ["java/lang/IndexOutOfBoundsException"] (opKeyOf g x y).1)) 2 12 (va_A (hkW ct b d g) sz) := by
  refine vx_ofW (cc := cX2_keyOf) (maxL := 4) (ret := (some .int)) (by decide) rfl ?_
  intro p e s m args below meth c s₁ B hml hout hv
  obtain ⟨rfl, hE, hH, hp⟩ := hv
  have hx := B.exec
  have hb := B.bytes
  have hr := B.returns
  have hts := atoms_spec (ws := wsX2_keyOf) B.pre
  have hown : s.vm.findClass RX2 = some m.cls := findClass_of_methodNamed B.named
  have hlocks := B.notSynchronized
  have hin1 : ∀ w ∈ wsX10, w ∈ wsX2_keyOf := by decide +kernel
  obtain ⟨hsz, hPW, hD0⟩ := hp
  subst hsz
  have hDW := hD0.self (sz := s.heap.size)
  generalize hAe : va_A (hkW ct b d g) s.heap.size = A at hDW ⊢
  have hA : ∀ q : Nat, s.heap.size ≤ q → A q := fun q h => by rw [← hAe]; exact Or.inr h
  have hS : va_S A s.heap s.heap [] := va_S.rf
  obtain ⟨hN5, hd24, hc6, hSt, hDr, hNs, hCs, hCo⟩ := id hI
  have hl := lv_entry ([.ref (b 0), .int x, .int y]) (n := 4) (Nat.le_of_ble_eq_true rfl)
  rw [lg_entry_eq]
  generalize (lg_sl ([.ref (b 0), .int x, .int y]) ++ List.replicate (4 - (lg_sl ([.ref (b 0), .int x, .int y])).length) Slot.unset).toArray = ls at hl ⊢
  have hl : lv_has ls 4 [(0, .ref (b 0)), (1, .int x), (2, .int y)] := hl
  have hP : va_P D vwCl (((b 0), .inr (2, [.ref (b 1), .ref (b 2), .ref (b 3), .int (nI (gd g)), .ref (b 4)])) :: ((b 1), .inl (ct 1, 5, .inr (.inr (.inr (.inr (rfs (gN g) d.1)))))) :: ((b 2), .inl (ct 2, 6, .inr (.inr (.inr (.inr (rfs (gc g) d.2.1)))))) :: ((b 3), .inl (ct 0, 24, .inl (fun j => nI (gD g j)))) :: ((b 4), .inl (ct 0, 144, .inl d.2.2)) :: (ssW ct d g (List.range (gN g)) ++ ccW ct d g (List.range (gc g)))) s.heap := hPW
  have hD : va_D A (((b 0), .inr (2, [.ref (b 1), .ref (b 2), .ref (b 3), .int (nI (gd g)), .ref (b 4)])) :: ((b 1), .inl (ct 1, 5, .inr (.inr (.inr (.inr (rfs (gN g) d.1)))))) :: ((b 2), .inl (ct 2, 6, .inr (.inr (.inr (.inr (rfs (gc g) d.2.1)))))) :: ((b 3), .inl (ct 0, 24, .inl (fun j => nI (gD g j)))) :: ((b 4), .inl (ct 0, 144, .inl d.2.2)) :: (ssW ct d g (List.range (gN g)) ++ ccW ct d g (List.range (gc g)))) := hDW
  refine lv_aload_n hx hb dX2_keyOf_0 rfl (lv_at hl 0 rfl) ?_
  refine lv_iload_n hx hb dX2_keyOf_1 rfl (lv_at hl 1 rfl) ?_
  refine hk_XR (rest := []) (vx_runV (As := [.int x]) (rest := []) ⟨hx, hb, hml, hown, hts⟩ (c_X2_studentAt l hfl D ct sa G0 (b 0) (b 1) (b 2) (b 3) (b 4) (gN g) (nI (gd g)) d.1 x hN5) (cwV 1 hts gX2_keyOf_X2_studentAt rfl rfl rfl (by decide +kernel) ⟨Nat.le_of_ble_eq_true rfl, Nat.le_of_ble_eq_true rfl⟩) (hk_prxV hE hH (va_recv hE.1 hP (ci := 2) (q0 := 0) rfl rfl) (hP.sub (ws' := [((b 0), .inr (2, [.ref (b 1), .ref (b 2), .ref (b 3), .int (nI (gd g)), .ref (b 4)])), ((b 1), .inl (ct 1, 5, .inr (.inr (.inr (.inr (rfs (gN g) d.1))))))]) [0, 1] rfl)) rfl rfl hl.1 rfl (lv_room (Nat.le_of_ble_eq_true rfl)) dX2_keyOf_2 ⟨Nat.le_of_ble_eq_true rfl, Nat.le_of_ble_eq_true rfl⟩) (fun E ce q9 H1 ho hF9 hce hcv hcl => ?_) (fun hq => ?_)
  · exact hk_out hout hlocks hF9 (by obtain ⟨rfl, hb9⟩ := ho; exact ⟨0, rfl, by rw [opKeyOf, if_pos (Or.inl hb9)]; rfl⟩) hce hcv hcl (Nat.le_of_ble_eq_true rfl) (Nat.le_of_ble_eq_true rfl)
  obtain ⟨i, hi, rfl⟩ := bd_of (by omega) hq
  have hic : (nI i).toNatClampNeg = i := nI_clamp (by omega)
  rw [hic]
  have hP : va_P D vwCl (((b 0), .inr (2, [.ref (b 1), .ref (b 2), .ref (b 3), .int (nI (gd g)), .ref (b 4)])) :: ((b 1), .inl (ct 1, 5, .inr (.inr (.inr (.inr (rfs (gN g) d.1)))))) :: ((b 2), .inl (ct 2, 6, .inr (.inr (.inr (.inr (rfs (gc g) d.2.1)))))) :: ((b 3), .inl (ct 0, 24, .inl (fun j => nI (gD g j)))) :: ((b 4), .inl (ct 0, 144, .inl d.2.2)) :: ((d.1 i 0), .inr (1, [.ref (d.1 i 1), .ref (d.1 i 2), .int (sY (gS g i)), .ref (d.1 i 3), .ref (d.1 i 4), .ref (d.1 i 5), .int (nI (sq (gS g i))), .int (sC (gS g i))])) :: ((d.1 i 1), .inl (ct 0, 12, .inl (fun j => nI (sK (gS g i) j)))) :: ((d.1 i 2), .inl (ct 0, 12, .inl (fun j => nI (sL (gS g i) j)))) :: ((d.1 i 3), .inl (ct 0, 12, .inl (sS (gS g i)))) :: ((d.1 i 4), .inl (ct 0, 144, .inl (sP (gS g i)))) :: ((d.1 i 5), .inl (ct 0, 30, .inl (fun j => nI (sT (gS g i) j)))) :: rsS ct d g i) s.heap := hPW.perm (hkW_S hi)
  have hD : va_D A (((b 0), .inr (2, [.ref (b 1), .ref (b 2), .ref (b 3), .int (nI (gd g)), .ref (b 4)])) :: ((b 1), .inl (ct 1, 5, .inr (.inr (.inr (.inr (rfs (gN g) d.1)))))) :: ((b 2), .inl (ct 2, 6, .inr (.inr (.inr (.inr (rfs (gc g) d.2.1)))))) :: ((b 3), .inl (ct 0, 24, .inl (fun j => nI (gD g j)))) :: ((b 4), .inl (ct 0, 144, .inl d.2.2)) :: ((d.1 i 0), .inr (1, [.ref (d.1 i 1), .ref (d.1 i 2), .int (sY (gS g i)), .ref (d.1 i 3), .ref (d.1 i 4), .ref (d.1 i 5), .int (nI (sq (gS g i))), .int (sC (gS g i))])) :: ((d.1 i 1), .inl (ct 0, 12, .inl (fun j => nI (sK (gS g i) j)))) :: ((d.1 i 2), .inl (ct 0, 12, .inl (fun j => nI (sL (gS g i) j)))) :: ((d.1 i 3), .inl (ct 0, 12, .inl (sS (gS g i)))) :: ((d.1 i 4), .inl (ct 0, 144, .inl (sP (gS g i)))) :: ((d.1 i 5), .inl (ct 0, 30, .inl (fun j => nI (sT (gS g i) j)))) :: rsS ct d g i) := hDW.perm (hkW_S hi)
  obtain ⟨hKu, hLu, hKL, hqu, hTu, hYu⟩ := hSt i
  refine lv_astore_n (lv' := [(3, .ref (d.1 i 0)), (0, .ref (b 0)), (1, .int (nI i)), (2, .int y)]) hx hb dX2_keyOf_5 rfl hl (by decide) rfl (fun ls hl => ?_)
  refine lv_iload_n hx hb dX2_keyOf_6 rfl (lv_at hl 3 rfl) ?_
  refine hk_XR (rest := []) (vx_runS (As := [.int y]) (rest := []) ⟨hx, hb, hml, hown, hts⟩ (c_X2_needLetter l hfl D ct sa G0 y) (va_cwS 1 hts gX2_keyOf_X2_needLetter rfl rfl rfl (by decide +kernel) ⟨Nat.le_of_ble_eq_true rfl, Nat.le_of_ble_eq_true rfl⟩) (hk_prxS hE hH trivial) rfl rfl hl.1 rfl (lv_room (Nat.le_of_ble_eq_true rfl)) dX2_keyOf_7 ⟨Nat.le_of_ble_eq_true rfl, Nat.le_of_ble_eq_true rfl⟩) (fun E ce q9 H1 ho hF9 hce hcv hcl => ?_) (fun hq => ?_)
  · exact hk_out hout hlocks hF9 (by obtain ⟨rfl, hb9⟩ := ho; exact ⟨0, rfl, by rw [opKeyOf, if_pos (Or.inr hb9)]; rfl⟩) hce hcv hcl (Nat.le_of_ble_eq_true rfl) (Nat.le_of_ble_eq_true rfl)
  obtain ⟨j, hj, rfl⟩ := bd_of (by decide) hq
  have hjc : (nI j).toNatClampNeg = j := nI_clamp (by omega)
  refine lv_aload_n hx hb dX2_keyOf_10 rfl (lv_at hl 0 rfl) ?_
  refine va_getN (D := D) (host := RX2) (ci := 1) (v := .ref (d.1 i 1)) (C := RX1) (T := TX1) (N := 8) hx hb hts hin1 hown hE.1 hP 5 rfl rfl 0 (by decide) (hE.use hkN_X2_67) (fun _ h9 => h9) rfl dX2_keyOf_11 ?_
  refine lv_iload_n hx hb dX2_keyOf_14 rfl (lv_at hl 3 rfl) ?_
  refine hk_R (rest := []) (va_Run.run (va_runS (As := [.ref (d.1 i 1), .int (nI j)]) (rest := []) ⟨hx, hb, hml, hown, hts⟩ (c_X2_at l D ct sa (d.1 i 1) 12 (fun j => nI (sK (gS g i) j)) (nI j) (by decide)) (va_cwS 2 hts gX2_keyOf_X2_at rfl rfl rfl (by decide +kernel) ⟨Nat.le_of_ble_eq_true rfl, Nat.le_of_ble_eq_true rfl⟩) (hk_preS hE (hP.sub (ws' := [((d.1 i 1), .inl (ct 0, 12, .inl (fun j => nI (sK (gS g i) j))))]) [6] rfl)) rfl rfl hl.1 rfl (lv_room (Nat.le_of_ble_eq_true rfl)) dX2_keyOf_15 ⟨Nat.le_of_ble_eq_true rfl, Nat.le_of_ble_eq_true rfl⟩)) ?_
  refine hk_top (y := nI (sK (gS g i) j)) (hkAt_in hj (by decide)) ?_
  have hz : opKeyOf g (nI i) (nI j) = (0, nI (sK (gS g i) j), g) := by rw [opKeyOf, if_neg (fun z => z.elim (bd_nI hi (by omega)) (bd_nI hj (by decide))), ix, ix, hic, hjc]
  rw [hz]
  refine W.widen (k := 2) (n := 12) (Nat.le_of_ble_eq_true rfl) (Nat.le_of_ble_eq_true rfl) ?_
  exact vx_ret (W.iret (v := nI (sK (gS g i) j)) hx hb hr (fun t ht hW => ⟨rfl, rfl, ⟨d, by rw [ht]; exact hPW, hDW⟩, hS.F ht⟩) hS.2.2 dX2_keyOf_18)

set_option maxHeartbeats 4000000 in
set_option maxRecDepth 100000 in
theorem c_X2_letterOn (l : Launch) (hfl : l.flags = flags0) (D : va_G) (ct : Nat → ClassId) (sa : Nat → Nat) (G0 : Nat) (sz : Nat) (b : Nat → Nat) (d : Ad) (g : Sg) (x : Int32) (y : Int32) (hI : Inv g) : vx_Met l yX2_letterOn wsX2_letterOn ({ frames := 7, cells := 2, slots := 12, locals := 104 }) (hkPx D ct sa G0 [.ref (b 0), .int x, .int y] (hkFP D ct b d g G0 sz)) (hkFQ D ct b (va_A (hkW ct b d g) sz) (opLetterOn g x y)) (hkXC (hkOk ["java/lang/IndexOutOfBoundsException"] (opLetterOn g x y).1)) 2 12 (va_A (hkW ct b d g) sz) := by
  refine vx_ofW (cc := cX2_letterOn) (maxL := 4) (ret := (some .int)) (by decide) rfl ?_
  intro p e s m args below meth c s₁ B hml hout hv
  obtain ⟨rfl, hE, hH, hp⟩ := hv
  have hx := B.exec
  have hb := B.bytes
  have hr := B.returns
  have hts := atoms_spec (ws := wsX2_letterOn) B.pre
  have hown : s.vm.findClass RX2 = some m.cls := findClass_of_methodNamed B.named
  have hlocks := B.notSynchronized
  have hin1 : ∀ w ∈ wsX10, w ∈ wsX2_letterOn := by decide +kernel
  obtain ⟨hsz, hPW, hD0⟩ := hp
  subst hsz
  have hDW := hD0.self (sz := s.heap.size)
  generalize hAe : va_A (hkW ct b d g) s.heap.size = A at hDW ⊢
  have hA : ∀ q : Nat, s.heap.size ≤ q → A q := fun q h => by rw [← hAe]; exact Or.inr h
  have hS : va_S A s.heap s.heap [] := va_S.rf
  obtain ⟨hN5, hd24, hc6, hSt, hDr, hNs, hCs, hCo⟩ := id hI
  have hl := lv_entry ([.ref (b 0), .int x, .int y]) (n := 4) (Nat.le_of_ble_eq_true rfl)
  rw [lg_entry_eq]
  generalize (lg_sl ([.ref (b 0), .int x, .int y]) ++ List.replicate (4 - (lg_sl ([.ref (b 0), .int x, .int y])).length) Slot.unset).toArray = ls at hl ⊢
  have hl : lv_has ls 4 [(0, .ref (b 0)), (1, .int x), (2, .int y)] := hl
  have hP : va_P D vwCl (((b 0), .inr (2, [.ref (b 1), .ref (b 2), .ref (b 3), .int (nI (gd g)), .ref (b 4)])) :: ((b 1), .inl (ct 1, 5, .inr (.inr (.inr (.inr (rfs (gN g) d.1)))))) :: ((b 2), .inl (ct 2, 6, .inr (.inr (.inr (.inr (rfs (gc g) d.2.1)))))) :: ((b 3), .inl (ct 0, 24, .inl (fun j => nI (gD g j)))) :: ((b 4), .inl (ct 0, 144, .inl d.2.2)) :: (ssW ct d g (List.range (gN g)) ++ ccW ct d g (List.range (gc g)))) s.heap := hPW
  have hD : va_D A (((b 0), .inr (2, [.ref (b 1), .ref (b 2), .ref (b 3), .int (nI (gd g)), .ref (b 4)])) :: ((b 1), .inl (ct 1, 5, .inr (.inr (.inr (.inr (rfs (gN g) d.1)))))) :: ((b 2), .inl (ct 2, 6, .inr (.inr (.inr (.inr (rfs (gc g) d.2.1)))))) :: ((b 3), .inl (ct 0, 24, .inl (fun j => nI (gD g j)))) :: ((b 4), .inl (ct 0, 144, .inl d.2.2)) :: (ssW ct d g (List.range (gN g)) ++ ccW ct d g (List.range (gc g)))) := hDW
  refine lv_aload_n hx hb dX2_letterOn_0 rfl (lv_at hl 0 rfl) ?_
  refine lv_iload_n hx hb dX2_letterOn_1 rfl (lv_at hl 1 rfl) ?_
  refine hk_XR (rest := []) (vx_runV (As := [.int x]) (rest := []) ⟨hx, hb, hml, hown, hts⟩ (c_X2_studentAt l hfl D ct sa G0 (b 0) (b 1) (b 2) (b 3) (b 4) (gN g) (nI (gd g)) d.1 x hN5) (cwV 1 hts gX2_letterOn_X2_studentAt rfl rfl rfl (by decide +kernel) ⟨Nat.le_of_ble_eq_true rfl, Nat.le_of_ble_eq_true rfl⟩) (hk_prxV hE hH (va_recv hE.1 hP (ci := 2) (q0 := 0) rfl rfl) (hP.sub (ws' := [((b 0), .inr (2, [.ref (b 1), .ref (b 2), .ref (b 3), .int (nI (gd g)), .ref (b 4)])), ((b 1), .inl (ct 1, 5, .inr (.inr (.inr (.inr (rfs (gN g) d.1))))))]) [0, 1] rfl)) rfl rfl hl.1 rfl (lv_room (Nat.le_of_ble_eq_true rfl)) dX2_letterOn_2 ⟨Nat.le_of_ble_eq_true rfl, Nat.le_of_ble_eq_true rfl⟩) (fun E ce q9 H1 ho hF9 hce hcv hcl => ?_) (fun hq => ?_)
  · exact hk_out hout hlocks hF9 (by obtain ⟨rfl, hb9⟩ := ho; exact ⟨0, rfl, by rw [opLetterOn, if_pos (Or.inl hb9)]; rfl⟩) hce hcv hcl (Nat.le_of_ble_eq_true rfl) (Nat.le_of_ble_eq_true rfl)
  obtain ⟨i, hi, rfl⟩ := bd_of (by omega) hq
  have hic : (nI i).toNatClampNeg = i := nI_clamp (by omega)
  rw [hic]
  have hP : va_P D vwCl (((b 0), .inr (2, [.ref (b 1), .ref (b 2), .ref (b 3), .int (nI (gd g)), .ref (b 4)])) :: ((b 1), .inl (ct 1, 5, .inr (.inr (.inr (.inr (rfs (gN g) d.1)))))) :: ((b 2), .inl (ct 2, 6, .inr (.inr (.inr (.inr (rfs (gc g) d.2.1)))))) :: ((b 3), .inl (ct 0, 24, .inl (fun j => nI (gD g j)))) :: ((b 4), .inl (ct 0, 144, .inl d.2.2)) :: ((d.1 i 0), .inr (1, [.ref (d.1 i 1), .ref (d.1 i 2), .int (sY (gS g i)), .ref (d.1 i 3), .ref (d.1 i 4), .ref (d.1 i 5), .int (nI (sq (gS g i))), .int (sC (gS g i))])) :: ((d.1 i 1), .inl (ct 0, 12, .inl (fun j => nI (sK (gS g i) j)))) :: ((d.1 i 2), .inl (ct 0, 12, .inl (fun j => nI (sL (gS g i) j)))) :: ((d.1 i 3), .inl (ct 0, 12, .inl (sS (gS g i)))) :: ((d.1 i 4), .inl (ct 0, 144, .inl (sP (gS g i)))) :: ((d.1 i 5), .inl (ct 0, 30, .inl (fun j => nI (sT (gS g i) j)))) :: rsS ct d g i) s.heap := hPW.perm (hkW_S hi)
  have hD : va_D A (((b 0), .inr (2, [.ref (b 1), .ref (b 2), .ref (b 3), .int (nI (gd g)), .ref (b 4)])) :: ((b 1), .inl (ct 1, 5, .inr (.inr (.inr (.inr (rfs (gN g) d.1)))))) :: ((b 2), .inl (ct 2, 6, .inr (.inr (.inr (.inr (rfs (gc g) d.2.1)))))) :: ((b 3), .inl (ct 0, 24, .inl (fun j => nI (gD g j)))) :: ((b 4), .inl (ct 0, 144, .inl d.2.2)) :: ((d.1 i 0), .inr (1, [.ref (d.1 i 1), .ref (d.1 i 2), .int (sY (gS g i)), .ref (d.1 i 3), .ref (d.1 i 4), .ref (d.1 i 5), .int (nI (sq (gS g i))), .int (sC (gS g i))])) :: ((d.1 i 1), .inl (ct 0, 12, .inl (fun j => nI (sK (gS g i) j)))) :: ((d.1 i 2), .inl (ct 0, 12, .inl (fun j => nI (sL (gS g i) j)))) :: ((d.1 i 3), .inl (ct 0, 12, .inl (sS (gS g i)))) :: ((d.1 i 4), .inl (ct 0, 144, .inl (sP (gS g i)))) :: ((d.1 i 5), .inl (ct 0, 30, .inl (fun j => nI (sT (gS g i) j)))) :: rsS ct d g i) := hDW.perm (hkW_S hi)
  obtain ⟨hKu, hLu, hKL, hqu, hTu, hYu⟩ := hSt i
  refine lv_astore_n (lv' := [(3, .ref (d.1 i 0)), (0, .ref (b 0)), (1, .int (nI i)), (2, .int y)]) hx hb dX2_letterOn_5 rfl hl (by decide) rfl (fun ls hl => ?_)
  refine lv_iload_n hx hb dX2_letterOn_6 rfl (lv_at hl 3 rfl) ?_
  refine hk_XR (rest := []) (vx_runS (As := [.int y]) (rest := []) ⟨hx, hb, hml, hown, hts⟩ (c_X2_needKey l hfl D ct sa G0 y) (va_cwS 1 hts gX2_letterOn_X2_needKey rfl rfl rfl (by decide +kernel) ⟨Nat.le_of_ble_eq_true rfl, Nat.le_of_ble_eq_true rfl⟩) (hk_prxS hE hH trivial) rfl rfl hl.1 rfl (lv_room (Nat.le_of_ble_eq_true rfl)) dX2_letterOn_7 ⟨Nat.le_of_ble_eq_true rfl, Nat.le_of_ble_eq_true rfl⟩) (fun E ce q9 H1 ho hF9 hce hcv hcl => ?_) (fun hq => ?_)
  · exact hk_out hout hlocks hF9 (by obtain ⟨rfl, hb9⟩ := ho; exact ⟨0, rfl, by rw [opLetterOn, if_pos (Or.inr hb9)]; rfl⟩) hce hcv hcl (Nat.le_of_ble_eq_true rfl) (Nat.le_of_ble_eq_true rfl)
  obtain ⟨j, hj, rfl⟩ := bd_of (by decide) hq
  have hjc : (nI j).toNatClampNeg = j := nI_clamp (by omega)
  refine lv_aload_n hx hb dX2_letterOn_10 rfl (lv_at hl 0 rfl) ?_
  refine va_getN (D := D) (host := RX2) (ci := 1) (v := .ref (d.1 i 2)) (C := RX1) (T := TX1) (N := 8) hx hb hts hin1 hown hE.1 hP 5 rfl rfl 1 (by decide) (hE.use hkN_X2_77) (fun _ h9 => h9) rfl dX2_letterOn_11 ?_
  refine lv_iload_n hx hb dX2_letterOn_14 rfl (lv_at hl 3 rfl) ?_
  refine hk_R (rest := []) (va_Run.run (va_runS (As := [.ref (d.1 i 2), .int (nI j)]) (rest := []) ⟨hx, hb, hml, hown, hts⟩ (c_X2_at l D ct sa (d.1 i 2) 12 (fun j => nI (sL (gS g i) j)) (nI j) (by decide)) (va_cwS 2 hts gX2_letterOn_X2_at rfl rfl rfl (by decide +kernel) ⟨Nat.le_of_ble_eq_true rfl, Nat.le_of_ble_eq_true rfl⟩) (hk_preS hE (hP.sub (ws' := [((d.1 i 2), .inl (ct 0, 12, .inl (fun j => nI (sL (gS g i) j))))]) [7] rfl)) rfl rfl hl.1 rfl (lv_room (Nat.le_of_ble_eq_true rfl)) dX2_letterOn_15 ⟨Nat.le_of_ble_eq_true rfl, Nat.le_of_ble_eq_true rfl⟩)) ?_
  refine hk_top (y := nI (sL (gS g i) j)) (hkAt_in hj (by decide)) ?_
  have hz : opLetterOn g (nI i) (nI j) = (0, nI (sL (gS g i) j), g) := by rw [opLetterOn, if_neg (fun z => z.elim (bd_nI hi (by omega)) (bd_nI hj (by decide))), ix, ix, hic, hjc]
  rw [hz]
  refine W.widen (k := 2) (n := 12) (Nat.le_of_ble_eq_true rfl) (Nat.le_of_ble_eq_true rfl) ?_
  exact vx_ret (W.iret (v := nI (sL (gS g i) j)) hx hb hr (fun t ht hW => ⟨rfl, rfl, ⟨d, by rw [ht]; exact hPW, hDW⟩, hS.F ht⟩) hS.2.2 dX2_letterOn_18)

set_option maxHeartbeats 4000000 in
set_option maxRecDepth 100000 in
theorem c_X2_pressed (l : Launch) (hfl : l.flags = flags0) (D : va_G) (ct : Nat → ClassId) (sa : Nat → Nat) (G0 : Nat) (sz : Nat) (b : Nat → Nat) (d : Ad) (g : Sg) (x : Int32) (hI : Inv g) : vx_Met l yX2_pressed wsX2_pressed ({ frames := 7, cells := 1, slots := 6, locals := 104 }) (hkPx D ct sa G0 [.ref (b 0), .int x] (hkFP D ct b d g G0 sz)) (hkFQ D ct b (va_A (hkW ct b d g) sz) (opPressed g x)) (hkXC (hkOk ["java/lang/IndexOutOfBoundsException"] (opPressed g x).1)) 1 6 (va_A (hkW ct b d g) sz) := by
  refine vx_ofW (cc := cX2_pressed) (maxL := 2) (ret := (some .int)) (by decide) rfl ?_
  intro p e s m args below meth c s₁ B hml hout hv
  obtain ⟨rfl, hE, hH, hp⟩ := hv
  have hx := B.exec
  have hb := B.bytes
  have hr := B.returns
  have hts := atoms_spec (ws := wsX2_pressed) B.pre
  have hown : s.vm.findClass RX2 = some m.cls := findClass_of_methodNamed B.named
  have hlocks := B.notSynchronized
  have hin1 : ∀ w ∈ wsX10, w ∈ wsX2_pressed := by decide +kernel
  obtain ⟨hsz, hPW, hD0⟩ := hp
  subst hsz
  have hDW := hD0.self (sz := s.heap.size)
  generalize hAe : va_A (hkW ct b d g) s.heap.size = A at hDW ⊢
  have hA : ∀ q : Nat, s.heap.size ≤ q → A q := fun q h => by rw [← hAe]; exact Or.inr h
  have hS : va_S A s.heap s.heap [] := va_S.rf
  obtain ⟨hN5, hd24, hc6, hSt, hDr, hNs, hCs, hCo⟩ := id hI
  have hl := lv_entry ([.ref (b 0), .int x]) (n := 2) (Nat.le_of_ble_eq_true rfl)
  rw [lg_entry_eq]
  generalize (lg_sl ([.ref (b 0), .int x]) ++ List.replicate (2 - (lg_sl ([.ref (b 0), .int x])).length) Slot.unset).toArray = ls at hl ⊢
  have hl : lv_has ls 2 [(0, .ref (b 0)), (1, .int x)] := hl
  have hP : va_P D vwCl (((b 0), .inr (2, [.ref (b 1), .ref (b 2), .ref (b 3), .int (nI (gd g)), .ref (b 4)])) :: ((b 1), .inl (ct 1, 5, .inr (.inr (.inr (.inr (rfs (gN g) d.1)))))) :: ((b 2), .inl (ct 2, 6, .inr (.inr (.inr (.inr (rfs (gc g) d.2.1)))))) :: ((b 3), .inl (ct 0, 24, .inl (fun j => nI (gD g j)))) :: ((b 4), .inl (ct 0, 144, .inl d.2.2)) :: (ssW ct d g (List.range (gN g)) ++ ccW ct d g (List.range (gc g)))) s.heap := hPW
  have hD : va_D A (((b 0), .inr (2, [.ref (b 1), .ref (b 2), .ref (b 3), .int (nI (gd g)), .ref (b 4)])) :: ((b 1), .inl (ct 1, 5, .inr (.inr (.inr (.inr (rfs (gN g) d.1)))))) :: ((b 2), .inl (ct 2, 6, .inr (.inr (.inr (.inr (rfs (gc g) d.2.1)))))) :: ((b 3), .inl (ct 0, 24, .inl (fun j => nI (gD g j)))) :: ((b 4), .inl (ct 0, 144, .inl d.2.2)) :: (ssW ct d g (List.range (gN g)) ++ ccW ct d g (List.range (gc g)))) := hDW
  refine lv_aload_n hx hb dX2_pressed_0 rfl (lv_at hl 0 rfl) ?_
  refine lv_iload_n hx hb dX2_pressed_1 rfl (lv_at hl 1 rfl) ?_
  refine hk_XR (rest := []) (vx_runV (As := [.int x]) (rest := []) ⟨hx, hb, hml, hown, hts⟩ (c_X2_studentAt l hfl D ct sa G0 (b 0) (b 1) (b 2) (b 3) (b 4) (gN g) (nI (gd g)) d.1 x hN5) (cwV 1 hts gX2_pressed_X2_studentAt rfl rfl rfl (by decide +kernel) ⟨Nat.le_of_ble_eq_true rfl, Nat.le_of_ble_eq_true rfl⟩) (hk_prxV hE hH (va_recv hE.1 hP (ci := 2) (q0 := 0) rfl rfl) (hP.sub (ws' := [((b 0), .inr (2, [.ref (b 1), .ref (b 2), .ref (b 3), .int (nI (gd g)), .ref (b 4)])), ((b 1), .inl (ct 1, 5, .inr (.inr (.inr (.inr (rfs (gN g) d.1))))))]) [0, 1] rfl)) rfl rfl hl.1 rfl (lv_room (Nat.le_of_ble_eq_true rfl)) dX2_pressed_2 ⟨Nat.le_of_ble_eq_true rfl, Nat.le_of_ble_eq_true rfl⟩) (fun E ce q9 H1 ho hF9 hce hcv hcl => ?_) (fun hq => ?_)
  · exact hk_out hout hlocks hF9 (by obtain ⟨rfl, hb9⟩ := ho; exact ⟨0, rfl, by rw [opPressed, if_pos (hb9)]; rfl⟩) hce hcv hcl (Nat.le_of_ble_eq_true rfl) (Nat.le_of_ble_eq_true rfl)
  obtain ⟨i, hi, rfl⟩ := bd_of (by omega) hq
  have hic : (nI i).toNatClampNeg = i := nI_clamp (by omega)
  rw [hic]
  have hP : va_P D vwCl (((b 0), .inr (2, [.ref (b 1), .ref (b 2), .ref (b 3), .int (nI (gd g)), .ref (b 4)])) :: ((b 1), .inl (ct 1, 5, .inr (.inr (.inr (.inr (rfs (gN g) d.1)))))) :: ((b 2), .inl (ct 2, 6, .inr (.inr (.inr (.inr (rfs (gc g) d.2.1)))))) :: ((b 3), .inl (ct 0, 24, .inl (fun j => nI (gD g j)))) :: ((b 4), .inl (ct 0, 144, .inl d.2.2)) :: ((d.1 i 0), .inr (1, [.ref (d.1 i 1), .ref (d.1 i 2), .int (sY (gS g i)), .ref (d.1 i 3), .ref (d.1 i 4), .ref (d.1 i 5), .int (nI (sq (gS g i))), .int (sC (gS g i))])) :: ((d.1 i 1), .inl (ct 0, 12, .inl (fun j => nI (sK (gS g i) j)))) :: ((d.1 i 2), .inl (ct 0, 12, .inl (fun j => nI (sL (gS g i) j)))) :: ((d.1 i 3), .inl (ct 0, 12, .inl (sS (gS g i)))) :: ((d.1 i 4), .inl (ct 0, 144, .inl (sP (gS g i)))) :: ((d.1 i 5), .inl (ct 0, 30, .inl (fun j => nI (sT (gS g i) j)))) :: rsS ct d g i) s.heap := hPW.perm (hkW_S hi)
  have hD : va_D A (((b 0), .inr (2, [.ref (b 1), .ref (b 2), .ref (b 3), .int (nI (gd g)), .ref (b 4)])) :: ((b 1), .inl (ct 1, 5, .inr (.inr (.inr (.inr (rfs (gN g) d.1)))))) :: ((b 2), .inl (ct 2, 6, .inr (.inr (.inr (.inr (rfs (gc g) d.2.1)))))) :: ((b 3), .inl (ct 0, 24, .inl (fun j => nI (gD g j)))) :: ((b 4), .inl (ct 0, 144, .inl d.2.2)) :: ((d.1 i 0), .inr (1, [.ref (d.1 i 1), .ref (d.1 i 2), .int (sY (gS g i)), .ref (d.1 i 3), .ref (d.1 i 4), .ref (d.1 i 5), .int (nI (sq (gS g i))), .int (sC (gS g i))])) :: ((d.1 i 1), .inl (ct 0, 12, .inl (fun j => nI (sK (gS g i) j)))) :: ((d.1 i 2), .inl (ct 0, 12, .inl (fun j => nI (sL (gS g i) j)))) :: ((d.1 i 3), .inl (ct 0, 12, .inl (sS (gS g i)))) :: ((d.1 i 4), .inl (ct 0, 144, .inl (sP (gS g i)))) :: ((d.1 i 5), .inl (ct 0, 30, .inl (fun j => nI (sT (gS g i) j)))) :: rsS ct d g i) := hDW.perm (hkW_S hi)
  obtain ⟨hKu, hLu, hKL, hqu, hTu, hYu⟩ := hSt i
  refine va_getN (D := D) (host := RX2) (ci := 1) (v := .int (sC (gS g i))) (C := RX1) (T := TX1) (N := 8) hx hb hts hin1 hown hE.1 hP 5 rfl rfl 7 (by decide) (hE.use hkN_X2_99) (fun _ h9 => h9) rfl dX2_pressed_5 ?_
  have hz : opPressed g (nI i) = (0, sC (gS g i), g) := by rw [opPressed, if_neg (bd_nI hi (by omega)), ix, hic]
  rw [hz]
  refine W.widen (k := 1) (n := 6) (Nat.le_of_ble_eq_true rfl) (Nat.le_of_ble_eq_true rfl) ?_
  exact vx_ret (W.iret (v := sC (gS g i)) hx hb hr (fun t ht hW => ⟨rfl, rfl, ⟨d, by rw [ht]; exact hPW, hDW⟩, hS.F ht⟩) hS.2.2 dX2_pressed_8)

set_option maxHeartbeats 4000000 in
set_option maxRecDepth 100000 in
theorem c_X2_pair (l : Launch) (hfl : l.flags = flags0) (D : va_G) (ct : Nat → ClassId) (sa : Nat → Nat) (G0 : Nat) (sz : Nat) (b : Nat → Nat) (d : Ad) (g : Sg) (x : Int32) (y : Int32) (z : Int32) (hI : Inv g) : vx_Met l yX2_pair wsX2_pair ({ frames := 7, cells := 3, slots := 18, locals := 104 }) (hkPx D ct sa G0 [.ref (b 0), .int x, .int y, .int z] (hkFP D ct b d g G0 sz)) (hkFQ D ct b (va_A (hkW ct b d g) sz) (opPair g x y z)) (hkXC (hkOk ["java/lang/IndexOutOfBoundsException"] (opPair g x y z).1)) 3 18 (va_A (hkW ct b d g) sz) := by
  refine vx_ofW (cc := cX2_pair) (maxL := 5) (ret := (some .int)) (by decide) rfl ?_
  intro p e s m args below meth c s₁ B hml hout hv
  obtain ⟨rfl, hE, hH, hp⟩ := hv
  have hx := B.exec
  have hb := B.bytes
  have hr := B.returns
  have hts := atoms_spec (ws := wsX2_pair) B.pre
  have hown : s.vm.findClass RX2 = some m.cls := findClass_of_methodNamed B.named
  have hlocks := B.notSynchronized
  have hin1 : ∀ w ∈ wsX10, w ∈ wsX2_pair := by decide +kernel
  obtain ⟨hsz, hPW, hD0⟩ := hp
  subst hsz
  have hDW := hD0.self (sz := s.heap.size)
  generalize hAe : va_A (hkW ct b d g) s.heap.size = A at hDW ⊢
  have hA : ∀ q : Nat, s.heap.size ≤ q → A q := fun q h => by rw [← hAe]; exact Or.inr h
  have hS : va_S A s.heap s.heap [] := va_S.rf
  obtain ⟨hN5, hd24, hc6, hSt, hDr, hNs, hCs, hCo⟩ := id hI
  have hl := lv_entry ([.ref (b 0), .int x, .int y, .int z]) (n := 5) (Nat.le_of_ble_eq_true rfl)
  rw [lg_entry_eq]
  generalize (lg_sl ([.ref (b 0), .int x, .int y, .int z]) ++ List.replicate (5 - (lg_sl ([.ref (b 0), .int x, .int y, .int z])).length) Slot.unset).toArray = ls at hl ⊢
  have hl : lv_has ls 5 [(0, .ref (b 0)), (1, .int x), (2, .int y), (3, .int z)] := hl
  have hP : va_P D vwCl (((b 0), .inr (2, [.ref (b 1), .ref (b 2), .ref (b 3), .int (nI (gd g)), .ref (b 4)])) :: ((b 1), .inl (ct 1, 5, .inr (.inr (.inr (.inr (rfs (gN g) d.1)))))) :: ((b 2), .inl (ct 2, 6, .inr (.inr (.inr (.inr (rfs (gc g) d.2.1)))))) :: ((b 3), .inl (ct 0, 24, .inl (fun j => nI (gD g j)))) :: ((b 4), .inl (ct 0, 144, .inl d.2.2)) :: (ssW ct d g (List.range (gN g)) ++ ccW ct d g (List.range (gc g)))) s.heap := hPW
  have hD : va_D A (((b 0), .inr (2, [.ref (b 1), .ref (b 2), .ref (b 3), .int (nI (gd g)), .ref (b 4)])) :: ((b 1), .inl (ct 1, 5, .inr (.inr (.inr (.inr (rfs (gN g) d.1)))))) :: ((b 2), .inl (ct 2, 6, .inr (.inr (.inr (.inr (rfs (gc g) d.2.1)))))) :: ((b 3), .inl (ct 0, 24, .inl (fun j => nI (gD g j)))) :: ((b 4), .inl (ct 0, 144, .inl d.2.2)) :: (ssW ct d g (List.range (gN g)) ++ ccW ct d g (List.range (gc g)))) := hDW
  refine lv_aload_n hx hb dX2_pair_0 rfl (lv_at hl 0 rfl) ?_
  refine lv_iload_n hx hb dX2_pair_1 rfl (lv_at hl 1 rfl) ?_
  refine hk_XR (rest := []) (vx_runV (As := [.int x]) (rest := []) ⟨hx, hb, hml, hown, hts⟩ (c_X2_studentAt l hfl D ct sa G0 (b 0) (b 1) (b 2) (b 3) (b 4) (gN g) (nI (gd g)) d.1 x hN5) (cwV 1 hts gX2_pair_X2_studentAt rfl rfl rfl (by decide +kernel) ⟨Nat.le_of_ble_eq_true rfl, Nat.le_of_ble_eq_true rfl⟩) (hk_prxV hE hH (va_recv hE.1 hP (ci := 2) (q0 := 0) rfl rfl) (hP.sub (ws' := [((b 0), .inr (2, [.ref (b 1), .ref (b 2), .ref (b 3), .int (nI (gd g)), .ref (b 4)])), ((b 1), .inl (ct 1, 5, .inr (.inr (.inr (.inr (rfs (gN g) d.1))))))]) [0, 1] rfl)) rfl rfl hl.1 rfl (lv_room (Nat.le_of_ble_eq_true rfl)) dX2_pair_2 ⟨Nat.le_of_ble_eq_true rfl, Nat.le_of_ble_eq_true rfl⟩) (fun E ce q9 H1 ho hF9 hce hcv hcl => ?_) (fun hq => ?_)
  · exact hk_out hout hlocks hF9 (by obtain ⟨rfl, hb9⟩ := ho; exact ⟨0, rfl, by rw [opPair, if_pos (Or.inl hb9)]; rfl⟩) hce hcv hcl (Nat.le_of_ble_eq_true rfl) (Nat.le_of_ble_eq_true rfl)
  obtain ⟨i, hi, rfl⟩ := bd_of (by omega) hq
  have hic : (nI i).toNatClampNeg = i := nI_clamp (by omega)
  rw [hic]
  have hP : va_P D vwCl (((b 0), .inr (2, [.ref (b 1), .ref (b 2), .ref (b 3), .int (nI (gd g)), .ref (b 4)])) :: ((b 1), .inl (ct 1, 5, .inr (.inr (.inr (.inr (rfs (gN g) d.1)))))) :: ((b 2), .inl (ct 2, 6, .inr (.inr (.inr (.inr (rfs (gc g) d.2.1)))))) :: ((b 3), .inl (ct 0, 24, .inl (fun j => nI (gD g j)))) :: ((b 4), .inl (ct 0, 144, .inl d.2.2)) :: ((d.1 i 0), .inr (1, [.ref (d.1 i 1), .ref (d.1 i 2), .int (sY (gS g i)), .ref (d.1 i 3), .ref (d.1 i 4), .ref (d.1 i 5), .int (nI (sq (gS g i))), .int (sC (gS g i))])) :: ((d.1 i 1), .inl (ct 0, 12, .inl (fun j => nI (sK (gS g i) j)))) :: ((d.1 i 2), .inl (ct 0, 12, .inl (fun j => nI (sL (gS g i) j)))) :: ((d.1 i 3), .inl (ct 0, 12, .inl (sS (gS g i)))) :: ((d.1 i 4), .inl (ct 0, 144, .inl (sP (gS g i)))) :: ((d.1 i 5), .inl (ct 0, 30, .inl (fun j => nI (sT (gS g i) j)))) :: rsS ct d g i) s.heap := hPW.perm (hkW_S hi)
  have hD : va_D A (((b 0), .inr (2, [.ref (b 1), .ref (b 2), .ref (b 3), .int (nI (gd g)), .ref (b 4)])) :: ((b 1), .inl (ct 1, 5, .inr (.inr (.inr (.inr (rfs (gN g) d.1)))))) :: ((b 2), .inl (ct 2, 6, .inr (.inr (.inr (.inr (rfs (gc g) d.2.1)))))) :: ((b 3), .inl (ct 0, 24, .inl (fun j => nI (gD g j)))) :: ((b 4), .inl (ct 0, 144, .inl d.2.2)) :: ((d.1 i 0), .inr (1, [.ref (d.1 i 1), .ref (d.1 i 2), .int (sY (gS g i)), .ref (d.1 i 3), .ref (d.1 i 4), .ref (d.1 i 5), .int (nI (sq (gS g i))), .int (sC (gS g i))])) :: ((d.1 i 1), .inl (ct 0, 12, .inl (fun j => nI (sK (gS g i) j)))) :: ((d.1 i 2), .inl (ct 0, 12, .inl (fun j => nI (sL (gS g i) j)))) :: ((d.1 i 3), .inl (ct 0, 12, .inl (sS (gS g i)))) :: ((d.1 i 4), .inl (ct 0, 144, .inl (sP (gS g i)))) :: ((d.1 i 5), .inl (ct 0, 30, .inl (fun j => nI (sT (gS g i) j)))) :: rsS ct d g i) := hDW.perm (hkW_S hi)
  obtain ⟨hKu, hLu, hKL, hqu, hTu, hYu⟩ := hSt i
  refine lv_astore (lv' := [(4, .ref (d.1 i 0)), (0, .ref (b 0)), (1, .int (nI i)), (2, .int y), (3, .int z)]) hx hb dX2_pair_5 hl (by decide) rfl (fun ls hl => ?_)
  refine lv_iload_n hx hb dX2_pair_7 rfl (lv_at hl 3 rfl) ?_
  refine hk_XR (rest := []) (vx_runS (As := [.int y]) (rest := []) ⟨hx, hb, hml, hown, hts⟩ (c_X2_needLetter l hfl D ct sa G0 y) (va_cwS 1 hts gX2_pair_X2_needLetter rfl rfl rfl (by decide +kernel) ⟨Nat.le_of_ble_eq_true rfl, Nat.le_of_ble_eq_true rfl⟩) (hk_prxS hE hH trivial) rfl rfl hl.1 rfl (lv_room (Nat.le_of_ble_eq_true rfl)) dX2_pair_8 ⟨Nat.le_of_ble_eq_true rfl, Nat.le_of_ble_eq_true rfl⟩) (fun E ce q9 H1 ho hF9 hce hcv hcl => ?_) (fun hq => ?_)
  · exact hk_out hout hlocks hF9 (by obtain ⟨rfl, hb9⟩ := ho; exact ⟨0, rfl, by rw [opPair, if_pos (Or.inr (Or.inl hb9))]; rfl⟩) hce hcv hcl (Nat.le_of_ble_eq_true rfl) (Nat.le_of_ble_eq_true rfl)
  obtain ⟨j, hj, rfl⟩ := bd_of (by decide) hq
  have hjc : (nI j).toNatClampNeg = j := nI_clamp (by omega)
  refine lv_iload_n hx hb dX2_pair_11 rfl (lv_at hl 4 rfl) ?_
  refine hk_XR (rest := []) (vx_runS (As := [.int z]) (rest := []) ⟨hx, hb, hml, hown, hts⟩ (c_X2_needLetter l hfl D ct sa G0 z) (va_cwS 1 hts gX2_pair_X2_needLetter rfl rfl rfl (by decide +kernel) ⟨Nat.le_of_ble_eq_true rfl, Nat.le_of_ble_eq_true rfl⟩) (hk_prxS hE hH trivial) rfl rfl hl.1 rfl (lv_room (Nat.le_of_ble_eq_true rfl)) dX2_pair_12 ⟨Nat.le_of_ble_eq_true rfl, Nat.le_of_ble_eq_true rfl⟩) (fun E ce q9 H1 ho hF9 hce hcv hcl => ?_) (fun hq => ?_)
  · exact hk_out hout hlocks hF9 (by obtain ⟨rfl, hb9⟩ := ho; exact ⟨0, rfl, by rw [opPair, if_pos (Or.inr (Or.inr hb9))]; rfl⟩) hce hcv hcl (Nat.le_of_ble_eq_true rfl) (Nat.le_of_ble_eq_true rfl)
  obtain ⟨k, hk, rfl⟩ := bd_of (by decide) hq
  have hkc : (nI k).toNatClampNeg = k := nI_clamp (by omega)
  refine lv_aload hx hb dX2_pair_15 (lv_at hl 0 rfl) ?_
  refine va_getN (D := D) (host := RX2) (ci := 1) (v := .ref (d.1 i 4)) (C := RX1) (T := TX1) (N := 8) hx hb hts hin1 hown hE.1 hP 5 rfl rfl 4 (by decide) (hE.use hkN_X2_93) (fun _ h9 => h9) rfl dX2_pair_17 ?_
  refine lv_iload_n hx hb dX2_pair_20 rfl (lv_at hl 3 rfl) ?_
  refine lv_iload_n hx hb dX2_pair_21 rfl (lv_at hl 4 rfl) ?_
  refine hk_R (rest := [.ref (d.1 i 4)]) (va_Run.run (va_runS (As := [.int (nI j), .int (nI k)]) (rest := [.ref (d.1 i 4)]) ⟨hx, hb, hml, hown, hts⟩ (c_X2_pairPlace l D ct sa j k) (va_cwS 2 hts gX2_pair_X2_pairPlace rfl rfl rfl (by decide +kernel) ⟨Nat.le_of_ble_eq_true rfl, Nat.le_of_ble_eq_true rfl⟩) (hk_preS hE trivial) rfl rfl hl.1 rfl (lv_room (Nat.le_of_ble_eq_true rfl)) dX2_pair_22 ⟨Nat.le_of_ble_eq_true rfl, Nat.le_of_ble_eq_true rfl⟩)) ?_
  refine hk_R (rest := []) (va_Run.run (va_runS (As := [.ref (d.1 i 4), .int (nI (12 * j + k))]) (rest := []) ⟨hx, hb, hml, hown, hts⟩ (c_X2_at l D ct sa (d.1 i 4) 144 (sP (gS g i)) (nI (12 * j + k)) (by decide)) (va_cwS 2 hts gX2_pair_X2_at rfl rfl rfl (by decide +kernel) ⟨Nat.le_of_ble_eq_true rfl, Nat.le_of_ble_eq_true rfl⟩) (hk_preS hE (hP.sub (ws' := [((d.1 i 4), .inl (ct 0, 144, .inl (sP (gS g i))))]) [9] rfl)) rfl rfl hl.1 rfl (lv_room (Nat.le_of_ble_eq_true rfl)) dX2_pair_25 ⟨Nat.le_of_ble_eq_true rfl, Nat.le_of_ble_eq_true rfl⟩)) ?_
  refine hk_top (y := sP (gS g i) (12 * j + k)) (hkAt_in (by omega) (by decide)) ?_
  have hz : opPair g (nI i) (nI j) (nI k) = (0, sP (gS g i) (12 * j + k), g) := by rw [opPair, if_neg (fun z => z.elim (bd_nI hi (by omega)) (fun z => z.elim (bd_nI hj (by decide)) (bd_nI hk (by decide)))), ix, ix, ix, hic, hjc, hkc]
  rw [hz]
  refine W.widen (k := 3) (n := 18) (Nat.le_of_ble_eq_true rfl) (Nat.le_of_ble_eq_true rfl) ?_
  exact vx_ret (W.iret (v := sP (gS g i) (12 * j + k)) hx hb hr (fun t ht hW => ⟨rfl, rfl, ⟨d, by rw [ht]; exact hPW, hDW⟩, hS.F ht⟩) hS.2.2 dX2_pair_28)

set_option maxHeartbeats 4000000 in
set_option maxRecDepth 100000 in
theorem c_X2_history (l : Launch) (hfl : l.flags = flags0) (D : va_G) (ct : Nat → ClassId) (sa : Nat → Nat) (G0 : Nat) (sz : Nat) (b : Nat → Nat) (d : Ad) (g : Sg) (x : Int32) (y : Int32) (hI : Inv g) : vx_Met l yX2_history wsX2_history ({ frames := 7, cells := 2, slots := 12, locals := 104 }) (hkPx D ct sa G0 [.ref (b 0), .int x, .int y] (hkFP D ct b d g G0 sz)) (hkFQ D ct b (va_A (hkW ct b d g) sz) (opHistory g x y)) (hkXC (hkOk ["java/lang/IndexOutOfBoundsException"] (opHistory g x y).1)) 2 12 (va_A (hkW ct b d g) sz) := by
  refine vx_ofW (cc := cX2_history) (maxL := 4) (ret := (some .int)) (by decide) rfl ?_
  intro p e s m args below meth c s₁ B hml hout hv
  obtain ⟨rfl, hE, hH, hp⟩ := hv
  have hx := B.exec
  have hb := B.bytes
  have hr := B.returns
  have hts := atoms_spec (ws := wsX2_history) B.pre
  have hown : s.vm.findClass RX2 = some m.cls := findClass_of_methodNamed B.named
  have hlocks := B.notSynchronized
  have hin1 : ∀ w ∈ wsX10, w ∈ wsX2_history := by decide +kernel
  obtain ⟨hsz, hPW, hD0⟩ := hp
  subst hsz
  have hDW := hD0.self (sz := s.heap.size)
  generalize hAe : va_A (hkW ct b d g) s.heap.size = A at hDW ⊢
  have hA : ∀ q : Nat, s.heap.size ≤ q → A q := fun q h => by rw [← hAe]; exact Or.inr h
  have hS : va_S A s.heap s.heap [] := va_S.rf
  obtain ⟨hN5, hd24, hc6, hSt, hDr, hNs, hCs, hCo⟩ := id hI
  have hl := lv_entry ([.ref (b 0), .int x, .int y]) (n := 4) (Nat.le_of_ble_eq_true rfl)
  rw [lg_entry_eq]
  generalize (lg_sl ([.ref (b 0), .int x, .int y]) ++ List.replicate (4 - (lg_sl ([.ref (b 0), .int x, .int y])).length) Slot.unset).toArray = ls at hl ⊢
  have hl : lv_has ls 4 [(0, .ref (b 0)), (1, .int x), (2, .int y)] := hl
  have hP : va_P D vwCl (((b 0), .inr (2, [.ref (b 1), .ref (b 2), .ref (b 3), .int (nI (gd g)), .ref (b 4)])) :: ((b 1), .inl (ct 1, 5, .inr (.inr (.inr (.inr (rfs (gN g) d.1)))))) :: ((b 2), .inl (ct 2, 6, .inr (.inr (.inr (.inr (rfs (gc g) d.2.1)))))) :: ((b 3), .inl (ct 0, 24, .inl (fun j => nI (gD g j)))) :: ((b 4), .inl (ct 0, 144, .inl d.2.2)) :: (ssW ct d g (List.range (gN g)) ++ ccW ct d g (List.range (gc g)))) s.heap := hPW
  have hD : va_D A (((b 0), .inr (2, [.ref (b 1), .ref (b 2), .ref (b 3), .int (nI (gd g)), .ref (b 4)])) :: ((b 1), .inl (ct 1, 5, .inr (.inr (.inr (.inr (rfs (gN g) d.1)))))) :: ((b 2), .inl (ct 2, 6, .inr (.inr (.inr (.inr (rfs (gc g) d.2.1)))))) :: ((b 3), .inl (ct 0, 24, .inl (fun j => nI (gD g j)))) :: ((b 4), .inl (ct 0, 144, .inl d.2.2)) :: (ssW ct d g (List.range (gN g)) ++ ccW ct d g (List.range (gc g)))) := hDW
  refine lv_aload_n hx hb dX2_history_0 rfl (lv_at hl 0 rfl) ?_
  refine lv_iload_n hx hb dX2_history_1 rfl (lv_at hl 1 rfl) ?_
  refine hk_XR (rest := []) (vx_runV (As := [.int x]) (rest := []) ⟨hx, hb, hml, hown, hts⟩ (c_X2_studentAt l hfl D ct sa G0 (b 0) (b 1) (b 2) (b 3) (b 4) (gN g) (nI (gd g)) d.1 x hN5) (cwV 1 hts gX2_history_X2_studentAt rfl rfl rfl (by decide +kernel) ⟨Nat.le_of_ble_eq_true rfl, Nat.le_of_ble_eq_true rfl⟩) (hk_prxV hE hH (va_recv hE.1 hP (ci := 2) (q0 := 0) rfl rfl) (hP.sub (ws' := [((b 0), .inr (2, [.ref (b 1), .ref (b 2), .ref (b 3), .int (nI (gd g)), .ref (b 4)])), ((b 1), .inl (ct 1, 5, .inr (.inr (.inr (.inr (rfs (gN g) d.1))))))]) [0, 1] rfl)) rfl rfl hl.1 rfl (lv_room (Nat.le_of_ble_eq_true rfl)) dX2_history_2 ⟨Nat.le_of_ble_eq_true rfl, Nat.le_of_ble_eq_true rfl⟩) (fun E ce q9 H1 ho hF9 hce hcv hcl => ?_) (fun hq => ?_)
  · exact hk_out hout hlocks hF9 (by obtain ⟨rfl, hb9⟩ := ho; exact ⟨0, rfl, by rw [opHistory, if_pos (Or.inl hb9)]; rfl⟩) hce hcv hcl (Nat.le_of_ble_eq_true rfl) (Nat.le_of_ble_eq_true rfl)
  obtain ⟨i, hi, rfl⟩ := bd_of (by omega) hq
  have hic : (nI i).toNatClampNeg = i := nI_clamp (by omega)
  rw [hic]
  have hP : va_P D vwCl (((b 0), .inr (2, [.ref (b 1), .ref (b 2), .ref (b 3), .int (nI (gd g)), .ref (b 4)])) :: ((b 1), .inl (ct 1, 5, .inr (.inr (.inr (.inr (rfs (gN g) d.1)))))) :: ((b 2), .inl (ct 2, 6, .inr (.inr (.inr (.inr (rfs (gc g) d.2.1)))))) :: ((b 3), .inl (ct 0, 24, .inl (fun j => nI (gD g j)))) :: ((b 4), .inl (ct 0, 144, .inl d.2.2)) :: ((d.1 i 0), .inr (1, [.ref (d.1 i 1), .ref (d.1 i 2), .int (sY (gS g i)), .ref (d.1 i 3), .ref (d.1 i 4), .ref (d.1 i 5), .int (nI (sq (gS g i))), .int (sC (gS g i))])) :: ((d.1 i 1), .inl (ct 0, 12, .inl (fun j => nI (sK (gS g i) j)))) :: ((d.1 i 2), .inl (ct 0, 12, .inl (fun j => nI (sL (gS g i) j)))) :: ((d.1 i 3), .inl (ct 0, 12, .inl (sS (gS g i)))) :: ((d.1 i 4), .inl (ct 0, 144, .inl (sP (gS g i)))) :: ((d.1 i 5), .inl (ct 0, 30, .inl (fun j => nI (sT (gS g i) j)))) :: rsS ct d g i) s.heap := hPW.perm (hkW_S hi)
  have hD : va_D A (((b 0), .inr (2, [.ref (b 1), .ref (b 2), .ref (b 3), .int (nI (gd g)), .ref (b 4)])) :: ((b 1), .inl (ct 1, 5, .inr (.inr (.inr (.inr (rfs (gN g) d.1)))))) :: ((b 2), .inl (ct 2, 6, .inr (.inr (.inr (.inr (rfs (gc g) d.2.1)))))) :: ((b 3), .inl (ct 0, 24, .inl (fun j => nI (gD g j)))) :: ((b 4), .inl (ct 0, 144, .inl d.2.2)) :: ((d.1 i 0), .inr (1, [.ref (d.1 i 1), .ref (d.1 i 2), .int (sY (gS g i)), .ref (d.1 i 3), .ref (d.1 i 4), .ref (d.1 i 5), .int (nI (sq (gS g i))), .int (sC (gS g i))])) :: ((d.1 i 1), .inl (ct 0, 12, .inl (fun j => nI (sK (gS g i) j)))) :: ((d.1 i 2), .inl (ct 0, 12, .inl (fun j => nI (sL (gS g i) j)))) :: ((d.1 i 3), .inl (ct 0, 12, .inl (sS (gS g i)))) :: ((d.1 i 4), .inl (ct 0, 144, .inl (sP (gS g i)))) :: ((d.1 i 5), .inl (ct 0, 30, .inl (fun j => nI (sT (gS g i) j)))) :: rsS ct d g i) := hDW.perm (hkW_S hi)
  obtain ⟨hKu, hLu, hKL, hqu, hTu, hYu⟩ := hSt i
  refine lv_astore_n (lv' := [(3, .ref (d.1 i 0)), (0, .ref (b 0)), (1, .int (nI i)), (2, .int y)]) hx hb dX2_history_5 rfl hl (by decide) rfl (fun ls hl => ?_)
  refine lv_iload_n hx hb dX2_history_6 rfl (lv_at hl 3 rfl) ?_
  refine lv_if_ge (tgt := 20) hx hb dX2_history_7 (by decide) (fun hc => ?_) (fun hc => ?_)
  · refine lv_iload_n hx hb dX2_history_20 rfl (lv_at hl 3 rfl) ?_
    refine lv_aload_n hx hb dX2_history_21 rfl (lv_at hl 0 rfl) ?_
    refine va_getN (D := D) (host := RX2) (ci := 1) (v := .int (nI (sq (gS g i)))) (C := RX1) (T := TX1) (N := 8) hx hb hts hin1 hown hE.1 hP 5 rfl rfl 6 (by decide) (hE.use hkN_X2_107) (fun _ h9 => h9) rfl dX2_history_22 ?_
    refine lv_icmp_ge (tgt := 39) hx hb dX2_history_25 (by decide) (fun h1 => ?_) (fun h1 => ?_)
    · refine lv_iconst (v := (-1)) hx hb dX2_history_39 (by decide) ?_
      have hz : opHistory g (nI i) y = (0, (-1), g) := by rw [opHistory, if_neg (fun z => z.elim (bd_nI hi (by omega)) (Int32.not_lt.mpr hc)), if_neg (Int32.not_lt.mpr (by rw [ix, hic]; exact h1))]
      rw [hz]
      refine W.widen (k := 2) (n := 12) (Nat.le_of_ble_eq_true rfl) (Nat.le_of_ble_eq_true rfl) ?_
      exact vx_ret (W.iret (v := (-1)) hx hb hr (fun t ht hW => ⟨rfl, rfl, ⟨d, by rw [ht]; exact hPW, hDW⟩, hS.F ht⟩) hS.2.2 dX2_history_40)
    · obtain ⟨j, hj, rfl⟩ := hk_lt_of (j := 0) (by omega) (Int32.not_lt.mpr hc) (Int32.not_le.mp h1)
      have hjc : (nI j).toNatClampNeg = j := nI_clamp (by omega)
      refine lv_aload_n hx hb dX2_history_28 rfl (lv_at hl 0 rfl) ?_
      refine va_getN (D := D) (host := RX2) (ci := 1) (v := .ref (d.1 i 5)) (C := RX1) (T := TX1) (N := 8) hx hb hts hin1 hown hE.1 hP 5 rfl rfl 5 (by decide) (hE.use hkN_X2_110) (fun _ h9 => h9) rfl dX2_history_29 ?_
      refine lv_iload_n hx hb dX2_history_32 rfl (lv_at hl 3 rfl) ?_
      refine hk_R (rest := []) (va_Run.run (va_runS (As := [.ref (d.1 i 5), .int (nI j)]) (rest := []) ⟨hx, hb, hml, hown, hts⟩ (c_X2_at l D ct sa (d.1 i 5) 30 (fun j => nI (sT (gS g i) j)) (nI j) (by decide)) (va_cwS 2 hts gX2_history_X2_at rfl rfl rfl (by decide +kernel) ⟨Nat.le_of_ble_eq_true rfl, Nat.le_of_ble_eq_true rfl⟩) (hk_preS hE (hP.sub (ws' := [((d.1 i 5), .inl (ct 0, 30, .inl (fun j => nI (sT (gS g i) j))))]) [10] rfl)) rfl rfl hl.1 rfl (lv_room (Nat.le_of_ble_eq_true rfl)) dX2_history_33 ⟨Nat.le_of_ble_eq_true rfl, Nat.le_of_ble_eq_true rfl⟩)) ?_
      refine hk_top (y := nI (sT (gS g i) j)) (hkAt_in (by omega) (by decide)) ?_
      refine lv_goto (tgt := 40) hx hb dX2_history_36 (by decide) ?_
      have hz : opHistory g (nI i) (nI j) = (0, nI (sT (gS g i) j), g) := by rw [opHistory, if_neg (fun z => z.elim (bd_nI hi (by omega)) (Int32.not_lt.mpr hc)), if_pos (by rw [ix, hic]; exact Int32.not_le.mp h1), ix, ix, hic, hjc]
      rw [hz]
      refine W.widen (k := 2) (n := 12) (Nat.le_of_ble_eq_true rfl) (Nat.le_of_ble_eq_true rfl) ?_
      exact vx_ret (W.iret (v := nI (sT (gS g i) j)) hx hb hr (fun t ht hW => ⟨rfl, rfl, ⟨d, by rw [ht]; exact hPW, hDW⟩, hS.F ht⟩) hS.2.2 dX2_history_40)
  · exact hk_throw (G0 := G0) hx hb hfl (cls := "java/lang/IndexOutOfBoundsException") (text := "place is below 0") (ik := 102) (is := 104) (ic := 106) (k := 18) hown (by decide +kernel) (hts (.classLink RX2 102 "java/lang/IndexOutOfBoundsException") (by decide +kernel)) (hts (.initialized "java/lang/IndexOutOfBoundsException") (by decide +kernel)) (fun w hw => hts w (List.mem_cons_of_mem _ (List.mem_append_right _ hw))) hk_ng1 hk_ot1 hE hH (List.mem_of_getElem? (i := 18) rfl) (hl.1.trans hml.symm) dX2_history_10 dX2_history_13 dX2_history_14 dX2_history_16 dX2_history_19 hout (Nat.le_of_ble_eq_true rfl) (Nat.le_of_ble_eq_true rfl) (Nat.le_of_ble_eq_true rfl) (Nat.le_of_ble_eq_true rfl) hlocks (by skip; exact ⟨0, rfl, by rw [opHistory, if_pos (Or.inr (Int32.not_le.mp hc))]; rfl⟩) (Nat.le_of_ble_eq_true rfl) (Nat.le_of_ble_eq_true rfl)

set_option maxHeartbeats 4000000 in
set_option maxRecDepth 100000 in
theorem c_X2_time (l : Launch) (hfl : l.flags = flags0) (D : va_G) (ct : Nat → ClassId) (sa : Nat → Nat) (G0 : Nat) (sz : Nat) (b : Nat → Nat) (d : Ad) (g : Sg) (x : Int32) (hI : Inv g) : vx_Met l yX2_time wsX2_time ({ frames := 7, cells := 1, slots := 6, locals := 104 }) (hkPx D ct sa G0 [.ref (b 0), .int x] (hkFP D ct b d g G0 sz)) (hkFQ D ct b (va_A (hkW ct b d g) sz) (opTime g x)) (hkXC (hkOk ["java/lang/IndexOutOfBoundsException"] (opTime g x).1)) 1 6 (va_A (hkW ct b d g) sz) := by
  refine vx_ofW (cc := cX2_time) (maxL := 2) (ret := (some .int)) (by decide) rfl ?_
  intro p e s m args below meth c s₁ B hml hout hv
  obtain ⟨rfl, hE, hH, hp⟩ := hv
  have hx := B.exec
  have hb := B.bytes
  have hr := B.returns
  have hts := atoms_spec (ws := wsX2_time) B.pre
  have hown : s.vm.findClass RX2 = some m.cls := findClass_of_methodNamed B.named
  have hlocks := B.notSynchronized
  obtain ⟨hsz, hPW, hD0⟩ := hp
  subst hsz
  have hDW := hD0.self (sz := s.heap.size)
  generalize hAe : va_A (hkW ct b d g) s.heap.size = A at hDW ⊢
  have hA : ∀ q : Nat, s.heap.size ≤ q → A q := fun q h => by rw [← hAe]; exact Or.inr h
  have hS : va_S A s.heap s.heap [] := va_S.rf
  obtain ⟨hN5, hd24, hc6, hSt, hDr, hNs, hCs, hCo⟩ := id hI
  have hl := lv_entry ([.ref (b 0), .int x]) (n := 2) (Nat.le_of_ble_eq_true rfl)
  rw [lg_entry_eq]
  generalize (lg_sl ([.ref (b 0), .int x]) ++ List.replicate (2 - (lg_sl ([.ref (b 0), .int x])).length) Slot.unset).toArray = ls at hl ⊢
  have hl : lv_has ls 2 [(0, .ref (b 0)), (1, .int x)] := hl
  have hP : va_P D vwCl (((b 0), .inr (2, [.ref (b 1), .ref (b 2), .ref (b 3), .int (nI (gd g)), .ref (b 4)])) :: ((b 1), .inl (ct 1, 5, .inr (.inr (.inr (.inr (rfs (gN g) d.1)))))) :: ((b 2), .inl (ct 2, 6, .inr (.inr (.inr (.inr (rfs (gc g) d.2.1)))))) :: ((b 3), .inl (ct 0, 24, .inl (fun j => nI (gD g j)))) :: ((b 4), .inl (ct 0, 144, .inl d.2.2)) :: (ssW ct d g (List.range (gN g)) ++ ccW ct d g (List.range (gc g)))) s.heap := hPW
  have hD : va_D A (((b 0), .inr (2, [.ref (b 1), .ref (b 2), .ref (b 3), .int (nI (gd g)), .ref (b 4)])) :: ((b 1), .inl (ct 1, 5, .inr (.inr (.inr (.inr (rfs (gN g) d.1)))))) :: ((b 2), .inl (ct 2, 6, .inr (.inr (.inr (.inr (rfs (gc g) d.2.1)))))) :: ((b 3), .inl (ct 0, 24, .inl (fun j => nI (gD g j)))) :: ((b 4), .inl (ct 0, 144, .inl d.2.2)) :: (ssW ct d g (List.range (gN g)) ++ ccW ct d g (List.range (gc g)))) := hDW
  refine lv_aload_n hx hb dX2_time_0 rfl (lv_at hl 0 rfl) ?_
  refine lv_iload_n hx hb dX2_time_1 rfl (lv_at hl 1 rfl) ?_
  refine hk_XR (rest := []) (vx_runV (As := [.int x]) (rest := []) ⟨hx, hb, hml, hown, hts⟩ (c_X2_studentAt l hfl D ct sa G0 (b 0) (b 1) (b 2) (b 3) (b 4) (gN g) (nI (gd g)) d.1 x hN5) (cwV 1 hts gX2_time_X2_studentAt rfl rfl rfl (by decide +kernel) ⟨Nat.le_of_ble_eq_true rfl, Nat.le_of_ble_eq_true rfl⟩) (hk_prxV hE hH (va_recv hE.1 hP (ci := 2) (q0 := 0) rfl rfl) (hP.sub (ws' := [((b 0), .inr (2, [.ref (b 1), .ref (b 2), .ref (b 3), .int (nI (gd g)), .ref (b 4)])), ((b 1), .inl (ct 1, 5, .inr (.inr (.inr (.inr (rfs (gN g) d.1))))))]) [0, 1] rfl)) rfl rfl hl.1 rfl (lv_room (Nat.le_of_ble_eq_true rfl)) dX2_time_2 ⟨Nat.le_of_ble_eq_true rfl, Nat.le_of_ble_eq_true rfl⟩) (fun E ce q9 H1 ho hF9 hce hcv hcl => ?_) (fun hq => ?_)
  · exact hk_out hout hlocks hF9 (by obtain ⟨rfl, hb9⟩ := ho; exact ⟨0, rfl, by rw [opTime, if_pos (hb9)]; rfl⟩) hce hcv hcl (Nat.le_of_ble_eq_true rfl) (Nat.le_of_ble_eq_true rfl)
  obtain ⟨i, hi, rfl⟩ := bd_of (by omega) hq
  have hic : (nI i).toNatClampNeg = i := nI_clamp (by omega)
  rw [hic]
  have hP : va_P D vwCl (((b 0), .inr (2, [.ref (b 1), .ref (b 2), .ref (b 3), .int (nI (gd g)), .ref (b 4)])) :: ((b 1), .inl (ct 1, 5, .inr (.inr (.inr (.inr (rfs (gN g) d.1)))))) :: ((b 2), .inl (ct 2, 6, .inr (.inr (.inr (.inr (rfs (gc g) d.2.1)))))) :: ((b 3), .inl (ct 0, 24, .inl (fun j => nI (gD g j)))) :: ((b 4), .inl (ct 0, 144, .inl d.2.2)) :: ((d.1 i 0), .inr (1, [.ref (d.1 i 1), .ref (d.1 i 2), .int (sY (gS g i)), .ref (d.1 i 3), .ref (d.1 i 4), .ref (d.1 i 5), .int (nI (sq (gS g i))), .int (sC (gS g i))])) :: ((d.1 i 1), .inl (ct 0, 12, .inl (fun j => nI (sK (gS g i) j)))) :: ((d.1 i 2), .inl (ct 0, 12, .inl (fun j => nI (sL (gS g i) j)))) :: ((d.1 i 3), .inl (ct 0, 12, .inl (sS (gS g i)))) :: ((d.1 i 4), .inl (ct 0, 144, .inl (sP (gS g i)))) :: ((d.1 i 5), .inl (ct 0, 30, .inl (fun j => nI (sT (gS g i) j)))) :: rsS ct d g i) s.heap := hPW.perm (hkW_S hi)
  have hD : va_D A (((b 0), .inr (2, [.ref (b 1), .ref (b 2), .ref (b 3), .int (nI (gd g)), .ref (b 4)])) :: ((b 1), .inl (ct 1, 5, .inr (.inr (.inr (.inr (rfs (gN g) d.1)))))) :: ((b 2), .inl (ct 2, 6, .inr (.inr (.inr (.inr (rfs (gc g) d.2.1)))))) :: ((b 3), .inl (ct 0, 24, .inl (fun j => nI (gD g j)))) :: ((b 4), .inl (ct 0, 144, .inl d.2.2)) :: ((d.1 i 0), .inr (1, [.ref (d.1 i 1), .ref (d.1 i 2), .int (sY (gS g i)), .ref (d.1 i 3), .ref (d.1 i 4), .ref (d.1 i 5), .int (nI (sq (gS g i))), .int (sC (gS g i))])) :: ((d.1 i 1), .inl (ct 0, 12, .inl (fun j => nI (sK (gS g i) j)))) :: ((d.1 i 2), .inl (ct 0, 12, .inl (fun j => nI (sL (gS g i) j)))) :: ((d.1 i 3), .inl (ct 0, 12, .inl (sS (gS g i)))) :: ((d.1 i 4), .inl (ct 0, 144, .inl (sP (gS g i)))) :: ((d.1 i 5), .inl (ct 0, 30, .inl (fun j => nI (sT (gS g i) j)))) :: rsS ct d g i) := hDW.perm (hkW_S hi)
  obtain ⟨hKu, hLu, hKL, hqu, hTu, hYu⟩ := hSt i
  refine lv_iconst (v := (-1)) hx hb dX2_time_5 (by decide) ?_
  refine lv_iconst (v := (-1)) hx hb dX2_time_6 (by decide) ?_
  refine hk_R (rest := []) (va_Run.run (va_runVN (host := RX2) (As := [.int (-1), .int (-1)]) (rest := []) ⟨hx, hb, hml, hown, hts⟩ (c_X1_timeWith l D ct sa (d.1 i 0) (d.1 i 1) (d.1 i 2) (d.1 i 3) (d.1 i 4) (d.1 i 5) (sq (gS g i)) (sK (gS g i)) (sL (gS g i)) (sT (gS g i)) (sS (gS g i)) (sP (gS g i)) (sY (gS g i)) (sC (gS g i)) (gk (sK (gS g i)) (sT (gS g i))) (-1) (-1) hqu hTu (fun p _ => ⟨hkSw_m1 (hKu _ (hTu p)), hKu _ (hTu p)⟩)) ⟨va_cnB 2 hts gX2_time_X1_timeWith_n113 rfl rfl rfl (hE.nw hkN_X2_113) (hts (.initialized RX1) (by decide +kernel)) (by decide +kernel) ⟨Nat.le_of_ble_eq_true rfl, Nat.le_of_ble_eq_true rfl⟩, hts (.instanceMethod yX1_timeWith) (by decide +kernel), hts (.selects RX1 yX1_timeWith yX1_timeWith) (by decide +kernel)⟩ (hk_preV hE (va_recv hE.1 hP (ci := 1) (q0 := 5) rfl rfl) (hP.sub (ws' := [((d.1 i 0), .inr (1, [.ref (d.1 i 1), .ref (d.1 i 2), .int (sY (gS g i)), .ref (d.1 i 3), .ref (d.1 i 4), .ref (d.1 i 5), .int (nI (sq (gS g i))), .int (sC (gS g i))])), ((d.1 i 1), .inl (ct 0, 12, .inl (fun j => nI (sK (gS g i) j)))), ((d.1 i 2), .inl (ct 0, 12, .inl (fun j => nI (sL (gS g i) j)))), ((d.1 i 3), .inl (ct 0, 12, .inl (sS (gS g i)))), ((d.1 i 4), .inl (ct 0, 144, .inl (sP (gS g i)))), ((d.1 i 5), .inl (ct 0, 30, .inl (fun j => nI (sT (gS g i) j))))]) [5, 6, 7, 8, 9, 10] rfl)) rfl rfl hl.1 rfl (lv_room (Nat.le_of_ble_eq_true rfl)) dX2_time_7 ⟨Nat.le_of_ble_eq_true rfl, Nat.le_of_ble_eq_true rfl⟩)) ?_
  have hz : opTime g (nI i) = (0, nI (tt (gk (sK (gS g i)) (sT (gS g i))) (sq (gS g i))), g) := by rw [opTime, if_neg (bd_nI hi (by omega)), ix, hic]
  rw [hz]
  refine W.widen (k := 1) (n := 6) (Nat.le_of_ble_eq_true rfl) (Nat.le_of_ble_eq_true rfl) ?_
  exact vx_ret (W.iret (v := nI (tt (gk (sK (gS g i)) (sT (gS g i))) (sq (gS g i)))) hx hb hr (fun t ht hW => ⟨rfl, rfl, ⟨d, by rw [ht]; exact hPW, hDW⟩, hS.F ht⟩) hS.2.2 dX2_time_10)

set_option maxHeartbeats 4000000 in
set_option maxRecDepth 100000 in
theorem c_X2_best (l : Launch) (hfl : l.flags = flags0) (D : va_G) (ct : Nat → ClassId) (sa : Nat → Nat) (G0 : Nat) (sz : Nat) (b : Nat → Nat) (d : Ad) (g : Sg) (x : Int32) (hI : Inv g) : vx_Met l yX2_best wsX2_best ({ frames := 7, cells := 1, slots := 6, locals := 117 }) (hkPx D ct sa G0 [.ref (b 0), .int x] (hkFP D ct b d g G0 sz)) (hkFQ D ct b (va_A (hkW ct b d g) sz) (opBest g x)) (hkXC (hkOk ["java/lang/IndexOutOfBoundsException"] (opBest g x).1)) 1 6 (va_A (hkW ct b d g) sz) := by
  refine vx_ofW (cc := cX2_best) (maxL := 2) (ret := (some .int)) (by decide) rfl ?_
  intro p e s m args below meth c s₁ B hml hout hv
  obtain ⟨rfl, hE, hH, hp⟩ := hv
  have hx := B.exec
  have hb := B.bytes
  have hr := B.returns
  have hts := atoms_spec (ws := wsX2_best) B.pre
  have hown : s.vm.findClass RX2 = some m.cls := findClass_of_methodNamed B.named
  have hlocks := B.notSynchronized
  obtain ⟨hsz, hPW, hD0⟩ := hp
  subst hsz
  have hDW := hD0.self (sz := s.heap.size)
  generalize hAe : va_A (hkW ct b d g) s.heap.size = A at hDW ⊢
  have hA : ∀ q : Nat, s.heap.size ≤ q → A q := fun q h => by rw [← hAe]; exact Or.inr h
  have hS : va_S A s.heap s.heap [] := va_S.rf
  obtain ⟨hN5, hd24, hc6, hSt, hDr, hNs, hCs, hCo⟩ := id hI
  have hl := lv_entry ([.ref (b 0), .int x]) (n := 2) (Nat.le_of_ble_eq_true rfl)
  rw [lg_entry_eq]
  generalize (lg_sl ([.ref (b 0), .int x]) ++ List.replicate (2 - (lg_sl ([.ref (b 0), .int x])).length) Slot.unset).toArray = ls at hl ⊢
  have hl : lv_has ls 2 [(0, .ref (b 0)), (1, .int x)] := hl
  have hP : va_P D vwCl (((b 0), .inr (2, [.ref (b 1), .ref (b 2), .ref (b 3), .int (nI (gd g)), .ref (b 4)])) :: ((b 1), .inl (ct 1, 5, .inr (.inr (.inr (.inr (rfs (gN g) d.1)))))) :: ((b 2), .inl (ct 2, 6, .inr (.inr (.inr (.inr (rfs (gc g) d.2.1)))))) :: ((b 3), .inl (ct 0, 24, .inl (fun j => nI (gD g j)))) :: ((b 4), .inl (ct 0, 144, .inl d.2.2)) :: (ssW ct d g (List.range (gN g)) ++ ccW ct d g (List.range (gc g)))) s.heap := hPW
  have hD : va_D A (((b 0), .inr (2, [.ref (b 1), .ref (b 2), .ref (b 3), .int (nI (gd g)), .ref (b 4)])) :: ((b 1), .inl (ct 1, 5, .inr (.inr (.inr (.inr (rfs (gN g) d.1)))))) :: ((b 2), .inl (ct 2, 6, .inr (.inr (.inr (.inr (rfs (gc g) d.2.1)))))) :: ((b 3), .inl (ct 0, 24, .inl (fun j => nI (gD g j)))) :: ((b 4), .inl (ct 0, 144, .inl d.2.2)) :: (ssW ct d g (List.range (gN g)) ++ ccW ct d g (List.range (gc g)))) := hDW
  refine lv_aload_n hx hb dX2_best_0 rfl (lv_at hl 0 rfl) ?_
  refine lv_iload_n hx hb dX2_best_1 rfl (lv_at hl 1 rfl) ?_
  refine hk_XR (rest := []) (vx_runV (As := [.int x]) (rest := []) ⟨hx, hb, hml, hown, hts⟩ (c_X2_studentAt l hfl D ct sa G0 (b 0) (b 1) (b 2) (b 3) (b 4) (gN g) (nI (gd g)) d.1 x hN5) (cwV 1 hts gX2_best_X2_studentAt rfl rfl rfl (by decide +kernel) ⟨Nat.le_of_ble_eq_true rfl, Nat.le_of_ble_eq_true rfl⟩) (hk_prxV hE hH (va_recv hE.1 hP (ci := 2) (q0 := 0) rfl rfl) (hP.sub (ws' := [((b 0), .inr (2, [.ref (b 1), .ref (b 2), .ref (b 3), .int (nI (gd g)), .ref (b 4)])), ((b 1), .inl (ct 1, 5, .inr (.inr (.inr (.inr (rfs (gN g) d.1))))))]) [0, 1] rfl)) rfl rfl hl.1 rfl (lv_room (Nat.le_of_ble_eq_true rfl)) dX2_best_2 ⟨Nat.le_of_ble_eq_true rfl, Nat.le_of_ble_eq_true rfl⟩) (fun E ce q9 H1 ho hF9 hce hcv hcl => ?_) (fun hq => ?_)
  · exact hk_out hout hlocks hF9 (by obtain ⟨rfl, hb9⟩ := ho; exact ⟨0, rfl, by rw [opBest, if_pos (hb9)]; rfl⟩) hce hcv hcl (Nat.le_of_ble_eq_true rfl) (Nat.le_of_ble_eq_true rfl)
  obtain ⟨i, hi, rfl⟩ := bd_of (by omega) hq
  have hic : (nI i).toNatClampNeg = i := nI_clamp (by omega)
  rw [hic]
  have hP : va_P D vwCl (((b 0), .inr (2, [.ref (b 1), .ref (b 2), .ref (b 3), .int (nI (gd g)), .ref (b 4)])) :: ((b 1), .inl (ct 1, 5, .inr (.inr (.inr (.inr (rfs (gN g) d.1)))))) :: ((b 2), .inl (ct 2, 6, .inr (.inr (.inr (.inr (rfs (gc g) d.2.1)))))) :: ((b 3), .inl (ct 0, 24, .inl (fun j => nI (gD g j)))) :: ((b 4), .inl (ct 0, 144, .inl d.2.2)) :: ((d.1 i 0), .inr (1, [.ref (d.1 i 1), .ref (d.1 i 2), .int (sY (gS g i)), .ref (d.1 i 3), .ref (d.1 i 4), .ref (d.1 i 5), .int (nI (sq (gS g i))), .int (sC (gS g i))])) :: ((d.1 i 1), .inl (ct 0, 12, .inl (fun j => nI (sK (gS g i) j)))) :: ((d.1 i 2), .inl (ct 0, 12, .inl (fun j => nI (sL (gS g i) j)))) :: ((d.1 i 3), .inl (ct 0, 12, .inl (sS (gS g i)))) :: ((d.1 i 4), .inl (ct 0, 144, .inl (sP (gS g i)))) :: ((d.1 i 5), .inl (ct 0, 30, .inl (fun j => nI (sT (gS g i) j)))) :: rsS ct d g i) s.heap := hPW.perm (hkW_S hi)
  have hD : va_D A (((b 0), .inr (2, [.ref (b 1), .ref (b 2), .ref (b 3), .int (nI (gd g)), .ref (b 4)])) :: ((b 1), .inl (ct 1, 5, .inr (.inr (.inr (.inr (rfs (gN g) d.1)))))) :: ((b 2), .inl (ct 2, 6, .inr (.inr (.inr (.inr (rfs (gc g) d.2.1)))))) :: ((b 3), .inl (ct 0, 24, .inl (fun j => nI (gD g j)))) :: ((b 4), .inl (ct 0, 144, .inl d.2.2)) :: ((d.1 i 0), .inr (1, [.ref (d.1 i 1), .ref (d.1 i 2), .int (sY (gS g i)), .ref (d.1 i 3), .ref (d.1 i 4), .ref (d.1 i 5), .int (nI (sq (gS g i))), .int (sC (gS g i))])) :: ((d.1 i 1), .inl (ct 0, 12, .inl (fun j => nI (sK (gS g i) j)))) :: ((d.1 i 2), .inl (ct 0, 12, .inl (fun j => nI (sL (gS g i) j)))) :: ((d.1 i 3), .inl (ct 0, 12, .inl (sS (gS g i)))) :: ((d.1 i 4), .inl (ct 0, 144, .inl (sP (gS g i)))) :: ((d.1 i 5), .inl (ct 0, 30, .inl (fun j => nI (sT (gS g i) j)))) :: rsS ct d g i) := hDW.perm (hkW_S hi)
  obtain ⟨hKu, hLu, hKL, hqu, hTu, hYu⟩ := hSt i
  refine hk_R (rest := []) (va_Run.run (va_runVN (host := RX2) (As := []) (rest := []) ⟨hx, hb, hml, hown, hts⟩ (c_X1_bestExchange l D ct sa (d.1 i 0) (d.1 i 1) (d.1 i 2) (d.1 i 3) (d.1 i 4) (d.1 i 5) (sq (gS g i)) (sK (gS g i)) (sL (gS g i)) (sT (gS g i)) (sS (gS g i)) (sP (gS g i)) (sY (gS g i)) (sC (gS g i)) hqu hTu hKu) ⟨va_cnB 0 hts gX2_best_X1_bestExchange_n125 rfl rfl rfl (hE.nw hkN_X2_125) (hts (.initialized RX1) (by decide +kernel)) (by decide +kernel) ⟨Nat.le_of_ble_eq_true rfl, Nat.le_of_ble_eq_true rfl⟩, hts (.instanceMethod yX1_bestExchange) (by decide +kernel), hts (.selects RX1 yX1_bestExchange yX1_bestExchange) (by decide +kernel)⟩ (hk_preV hE (va_recv hE.1 hP (ci := 1) (q0 := 5) rfl rfl) (hP.sub (ws' := [((d.1 i 0), .inr (1, [.ref (d.1 i 1), .ref (d.1 i 2), .int (sY (gS g i)), .ref (d.1 i 3), .ref (d.1 i 4), .ref (d.1 i 5), .int (nI (sq (gS g i))), .int (sC (gS g i))])), ((d.1 i 1), .inl (ct 0, 12, .inl (fun j => nI (sK (gS g i) j)))), ((d.1 i 2), .inl (ct 0, 12, .inl (fun j => nI (sL (gS g i) j)))), ((d.1 i 3), .inl (ct 0, 12, .inl (sS (gS g i)))), ((d.1 i 4), .inl (ct 0, 144, .inl (sP (gS g i)))), ((d.1 i 5), .inl (ct 0, 30, .inl (fun j => nI (sT (gS g i) j))))]) [5, 6, 7, 8, 9, 10] rfl)) rfl rfl hl.1 rfl (lv_room (Nat.le_of_ble_eq_true rfl)) dX2_best_5 ⟨Nat.le_of_ble_eq_true rfl, Nat.le_of_ble_eq_true rfl⟩)) ?_
  have hz : opBest g (nI i) = (0, (bs (sK (gS g i)) (sT (gS g i)) (sq (gS g i)) 144).1, g) := by rw [opBest, if_neg (bd_nI hi (by omega)), ix, hic]
  rw [hz]
  refine W.widen (k := 1) (n := 6) (Nat.le_of_ble_eq_true rfl) (Nat.le_of_ble_eq_true rfl) ?_
  exact vx_ret (W.iret (v := (bs (sK (gS g i)) (sT (gS g i)) (sq (gS g i)) 144).1) hx hb hr (fun t ht hW => ⟨rfl, rfl, ⟨d, by rw [ht]; exact hPW, hDW⟩, hS.F ht⟩) hS.2.2 dX2_best_8)

set_option maxHeartbeats 4000000 in
set_option maxRecDepth 100000 in
theorem c_X2_lesson (l : Launch) (hfl : l.flags = flags0) (D : va_G) (ct : Nat → ClassId) (sa : Nat → Nat) (G0 : Nat) (sz : Nat) (b : Nat → Nat) (d : Ad) (g : Sg) (x : Int32) (y : Int32) (hI : Inv g) : vx_Met l yX2_lesson wsX2_lesson ({ frames := 7, cells := 2, slots := 12, locals := 104 }) (hkPx D ct sa G0 [.ref (b 0), .int x, .int y] (hkFP D ct b d g G0 sz)) (hkFQ D ct b (va_A (hkW ct b d g) sz) (opLesson g x y)) (hkXC (hkOk ["java/lang/IndexOutOfBoundsException"] (opLesson g x y).1)) 2 12 (va_A (hkW ct b d g) sz) := by
  refine vx_ofW (cc := cX2_lesson) (maxL := 4) (ret := (some .int)) (by decide) rfl ?_
  intro p e s m args below meth c s₁ B hml hout hv
  obtain ⟨rfl, hE, hH, hp⟩ := hv
  have hx := B.exec
  have hb := B.bytes
  have hr := B.returns
  have hts := atoms_spec (ws := wsX2_lesson) B.pre
  have hown : s.vm.findClass RX2 = some m.cls := findClass_of_methodNamed B.named
  have hlocks := B.notSynchronized
  obtain ⟨hsz, hPW, hD0⟩ := hp
  subst hsz
  have hDW := hD0.self (sz := s.heap.size)
  generalize hAe : va_A (hkW ct b d g) s.heap.size = A at hDW ⊢
  have hA : ∀ q : Nat, s.heap.size ≤ q → A q := fun q h => by rw [← hAe]; exact Or.inr h
  have hS : va_S A s.heap s.heap [] := va_S.rf
  obtain ⟨hN5, hd24, hc6, hSt, hDr, hNs, hCs, hCo⟩ := id hI
  have hl := lv_entry ([.ref (b 0), .int x, .int y]) (n := 4) (Nat.le_of_ble_eq_true rfl)
  rw [lg_entry_eq]
  generalize (lg_sl ([.ref (b 0), .int x, .int y]) ++ List.replicate (4 - (lg_sl ([.ref (b 0), .int x, .int y])).length) Slot.unset).toArray = ls at hl ⊢
  have hl : lv_has ls 4 [(0, .ref (b 0)), (1, .int x), (2, .int y)] := hl
  have hP : va_P D vwCl (((b 0), .inr (2, [.ref (b 1), .ref (b 2), .ref (b 3), .int (nI (gd g)), .ref (b 4)])) :: ((b 1), .inl (ct 1, 5, .inr (.inr (.inr (.inr (rfs (gN g) d.1)))))) :: ((b 2), .inl (ct 2, 6, .inr (.inr (.inr (.inr (rfs (gc g) d.2.1)))))) :: ((b 3), .inl (ct 0, 24, .inl (fun j => nI (gD g j)))) :: ((b 4), .inl (ct 0, 144, .inl d.2.2)) :: (ssW ct d g (List.range (gN g)) ++ ccW ct d g (List.range (gc g)))) s.heap := hPW
  have hD : va_D A (((b 0), .inr (2, [.ref (b 1), .ref (b 2), .ref (b 3), .int (nI (gd g)), .ref (b 4)])) :: ((b 1), .inl (ct 1, 5, .inr (.inr (.inr (.inr (rfs (gN g) d.1)))))) :: ((b 2), .inl (ct 2, 6, .inr (.inr (.inr (.inr (rfs (gc g) d.2.1)))))) :: ((b 3), .inl (ct 0, 24, .inl (fun j => nI (gD g j)))) :: ((b 4), .inl (ct 0, 144, .inl d.2.2)) :: (ssW ct d g (List.range (gN g)) ++ ccW ct d g (List.range (gc g)))) := hDW
  refine lv_aload_n hx hb dX2_lesson_0 rfl (lv_at hl 0 rfl) ?_
  refine lv_iload_n hx hb dX2_lesson_1 rfl (lv_at hl 1 rfl) ?_
  refine hk_XR (rest := []) (vx_runV (As := [.int x]) (rest := []) ⟨hx, hb, hml, hown, hts⟩ (c_X2_studentAt l hfl D ct sa G0 (b 0) (b 1) (b 2) (b 3) (b 4) (gN g) (nI (gd g)) d.1 x hN5) (cwV 1 hts gX2_lesson_X2_studentAt rfl rfl rfl (by decide +kernel) ⟨Nat.le_of_ble_eq_true rfl, Nat.le_of_ble_eq_true rfl⟩) (hk_prxV hE hH (va_recv hE.1 hP (ci := 2) (q0 := 0) rfl rfl) (hP.sub (ws' := [((b 0), .inr (2, [.ref (b 1), .ref (b 2), .ref (b 3), .int (nI (gd g)), .ref (b 4)])), ((b 1), .inl (ct 1, 5, .inr (.inr (.inr (.inr (rfs (gN g) d.1))))))]) [0, 1] rfl)) rfl rfl hl.1 rfl (lv_room (Nat.le_of_ble_eq_true rfl)) dX2_lesson_2 ⟨Nat.le_of_ble_eq_true rfl, Nat.le_of_ble_eq_true rfl⟩) (fun E ce q9 H1 ho hF9 hce hcv hcl => ?_) (fun hq => ?_)
  · exact hk_out hout hlocks hF9 (by obtain ⟨rfl, hb9⟩ := ho; exact ⟨0, rfl, by rw [opLesson, if_pos (Or.inl hb9)]; rfl⟩) hce hcv hcl (Nat.le_of_ble_eq_true rfl) (Nat.le_of_ble_eq_true rfl)
  obtain ⟨i, hi, rfl⟩ := bd_of (by omega) hq
  have hic : (nI i).toNatClampNeg = i := nI_clamp (by omega)
  rw [hic]
  have hP : va_P D vwCl (((b 0), .inr (2, [.ref (b 1), .ref (b 2), .ref (b 3), .int (nI (gd g)), .ref (b 4)])) :: ((b 1), .inl (ct 1, 5, .inr (.inr (.inr (.inr (rfs (gN g) d.1)))))) :: ((b 2), .inl (ct 2, 6, .inr (.inr (.inr (.inr (rfs (gc g) d.2.1)))))) :: ((b 3), .inl (ct 0, 24, .inl (fun j => nI (gD g j)))) :: ((b 4), .inl (ct 0, 144, .inl d.2.2)) :: ((d.1 i 0), .inr (1, [.ref (d.1 i 1), .ref (d.1 i 2), .int (sY (gS g i)), .ref (d.1 i 3), .ref (d.1 i 4), .ref (d.1 i 5), .int (nI (sq (gS g i))), .int (sC (gS g i))])) :: ((d.1 i 1), .inl (ct 0, 12, .inl (fun j => nI (sK (gS g i) j)))) :: ((d.1 i 2), .inl (ct 0, 12, .inl (fun j => nI (sL (gS g i) j)))) :: ((d.1 i 3), .inl (ct 0, 12, .inl (sS (gS g i)))) :: ((d.1 i 4), .inl (ct 0, 144, .inl (sP (gS g i)))) :: ((d.1 i 5), .inl (ct 0, 30, .inl (fun j => nI (sT (gS g i) j)))) :: rsS ct d g i) s.heap := hPW.perm (hkW_S hi)
  have hD : va_D A (((b 0), .inr (2, [.ref (b 1), .ref (b 2), .ref (b 3), .int (nI (gd g)), .ref (b 4)])) :: ((b 1), .inl (ct 1, 5, .inr (.inr (.inr (.inr (rfs (gN g) d.1)))))) :: ((b 2), .inl (ct 2, 6, .inr (.inr (.inr (.inr (rfs (gc g) d.2.1)))))) :: ((b 3), .inl (ct 0, 24, .inl (fun j => nI (gD g j)))) :: ((b 4), .inl (ct 0, 144, .inl d.2.2)) :: ((d.1 i 0), .inr (1, [.ref (d.1 i 1), .ref (d.1 i 2), .int (sY (gS g i)), .ref (d.1 i 3), .ref (d.1 i 4), .ref (d.1 i 5), .int (nI (sq (gS g i))), .int (sC (gS g i))])) :: ((d.1 i 1), .inl (ct 0, 12, .inl (fun j => nI (sK (gS g i) j)))) :: ((d.1 i 2), .inl (ct 0, 12, .inl (fun j => nI (sL (gS g i) j)))) :: ((d.1 i 3), .inl (ct 0, 12, .inl (sS (gS g i)))) :: ((d.1 i 4), .inl (ct 0, 144, .inl (sP (gS g i)))) :: ((d.1 i 5), .inl (ct 0, 30, .inl (fun j => nI (sT (gS g i) j)))) :: rsS ct d g i) := hDW.perm (hkW_S hi)
  obtain ⟨hKu, hLu, hKL, hqu, hTu, hYu⟩ := hSt i
  refine lv_astore_n (lv' := [(3, .ref (d.1 i 0)), (0, .ref (b 0)), (1, .int (nI i)), (2, .int y)]) hx hb dX2_lesson_5 rfl hl (by decide) rfl (fun ls hl => ?_)
  refine lv_iload_n hx hb dX2_lesson_6 rfl (lv_at hl 3 rfl) ?_
  refine lv_if_lt (tgt := 16) hx hb dX2_lesson_7 (by decide) (fun hc => ?_) (fun hc => ?_)
  · exact hk_throw (G0 := G0) hx hb hfl (cls := "java/lang/IndexOutOfBoundsException") (text := "no such place") (ik := 102) (is := 120) (ic := 106) (k := 16) hown (by decide +kernel) (hts (.classLink RX2 102 "java/lang/IndexOutOfBoundsException") (by decide +kernel)) (hts (.initialized "java/lang/IndexOutOfBoundsException") (by decide +kernel)) (fun w hw => hts w (List.mem_cons_of_mem _ (List.mem_append_right _ hw))) hk_ng1 hk_ot1 hE hH (List.mem_of_getElem? (i := 16) rfl) (hl.1.trans hml.symm) dX2_lesson_16 dX2_lesson_19 dX2_lesson_20 dX2_lesson_22 dX2_lesson_25 hout (Nat.le_of_ble_eq_true rfl) (Nat.le_of_ble_eq_true rfl) (Nat.le_of_ble_eq_true rfl) (Nat.le_of_ble_eq_true rfl) hlocks (by skip; exact ⟨0, rfl, by rw [opLesson, if_pos (Or.inr (bd_lt hc))]; rfl⟩) (Nat.le_of_ble_eq_true rfl) (Nat.le_of_ble_eq_true rfl)
  · refine lv_iload_n hx hb dX2_lesson_10 rfl (lv_at hl 3 rfl) ?_
    refine lv_bipush (v := nI 100) hx hb dX2_lesson_11 (by decide) ?_
    refine lv_icmp_lt (tgt := 26) hx hb dX2_lesson_13 (by decide) (fun h1 => ?_) (fun h1 => ?_)
    · obtain ⟨j, hj, rfl⟩ := hk_lt_of (j := 0) (by decide) hc h1
      have hjc : (nI j).toNatClampNeg = j := nI_clamp (by omega)
      refine lv_aload_n hx hb dX2_lesson_26 rfl (lv_at hl 0 rfl) ?_
      refine lv_iload_n hx hb dX2_lesson_27 rfl (lv_at hl 3 rfl) ?_
      refine lv_iconst (v := nI 3) hx hb dX2_lesson_28 (by decide) ?_
      refine hk_remN hx hb (by omega) (by omega) (by omega) dX2_lesson_29 ?_
      refine hk_R (rest := []) (va_Run.run (va_runVN (host := RX2) (As := [.int (nI (j % 3))]) (rest := []) ⟨hx, hb, hml, hown, hts⟩ (c_X1_slippingLetter l D ct sa (d.1 i 0) (d.1 i 1) (d.1 i 2) (d.1 i 3) (d.1 i 4) (d.1 i 5) (sq (gS g i)) (sK (gS g i)) (sL (gS g i)) (sT (gS g i)) (sS (gS g i)) (sP (gS g i)) (sY (gS g i)) (sC (gS g i)) (j % 3) (by omega) hKu) ⟨va_cnB 1 hts gX2_lesson_X1_slippingLetter_n122 rfl rfl rfl (hE.nw hkN_X2_122) (hts (.initialized RX1) (by decide +kernel)) (by decide +kernel) ⟨Nat.le_of_ble_eq_true rfl, Nat.le_of_ble_eq_true rfl⟩, hts (.instanceMethod yX1_slippingLetter) (by decide +kernel), hts (.selects RX1 yX1_slippingLetter yX1_slippingLetter) (by decide +kernel)⟩ (hk_preV hE (va_recv hE.1 hP (ci := 1) (q0 := 5) rfl rfl) (hP.sub (ws' := [((d.1 i 0), .inr (1, [.ref (d.1 i 1), .ref (d.1 i 2), .int (sY (gS g i)), .ref (d.1 i 3), .ref (d.1 i 4), .ref (d.1 i 5), .int (nI (sq (gS g i))), .int (sC (gS g i))])), ((d.1 i 1), .inl (ct 0, 12, .inl (fun j => nI (sK (gS g i) j)))), ((d.1 i 2), .inl (ct 0, 12, .inl (fun j => nI (sL (gS g i) j)))), ((d.1 i 3), .inl (ct 0, 12, .inl (sS (gS g i)))), ((d.1 i 4), .inl (ct 0, 144, .inl (sP (gS g i)))), ((d.1 i 5), .inl (ct 0, 30, .inl (fun j => nI (sT (gS g i) j))))]) [5, 6, 7, 8, 9, 10] rfl)) rfl rfl hl.1 rfl (lv_room (Nat.le_of_ble_eq_true rfl)) dX2_lesson_30 ⟨Nat.le_of_ble_eq_true rfl, Nat.le_of_ble_eq_true rfl⟩)) ?_
      have hz : opLesson g (nI i) (nI j) = (0, lf (lsn (gS g i) (j % 3)) 0 12, g) := by rw [opLesson, if_neg (fun z => z.elim (bd_nI hi (by omega)) (bd_nI hj (by decide))), ix, ix, hic, hjc]
      rw [hz]
      refine W.widen (k := 2) (n := 12) (Nat.le_of_ble_eq_true rfl) (Nat.le_of_ble_eq_true rfl) ?_
      exact vx_ret (W.iret (v := lf (lsn (gS g i) (j % 3)) 0 12) hx hb hr (fun t ht hW => ⟨rfl, rfl, ⟨d, by rw [ht]; exact hPW, hDW⟩, hS.F ht⟩) hS.2.2 dX2_lesson_33)
    · exact hk_throw (G0 := G0) hx hb hfl (cls := "java/lang/IndexOutOfBoundsException") (text := "no such place") (ik := 102) (is := 120) (ic := 106) (k := 16) hown (by decide +kernel) (hts (.classLink RX2 102 "java/lang/IndexOutOfBoundsException") (by decide +kernel)) (hts (.initialized "java/lang/IndexOutOfBoundsException") (by decide +kernel)) (fun w hw => hts w (List.mem_cons_of_mem _ (List.mem_append_right _ hw))) hk_ng1 hk_ot1 hE hH (List.mem_of_getElem? (i := 16) rfl) (hl.1.trans hml.symm) dX2_lesson_16 dX2_lesson_19 dX2_lesson_20 dX2_lesson_22 dX2_lesson_25 hout (Nat.le_of_ble_eq_true rfl) (Nat.le_of_ble_eq_true rfl) (Nat.le_of_ble_eq_true rfl) (Nat.le_of_ble_eq_true rfl) hlocks (by skip; exact ⟨0, rfl, by rw [opLesson, if_pos (Or.inr (bd_nlt (by decide) h1))]; rfl⟩) (Nat.le_of_ble_eq_true rfl) (Nat.le_of_ble_eq_true rfl)

set_option maxHeartbeats 4000000 in
set_option maxRecDepth 100000 in
theorem c_X2_slips (l : Launch) (hfl : l.flags = flags0) (D : va_G) (ct : Nat → ClassId) (sa : Nat → Nat) (G0 : Nat) (sz : Nat) (b : Nat → Nat) (d : Ad) (g : Sg) (x : Int32) (y : Int32) (z : Int32) (hI : Inv g) : vx_Met l yX2_slips wsX2_slips ({ frames := 7, cells := 2, slots := 12, locals := 104 }) (hkPx D ct sa G0 [.ref (b 0), .int x, .int y, .int z] (hkFP D ct b d g G0 sz)) (hkFQ D ct b (va_A (hkW ct b d g) sz) (opSlips g x y z)) (hkXC (hkOk ["java/lang/IndexOutOfBoundsException", "java/lang/IllegalArgumentException"] (opSlips g x y z).1)) 2 12 (va_A (hkW ct b d g) sz) := by
  refine vx_ofW (cc := cX2_slips) (maxL := 5) (ret := (some .int)) (by decide) rfl ?_
  intro p e s m args below meth c s₁ B hml hout hv
  obtain ⟨rfl, hE, hH, hp⟩ := hv
  have hx := B.exec
  have hb := B.bytes
  have hr := B.returns
  have hts := atoms_spec (ws := wsX2_slips) B.pre
  have hown : s.vm.findClass RX2 = some m.cls := findClass_of_methodNamed B.named
  have hlocks := B.notSynchronized
  obtain ⟨hsz, hPW, hD0⟩ := hp
  subst hsz
  have hDW := hD0.self (sz := s.heap.size)
  generalize hAe : va_A (hkW ct b d g) s.heap.size = A at hDW ⊢
  have hA : ∀ q : Nat, s.heap.size ≤ q → A q := fun q h => by rw [← hAe]; exact Or.inr h
  have hS : va_S A s.heap s.heap [] := va_S.rf
  obtain ⟨hN5, hd24, hc6, hSt, hDr, hNs, hCs, hCo⟩ := id hI
  have hl := lv_entry ([.ref (b 0), .int x, .int y, .int z]) (n := 5) (Nat.le_of_ble_eq_true rfl)
  rw [lg_entry_eq]
  generalize (lg_sl ([.ref (b 0), .int x, .int y, .int z]) ++ List.replicate (5 - (lg_sl ([.ref (b 0), .int x, .int y, .int z])).length) Slot.unset).toArray = ls at hl ⊢
  have hl : lv_has ls 5 [(0, .ref (b 0)), (1, .int x), (2, .int y), (3, .int z)] := hl
  have hP : va_P D vwCl (((b 0), .inr (2, [.ref (b 1), .ref (b 2), .ref (b 3), .int (nI (gd g)), .ref (b 4)])) :: ((b 1), .inl (ct 1, 5, .inr (.inr (.inr (.inr (rfs (gN g) d.1)))))) :: ((b 2), .inl (ct 2, 6, .inr (.inr (.inr (.inr (rfs (gc g) d.2.1)))))) :: ((b 3), .inl (ct 0, 24, .inl (fun j => nI (gD g j)))) :: ((b 4), .inl (ct 0, 144, .inl d.2.2)) :: (ssW ct d g (List.range (gN g)) ++ ccW ct d g (List.range (gc g)))) s.heap := hPW
  have hD : va_D A (((b 0), .inr (2, [.ref (b 1), .ref (b 2), .ref (b 3), .int (nI (gd g)), .ref (b 4)])) :: ((b 1), .inl (ct 1, 5, .inr (.inr (.inr (.inr (rfs (gN g) d.1)))))) :: ((b 2), .inl (ct 2, 6, .inr (.inr (.inr (.inr (rfs (gc g) d.2.1)))))) :: ((b 3), .inl (ct 0, 24, .inl (fun j => nI (gD g j)))) :: ((b 4), .inl (ct 0, 144, .inl d.2.2)) :: (ssW ct d g (List.range (gN g)) ++ ccW ct d g (List.range (gc g)))) := hDW
  refine lv_aload_n hx hb dX2_slips_0 rfl (lv_at hl 0 rfl) ?_
  refine lv_iload_n hx hb dX2_slips_1 rfl (lv_at hl 1 rfl) ?_
  refine hk_XR (rest := []) (vx_runV (As := [.int x]) (rest := []) ⟨hx, hb, hml, hown, hts⟩ (c_X2_studentAt l hfl D ct sa G0 (b 0) (b 1) (b 2) (b 3) (b 4) (gN g) (nI (gd g)) d.1 x hN5) (cwV 1 hts gX2_slips_X2_studentAt rfl rfl rfl (by decide +kernel) ⟨Nat.le_of_ble_eq_true rfl, Nat.le_of_ble_eq_true rfl⟩) (hk_prxV hE hH (va_recv hE.1 hP (ci := 2) (q0 := 0) rfl rfl) (hP.sub (ws' := [((b 0), .inr (2, [.ref (b 1), .ref (b 2), .ref (b 3), .int (nI (gd g)), .ref (b 4)])), ((b 1), .inl (ct 1, 5, .inr (.inr (.inr (.inr (rfs (gN g) d.1))))))]) [0, 1] rfl)) rfl rfl hl.1 rfl (lv_room (Nat.le_of_ble_eq_true rfl)) dX2_slips_2 ⟨Nat.le_of_ble_eq_true rfl, Nat.le_of_ble_eq_true rfl⟩) (fun E ce q9 H1 ho hF9 hce hcv hcl => ?_) (fun hq => ?_)
  · exact hk_out hout hlocks hF9 (by obtain ⟨rfl, hb9⟩ := ho; exact ⟨0, rfl, by rw [opSlips, if_pos (hb9)]; rfl⟩) hce hcv hcl (Nat.le_of_ble_eq_true rfl) (Nat.le_of_ble_eq_true rfl)
  obtain ⟨i, hi, rfl⟩ := bd_of (by omega) hq
  have hic : (nI i).toNatClampNeg = i := nI_clamp (by omega)
  rw [hic]
  have hP : va_P D vwCl (((b 0), .inr (2, [.ref (b 1), .ref (b 2), .ref (b 3), .int (nI (gd g)), .ref (b 4)])) :: ((b 1), .inl (ct 1, 5, .inr (.inr (.inr (.inr (rfs (gN g) d.1)))))) :: ((b 2), .inl (ct 2, 6, .inr (.inr (.inr (.inr (rfs (gc g) d.2.1)))))) :: ((b 3), .inl (ct 0, 24, .inl (fun j => nI (gD g j)))) :: ((b 4), .inl (ct 0, 144, .inl d.2.2)) :: ((d.1 i 0), .inr (1, [.ref (d.1 i 1), .ref (d.1 i 2), .int (sY (gS g i)), .ref (d.1 i 3), .ref (d.1 i 4), .ref (d.1 i 5), .int (nI (sq (gS g i))), .int (sC (gS g i))])) :: ((d.1 i 1), .inl (ct 0, 12, .inl (fun j => nI (sK (gS g i) j)))) :: ((d.1 i 2), .inl (ct 0, 12, .inl (fun j => nI (sL (gS g i) j)))) :: ((d.1 i 3), .inl (ct 0, 12, .inl (sS (gS g i)))) :: ((d.1 i 4), .inl (ct 0, 144, .inl (sP (gS g i)))) :: ((d.1 i 5), .inl (ct 0, 30, .inl (fun j => nI (sT (gS g i) j)))) :: rsS ct d g i) s.heap := hPW.perm (hkW_S hi)
  have hD : va_D A (((b 0), .inr (2, [.ref (b 1), .ref (b 2), .ref (b 3), .int (nI (gd g)), .ref (b 4)])) :: ((b 1), .inl (ct 1, 5, .inr (.inr (.inr (.inr (rfs (gN g) d.1)))))) :: ((b 2), .inl (ct 2, 6, .inr (.inr (.inr (.inr (rfs (gc g) d.2.1)))))) :: ((b 3), .inl (ct 0, 24, .inl (fun j => nI (gD g j)))) :: ((b 4), .inl (ct 0, 144, .inl d.2.2)) :: ((d.1 i 0), .inr (1, [.ref (d.1 i 1), .ref (d.1 i 2), .int (sY (gS g i)), .ref (d.1 i 3), .ref (d.1 i 4), .ref (d.1 i 5), .int (nI (sq (gS g i))), .int (sC (gS g i))])) :: ((d.1 i 1), .inl (ct 0, 12, .inl (fun j => nI (sK (gS g i) j)))) :: ((d.1 i 2), .inl (ct 0, 12, .inl (fun j => nI (sL (gS g i) j)))) :: ((d.1 i 3), .inl (ct 0, 12, .inl (sS (gS g i)))) :: ((d.1 i 4), .inl (ct 0, 144, .inl (sP (gS g i)))) :: ((d.1 i 5), .inl (ct 0, 30, .inl (fun j => nI (sT (gS g i) j)))) :: rsS ct d g i) := hDW.perm (hkW_S hi)
  obtain ⟨hKu, hLu, hKL, hqu, hTu, hYu⟩ := hSt i
  refine lv_astore (lv' := [(4, .ref (d.1 i 0)), (0, .ref (b 0)), (1, .int (nI i)), (2, .int y), (3, .int z)]) hx hb dX2_slips_5 hl (by decide) rfl (fun ls hl => ?_)
  refine lv_iload_n hx hb dX2_slips_7 rfl (lv_at hl 4 rfl) ?_
  refine lv_if_lt (tgt := 19) hx hb dX2_slips_8 (by decide) (fun hc => ?_) (fun hc => ?_)
  · exact hk_throw (G0 := G0) hx hb hfl (cls := "java/lang/IllegalArgumentException") (text := "what or which is out of range") (ik := 44) (is := 88) (ic := 48) (k := 6) hown (by decide +kernel) (hts (.classLink RX2 44 "java/lang/IllegalArgumentException") (by decide +kernel)) (hts (.initialized "java/lang/IllegalArgumentException") (by decide +kernel)) (fun w hw => hts w (List.mem_cons_of_mem _ (List.mem_append_left _ (List.mem_append_right _ hw)))) hk_ng2 hk_ot2 hE hH (List.mem_of_getElem? (i := 6) rfl) (hl.1.trans hml.symm) dX2_slips_19 dX2_slips_22 dX2_slips_23 dX2_slips_25 dX2_slips_28 hout (Nat.le_of_ble_eq_true rfl) (Nat.le_of_ble_eq_true rfl) (Nat.le_of_ble_eq_true rfl) (Nat.le_of_ble_eq_true rfl) hlocks ⟨1, rfl, by rw [opSlips, if_neg (bd_nI hi (by omega)), if_pos (Or.inl hc)]; rfl⟩ (Nat.le_of_ble_eq_true rfl) (Nat.le_of_ble_eq_true rfl)
  · refine lv_iload_n hx hb dX2_slips_11 rfl (lv_at hl 4 rfl) ?_
    refine lv_iload_n hx hb dX2_slips_12 rfl (lv_at hl 3 rfl) ?_
    refine hk_R (rest := [.int z]) (va_Run.run (va_runS (As := [.int y]) (rest := [.int z]) ⟨hx, hb, hml, hown, hts⟩ (c_X2_groups l D ct sa y) (va_cwS 1 hts gX2_slips_X2_groups rfl rfl rfl (by decide +kernel) ⟨Nat.le_of_ble_eq_true rfl, Nat.le_of_ble_eq_true rfl⟩) (hk_preS hE trivial) rfl rfl hl.1 rfl (lv_room (Nat.le_of_ble_eq_true rfl)) dX2_slips_13 ⟨Nat.le_of_ble_eq_true rfl, Nat.le_of_ble_eq_true rfl⟩)) ?_
    refine lv_icmp_lt (tgt := 29) hx hb dX2_slips_16 (by decide) (fun h1 => ?_) (fun h1 => ?_)
    · refine lv_aload hx hb dX2_slips_29 (lv_at hl 0 rfl) ?_
      refine lv_iload_n hx hb dX2_slips_31 rfl (lv_at hl 3 rfl) ?_
      refine lv_iload_n hx hb dX2_slips_32 rfl (lv_at hl 4 rfl) ?_
      refine hk_R (rest := []) (va_Run.run (va_runVN (host := RX2) (As := [.int y, .int z]) (rest := []) ⟨hx, hb, hml, hown, hts⟩ (c_X1_slipsOf l D ct sa (d.1 i 0) (d.1 i 1) (d.1 i 2) (d.1 i 3) (d.1 i 4) (d.1 i 5) (sq (gS g i)) (sK (gS g i)) (sL (gS g i)) (sT (gS g i)) (sS (gS g i)) (sP (gS g i)) (sY (gS g i)) (sC (gS g i)) y z) ⟨va_cnB 2 hts gX2_slips_X1_slipsOf_n90 rfl rfl rfl (hE.nw hkN_X2_90) (hts (.initialized RX1) (by decide +kernel)) (by decide +kernel) ⟨Nat.le_of_ble_eq_true rfl, Nat.le_of_ble_eq_true rfl⟩, hts (.instanceMethod yX1_slipsOf) (by decide +kernel), hts (.selects RX1 yX1_slipsOf yX1_slipsOf) (by decide +kernel)⟩ (hk_preV hE (va_recv hE.1 hP (ci := 1) (q0 := 5) rfl rfl) (hP.sub (ws' := [((d.1 i 0), .inr (1, [.ref (d.1 i 1), .ref (d.1 i 2), .int (sY (gS g i)), .ref (d.1 i 3), .ref (d.1 i 4), .ref (d.1 i 5), .int (nI (sq (gS g i))), .int (sC (gS g i))])), ((d.1 i 1), .inl (ct 0, 12, .inl (fun j => nI (sK (gS g i) j)))), ((d.1 i 2), .inl (ct 0, 12, .inl (fun j => nI (sL (gS g i) j)))), ((d.1 i 3), .inl (ct 0, 12, .inl (sS (gS g i)))), ((d.1 i 4), .inl (ct 0, 144, .inl (sP (gS g i)))), ((d.1 i 5), .inl (ct 0, 30, .inl (fun j => nI (sT (gS g i) j))))]) [5, 6, 7, 8, 9, 10] rfl)) rfl rfl hl.1 rfl (lv_room (Nat.le_of_ble_eq_true rfl)) dX2_slips_33 ⟨Nat.le_of_ble_eq_true rfl, Nat.le_of_ble_eq_true rfl⟩)) ?_
      have hz : opSlips g (nI i) y z = (0, sl (sS (gS g i)) y z 12, g) := by rw [opSlips, if_neg (bd_nI hi (by omega)), if_neg (fun q => q.elim hc (fun q => q h1)), ix, hic]
      rw [hz]
      refine W.widen (k := 2) (n := 12) (Nat.le_of_ble_eq_true rfl) (Nat.le_of_ble_eq_true rfl) ?_
      exact vx_ret (W.iret (v := sl (sS (gS g i)) y z 12) hx hb hr (fun t ht hW => ⟨rfl, rfl, ⟨d, by rw [ht]; exact hPW, hDW⟩, hS.F ht⟩) hS.2.2 dX2_slips_36)
    · exact hk_throw (G0 := G0) hx hb hfl (cls := "java/lang/IllegalArgumentException") (text := "what or which is out of range") (ik := 44) (is := 88) (ic := 48) (k := 6) hown (by decide +kernel) (hts (.classLink RX2 44 "java/lang/IllegalArgumentException") (by decide +kernel)) (hts (.initialized "java/lang/IllegalArgumentException") (by decide +kernel)) (fun w hw => hts w (List.mem_cons_of_mem _ (List.mem_append_left _ (List.mem_append_right _ hw)))) hk_ng2 hk_ot2 hE hH (List.mem_of_getElem? (i := 6) rfl) (hl.1.trans hml.symm) dX2_slips_19 dX2_slips_22 dX2_slips_23 dX2_slips_25 dX2_slips_28 hout (Nat.le_of_ble_eq_true rfl) (Nat.le_of_ble_eq_true rfl) (Nat.le_of_ble_eq_true rfl) (Nat.le_of_ble_eq_true rfl) hlocks ⟨1, rfl, by rw [opSlips, if_neg (bd_nI hi (by omega)), if_pos (Or.inr h1)]; rfl⟩ (Nat.le_of_ble_eq_true rfl) (Nat.le_of_ble_eq_true rfl)

set_option maxHeartbeats 4000000 in
set_option maxRecDepth 100000 in
theorem c_X2_saves (l : Launch) (hfl : l.flags = flags0) (D : va_G) (ct : Nat → ClassId) (sa : Nat → Nat) (G0 : Nat) (sz : Nat) (b : Nat → Nat) (d : Ad) (g : Sg) (x : Int32) (y : Int32) (z : Int32) (hI : Inv g) : vx_Met l yX2_saves wsX2_saves ({ frames := 8, cells := 4, slots := 24, locals := 123 }) (hkPx D ct sa G0 [.ref (b 0), .int x, .int y, .int z] (hkFP D ct b d g G0 sz)) (hkFQ D ct b (va_A (hkW ct b d g) sz) (opSaves g x y z)) (hkXC (hkOk ["java/lang/IndexOutOfBoundsException", "java/lang/IllegalArgumentException"] (opSaves g x y z).1)) 4 24 (va_A (hkW ct b d g) sz) := by
  refine vx_ofW (cc := cX2_saves) (maxL := 5) (ret := (some .int)) (by decide) rfl ?_
  intro p e s m args below meth c s₁ B hml hout hv
  obtain ⟨rfl, hE, hH, hp⟩ := hv
  have hx := B.exec
  have hb := B.bytes
  have hr := B.returns
  have hts := atoms_spec (ws := wsX2_saves) B.pre
  have hown : s.vm.findClass RX2 = some m.cls := findClass_of_methodNamed B.named
  have hlocks := B.notSynchronized
  obtain ⟨hsz, hPW, hD0⟩ := hp
  subst hsz
  have hDW := hD0.self (sz := s.heap.size)
  generalize hAe : va_A (hkW ct b d g) s.heap.size = A at hDW ⊢
  have hA : ∀ q : Nat, s.heap.size ≤ q → A q := fun q h => by rw [← hAe]; exact Or.inr h
  have hS : va_S A s.heap s.heap [] := va_S.rf
  obtain ⟨hN5, hd24, hc6, hSt, hDr, hNs, hCs, hCo⟩ := id hI
  have hl := lv_entry ([.ref (b 0), .int x, .int y, .int z]) (n := 5) (Nat.le_of_ble_eq_true rfl)
  rw [lg_entry_eq]
  generalize (lg_sl ([.ref (b 0), .int x, .int y, .int z]) ++ List.replicate (5 - (lg_sl ([.ref (b 0), .int x, .int y, .int z])).length) Slot.unset).toArray = ls at hl ⊢
  have hl : lv_has ls 5 [(0, .ref (b 0)), (1, .int x), (2, .int y), (3, .int z)] := hl
  have hP : va_P D vwCl (((b 0), .inr (2, [.ref (b 1), .ref (b 2), .ref (b 3), .int (nI (gd g)), .ref (b 4)])) :: ((b 1), .inl (ct 1, 5, .inr (.inr (.inr (.inr (rfs (gN g) d.1)))))) :: ((b 2), .inl (ct 2, 6, .inr (.inr (.inr (.inr (rfs (gc g) d.2.1)))))) :: ((b 3), .inl (ct 0, 24, .inl (fun j => nI (gD g j)))) :: ((b 4), .inl (ct 0, 144, .inl d.2.2)) :: (ssW ct d g (List.range (gN g)) ++ ccW ct d g (List.range (gc g)))) s.heap := hPW
  have hD : va_D A (((b 0), .inr (2, [.ref (b 1), .ref (b 2), .ref (b 3), .int (nI (gd g)), .ref (b 4)])) :: ((b 1), .inl (ct 1, 5, .inr (.inr (.inr (.inr (rfs (gN g) d.1)))))) :: ((b 2), .inl (ct 2, 6, .inr (.inr (.inr (.inr (rfs (gc g) d.2.1)))))) :: ((b 3), .inl (ct 0, 24, .inl (fun j => nI (gD g j)))) :: ((b 4), .inl (ct 0, 144, .inl d.2.2)) :: (ssW ct d g (List.range (gN g)) ++ ccW ct d g (List.range (gc g)))) := hDW
  refine lv_aload_n hx hb dX2_saves_0 rfl (lv_at hl 0 rfl) ?_
  refine lv_iload_n hx hb dX2_saves_1 rfl (lv_at hl 1 rfl) ?_
  refine hk_XR (rest := []) (vx_runV (As := [.int x]) (rest := []) ⟨hx, hb, hml, hown, hts⟩ (c_X2_studentAt l hfl D ct sa G0 (b 0) (b 1) (b 2) (b 3) (b 4) (gN g) (nI (gd g)) d.1 x hN5) (cwV 1 hts gX2_saves_X2_studentAt rfl rfl rfl (by decide +kernel) ⟨Nat.le_of_ble_eq_true rfl, Nat.le_of_ble_eq_true rfl⟩) (hk_prxV hE hH (va_recv hE.1 hP (ci := 2) (q0 := 0) rfl rfl) (hP.sub (ws' := [((b 0), .inr (2, [.ref (b 1), .ref (b 2), .ref (b 3), .int (nI (gd g)), .ref (b 4)])), ((b 1), .inl (ct 1, 5, .inr (.inr (.inr (.inr (rfs (gN g) d.1))))))]) [0, 1] rfl)) rfl rfl hl.1 rfl (lv_room (Nat.le_of_ble_eq_true rfl)) dX2_saves_2 ⟨Nat.le_of_ble_eq_true rfl, Nat.le_of_ble_eq_true rfl⟩) (fun E ce q9 H1 ho hF9 hce hcv hcl => ?_) (fun hq => ?_)
  · exact hk_out hout hlocks hF9 (by obtain ⟨rfl, hb9⟩ := ho; exact ⟨0, rfl, by rw [opSaves, if_pos (Or.inl hb9)]; rfl⟩) hce hcv hcl (Nat.le_of_ble_eq_true rfl) (Nat.le_of_ble_eq_true rfl)
  obtain ⟨i, hi, rfl⟩ := bd_of (by omega) hq
  have hic : (nI i).toNatClampNeg = i := nI_clamp (by omega)
  rw [hic]
  have hP : va_P D vwCl (((b 0), .inr (2, [.ref (b 1), .ref (b 2), .ref (b 3), .int (nI (gd g)), .ref (b 4)])) :: ((b 1), .inl (ct 1, 5, .inr (.inr (.inr (.inr (rfs (gN g) d.1)))))) :: ((b 2), .inl (ct 2, 6, .inr (.inr (.inr (.inr (rfs (gc g) d.2.1)))))) :: ((b 3), .inl (ct 0, 24, .inl (fun j => nI (gD g j)))) :: ((b 4), .inl (ct 0, 144, .inl d.2.2)) :: ((d.1 i 0), .inr (1, [.ref (d.1 i 1), .ref (d.1 i 2), .int (sY (gS g i)), .ref (d.1 i 3), .ref (d.1 i 4), .ref (d.1 i 5), .int (nI (sq (gS g i))), .int (sC (gS g i))])) :: ((d.1 i 1), .inl (ct 0, 12, .inl (fun j => nI (sK (gS g i) j)))) :: ((d.1 i 2), .inl (ct 0, 12, .inl (fun j => nI (sL (gS g i) j)))) :: ((d.1 i 3), .inl (ct 0, 12, .inl (sS (gS g i)))) :: ((d.1 i 4), .inl (ct 0, 144, .inl (sP (gS g i)))) :: ((d.1 i 5), .inl (ct 0, 30, .inl (fun j => nI (sT (gS g i) j)))) :: rsS ct d g i) s.heap := hPW.perm (hkW_S hi)
  have hD : va_D A (((b 0), .inr (2, [.ref (b 1), .ref (b 2), .ref (b 3), .int (nI (gd g)), .ref (b 4)])) :: ((b 1), .inl (ct 1, 5, .inr (.inr (.inr (.inr (rfs (gN g) d.1)))))) :: ((b 2), .inl (ct 2, 6, .inr (.inr (.inr (.inr (rfs (gc g) d.2.1)))))) :: ((b 3), .inl (ct 0, 24, .inl (fun j => nI (gD g j)))) :: ((b 4), .inl (ct 0, 144, .inl d.2.2)) :: ((d.1 i 0), .inr (1, [.ref (d.1 i 1), .ref (d.1 i 2), .int (sY (gS g i)), .ref (d.1 i 3), .ref (d.1 i 4), .ref (d.1 i 5), .int (nI (sq (gS g i))), .int (sC (gS g i))])) :: ((d.1 i 1), .inl (ct 0, 12, .inl (fun j => nI (sK (gS g i) j)))) :: ((d.1 i 2), .inl (ct 0, 12, .inl (fun j => nI (sL (gS g i) j)))) :: ((d.1 i 3), .inl (ct 0, 12, .inl (sS (gS g i)))) :: ((d.1 i 4), .inl (ct 0, 144, .inl (sP (gS g i)))) :: ((d.1 i 5), .inl (ct 0, 30, .inl (fun j => nI (sT (gS g i) j)))) :: rsS ct d g i) := hDW.perm (hkW_S hi)
  obtain ⟨hKu, hLu, hKL, hqu, hTu, hYu⟩ := hSt i
  refine lv_astore (lv' := [(4, .ref (d.1 i 0)), (0, .ref (b 0)), (1, .int (nI i)), (2, .int y), (3, .int z)]) hx hb dX2_saves_5 hl (by decide) rfl (fun ls hl => ?_)
  refine lv_iload_n hx hb dX2_saves_7 rfl (lv_at hl 3 rfl) ?_
  refine lv_iload_n hx hb dX2_saves_8 rfl (lv_at hl 4 rfl) ?_
  refine hk_XR (rest := []) (vx_runS (As := [.int y, .int z]) (rest := []) ⟨hx, hb, hml, hown, hts⟩ (c_X2_needTwoKeys l hfl D ct sa G0 y z) (va_cwS 2 hts gX2_saves_X2_needTwoKeys rfl rfl rfl (by decide +kernel) ⟨Nat.le_of_ble_eq_true rfl, Nat.le_of_ble_eq_true rfl⟩) (hk_prxS hE hH trivial) rfl rfl hl.1 rfl (lv_room (Nat.le_of_ble_eq_true rfl)) dX2_saves_9 ⟨Nat.le_of_ble_eq_true rfl, Nat.le_of_ble_eq_true rfl⟩) (fun E ce q9 H1 ho hF9 hce hcv hcl => ?_) (fun hq => ?_)
  · exact hk_out hout hlocks hF9 (by rcases ho with ⟨rfl, hb9⟩ | ⟨rfl, h7, h8, h9⟩ <;> first | exact ⟨0, rfl, by rw [opSaves, if_pos (Or.inr hb9)]; rfl⟩ | exact ⟨1, rfl, by rw [opSaves, if_neg (fun q => q.elim (bd_nI hi (by omega)) (fun q => q.elim h7 h8)), if_pos h9]; rfl⟩) hce hcv hcl (Nat.le_of_ble_eq_true rfl) (Nat.le_of_ble_eq_true rfl)
  obtain ⟨hy9, hz9, hyz⟩ := hq
  obtain ⟨j, hj, rfl⟩ := bd_of (by decide) hy9
  have hjc : (nI j).toNatClampNeg = j := nI_clamp (by omega)
  obtain ⟨k, hk, rfl⟩ := bd_of (by decide) hz9
  have hkc : (nI k).toNatClampNeg = k := nI_clamp (by omega)
  refine lv_aload hx hb dX2_saves_12 (lv_at hl 0 rfl) ?_
  refine lv_iload_n hx hb dX2_saves_14 rfl (lv_at hl 3 rfl) ?_
  refine lv_iload_n hx hb dX2_saves_15 rfl (lv_at hl 4 rfl) ?_
  refine hk_R (rest := []) (va_Run.run (va_runVN (host := RX2) (As := [.int (nI j), .int (nI k)]) (rest := []) ⟨hx, hb, hml, hown, hts⟩ (c_X1_savedBy l D ct sa (d.1 i 0) (d.1 i 1) (d.1 i 2) (d.1 i 3) (d.1 i 4) (d.1 i 5) (sq (gS g i)) (sK (gS g i)) (sL (gS g i)) (sT (gS g i)) (sS (gS g i)) (sP (gS g i)) (sY (gS g i)) (sC (gS g i)) j k hqu hTu hKu hj hk) ⟨va_cnB 2 hts gX2_saves_X1_savedBy_n56 rfl rfl rfl (hE.nw hkN_X2_56) (hts (.initialized RX1) (by decide +kernel)) (by decide +kernel) ⟨Nat.le_of_ble_eq_true rfl, Nat.le_of_ble_eq_true rfl⟩, hts (.instanceMethod yX1_savedBy) (by decide +kernel), hts (.selects RX1 yX1_savedBy yX1_savedBy) (by decide +kernel)⟩ (hk_preV hE (va_recv hE.1 hP (ci := 1) (q0 := 5) rfl rfl) (hP.sub (ws' := [((d.1 i 0), .inr (1, [.ref (d.1 i 1), .ref (d.1 i 2), .int (sY (gS g i)), .ref (d.1 i 3), .ref (d.1 i 4), .ref (d.1 i 5), .int (nI (sq (gS g i))), .int (sC (gS g i))])), ((d.1 i 1), .inl (ct 0, 12, .inl (fun j => nI (sK (gS g i) j)))), ((d.1 i 2), .inl (ct 0, 12, .inl (fun j => nI (sL (gS g i) j)))), ((d.1 i 3), .inl (ct 0, 12, .inl (sS (gS g i)))), ((d.1 i 4), .inl (ct 0, 144, .inl (sP (gS g i)))), ((d.1 i 5), .inl (ct 0, 30, .inl (fun j => nI (sT (gS g i) j))))]) [5, 6, 7, 8, 9, 10] rfl)) rfl rfl hl.1 rfl (lv_room (Nat.le_of_ble_eq_true rfl)) dX2_saves_16 ⟨Nat.le_of_ble_eq_true rfl, Nat.le_of_ble_eq_true rfl⟩)) ?_
  have hz : opSaves g (nI i) (nI j) (nI k) = (0, sv (sK (gS g i)) (sT (gS g i)) (sq (gS g i)) j k, g) := by rw [opSaves, if_neg (fun z => z.elim (bd_nI hi (by omega)) (fun z => z.elim (bd_nI hj (by decide)) (bd_nI hk (by decide)))), if_neg hyz, ix, ix, ix, hic, hjc, hkc]
  rw [hz]
  refine W.widen (k := 4) (n := 24) (Nat.le_of_ble_eq_true rfl) (Nat.le_of_ble_eq_true rfl) ?_
  exact vx_ret (W.iret (v := sv (sK (gS g i)) (sT (gS g i)) (sq (gS g i)) j k) hx hb hr (fun t ht hW => ⟨rfl, rfl, ⟨d, by rw [ht]; exact hPW, hDW⟩, hS.F ht⟩) hS.2.2 dX2_saves_19)

set_option maxHeartbeats 4000000 in
set_option maxRecDepth 100000 in
theorem c_X2_carry (l : Launch) (hfl : l.flags = flags0) (D : va_G) (ct : Nat → ClassId) (sa : Nat → Nat) (G0 : Nat) (sz : Nat) (b : Nat → Nat) (d : Ad) (g : Sg) (x : Int32) (y : Int32) (hI : Inv g) : vx_Met l yX2_carry wsX2_carry ({ frames := 7, cells := 2, slots := 12, locals := 104 }) (hkPx D ct sa G0 [.ref (b 0), .int x, .int y] (hkFP D ct b d g G0 sz)) (hkFQ D ct b (va_A (hkW ct b d g) sz) (opCarry g x y)) (hkXC (hkOk ["java/lang/IndexOutOfBoundsException", "java/lang/IllegalArgumentException"] (opCarry g x y).1)) 2 12 (va_A (hkW ct b d g) sz) := by
  refine vx_ofW (cc := cX2_carry) (maxL := 5) (ret := (some .int)) (by decide) rfl ?_
  intro p e s m args below meth c s₁ B hml hout hv
  obtain ⟨rfl, hE, hH, hp⟩ := hv
  have hx := B.exec
  have hb := B.bytes
  have hr := B.returns
  have hts := atoms_spec (ws := wsX2_carry) B.pre
  have hown : s.vm.findClass RX2 = some m.cls := findClass_of_methodNamed B.named
  have hlocks := B.notSynchronized
  have hin1 : ∀ w ∈ wsX10, w ∈ wsX2_carry := by decide +kernel
  obtain ⟨hsz, hPW, hD0⟩ := hp
  subst hsz
  have hDW := hD0.self (sz := s.heap.size)
  generalize hAe : va_A (hkW ct b d g) s.heap.size = A at hDW ⊢
  have hA : ∀ q : Nat, s.heap.size ≤ q → A q := fun q h => by rw [← hAe]; exact Or.inr h
  have hS : va_S A s.heap s.heap [] := va_S.rf
  obtain ⟨hN5, hd24, hc6, hSt, hDr, hNs, hCs, hCo⟩ := id hI
  have hl := lv_entry ([.ref (b 0), .int x, .int y]) (n := 5) (Nat.le_of_ble_eq_true rfl)
  rw [lg_entry_eq]
  generalize (lg_sl ([.ref (b 0), .int x, .int y]) ++ List.replicate (5 - (lg_sl ([.ref (b 0), .int x, .int y])).length) Slot.unset).toArray = ls at hl ⊢
  have hl : lv_has ls 5 [(0, .ref (b 0)), (1, .int x), (2, .int y)] := hl
  have hP : va_P D vwCl (((b 0), .inr (2, [.ref (b 1), .ref (b 2), .ref (b 3), .int (nI (gd g)), .ref (b 4)])) :: ((b 1), .inl (ct 1, 5, .inr (.inr (.inr (.inr (rfs (gN g) d.1)))))) :: ((b 2), .inl (ct 2, 6, .inr (.inr (.inr (.inr (rfs (gc g) d.2.1)))))) :: ((b 3), .inl (ct 0, 24, .inl (fun j => nI (gD g j)))) :: ((b 4), .inl (ct 0, 144, .inl d.2.2)) :: (ssW ct d g (List.range (gN g)) ++ ccW ct d g (List.range (gc g)))) s.heap := hPW
  have hD : va_D A (((b 0), .inr (2, [.ref (b 1), .ref (b 2), .ref (b 3), .int (nI (gd g)), .ref (b 4)])) :: ((b 1), .inl (ct 1, 5, .inr (.inr (.inr (.inr (rfs (gN g) d.1)))))) :: ((b 2), .inl (ct 2, 6, .inr (.inr (.inr (.inr (rfs (gc g) d.2.1)))))) :: ((b 3), .inl (ct 0, 24, .inl (fun j => nI (gD g j)))) :: ((b 4), .inl (ct 0, 144, .inl d.2.2)) :: (ssW ct d g (List.range (gN g)) ++ ccW ct d g (List.range (gc g)))) := hDW
  refine lv_aload_n hx hb dX2_carry_0 rfl (lv_at hl 0 rfl) ?_
  refine lv_iload_n hx hb dX2_carry_1 rfl (lv_at hl 1 rfl) ?_
  refine hk_XR (rest := []) (vx_runV (As := [.int x]) (rest := []) ⟨hx, hb, hml, hown, hts⟩ (c_X2_studentAt l hfl D ct sa G0 (b 0) (b 1) (b 2) (b 3) (b 4) (gN g) (nI (gd g)) d.1 x hN5) (cwV 1 hts gX2_carry_X2_studentAt rfl rfl rfl (by decide +kernel) ⟨Nat.le_of_ble_eq_true rfl, Nat.le_of_ble_eq_true rfl⟩) (hk_prxV hE hH (va_recv hE.1 hP (ci := 2) (q0 := 0) rfl rfl) (hP.sub (ws' := [((b 0), .inr (2, [.ref (b 1), .ref (b 2), .ref (b 3), .int (nI (gd g)), .ref (b 4)])), ((b 1), .inl (ct 1, 5, .inr (.inr (.inr (.inr (rfs (gN g) d.1))))))]) [0, 1] rfl)) rfl rfl hl.1 rfl (lv_room (Nat.le_of_ble_eq_true rfl)) dX2_carry_2 ⟨Nat.le_of_ble_eq_true rfl, Nat.le_of_ble_eq_true rfl⟩) (fun E ce q9 H1 ho hF9 hce hcv hcl => ?_) (fun hq => ?_)
  · exact hk_out hout hlocks hF9 (by obtain ⟨rfl, hb9⟩ := ho; exact ⟨0, rfl, by rw [opCarry, if_pos (hb9)]; rfl⟩) hce hcv hcl (Nat.le_of_ble_eq_true rfl) (Nat.le_of_ble_eq_true rfl)
  obtain ⟨i, hi, rfl⟩ := bd_of (by omega) hq
  have hic : (nI i).toNatClampNeg = i := nI_clamp (by omega)
  rw [hic]
  have hP : va_P D vwCl (((b 0), .inr (2, [.ref (b 1), .ref (b 2), .ref (b 3), .int (nI (gd g)), .ref (b 4)])) :: ((b 1), .inl (ct 1, 5, .inr (.inr (.inr (.inr (rfs (gN g) d.1)))))) :: ((b 2), .inl (ct 2, 6, .inr (.inr (.inr (.inr (rfs (gc g) d.2.1)))))) :: ((b 3), .inl (ct 0, 24, .inl (fun j => nI (gD g j)))) :: ((b 4), .inl (ct 0, 144, .inl d.2.2)) :: ((d.1 i 0), .inr (1, [.ref (d.1 i 1), .ref (d.1 i 2), .int (sY (gS g i)), .ref (d.1 i 3), .ref (d.1 i 4), .ref (d.1 i 5), .int (nI (sq (gS g i))), .int (sC (gS g i))])) :: ((d.1 i 1), .inl (ct 0, 12, .inl (fun j => nI (sK (gS g i) j)))) :: ((d.1 i 2), .inl (ct 0, 12, .inl (fun j => nI (sL (gS g i) j)))) :: ((d.1 i 3), .inl (ct 0, 12, .inl (sS (gS g i)))) :: ((d.1 i 4), .inl (ct 0, 144, .inl (sP (gS g i)))) :: ((d.1 i 5), .inl (ct 0, 30, .inl (fun j => nI (sT (gS g i) j)))) :: rsS ct d g i) s.heap := hPW.perm (hkW_S hi)
  have hD : va_D A (((b 0), .inr (2, [.ref (b 1), .ref (b 2), .ref (b 3), .int (nI (gd g)), .ref (b 4)])) :: ((b 1), .inl (ct 1, 5, .inr (.inr (.inr (.inr (rfs (gN g) d.1)))))) :: ((b 2), .inl (ct 2, 6, .inr (.inr (.inr (.inr (rfs (gc g) d.2.1)))))) :: ((b 3), .inl (ct 0, 24, .inl (fun j => nI (gD g j)))) :: ((b 4), .inl (ct 0, 144, .inl d.2.2)) :: ((d.1 i 0), .inr (1, [.ref (d.1 i 1), .ref (d.1 i 2), .int (sY (gS g i)), .ref (d.1 i 3), .ref (d.1 i 4), .ref (d.1 i 5), .int (nI (sq (gS g i))), .int (sC (gS g i))])) :: ((d.1 i 1), .inl (ct 0, 12, .inl (fun j => nI (sK (gS g i) j)))) :: ((d.1 i 2), .inl (ct 0, 12, .inl (fun j => nI (sL (gS g i) j)))) :: ((d.1 i 3), .inl (ct 0, 12, .inl (sS (gS g i)))) :: ((d.1 i 4), .inl (ct 0, 144, .inl (sP (gS g i)))) :: ((d.1 i 5), .inl (ct 0, 30, .inl (fun j => nI (sT (gS g i) j)))) :: rsS ct d g i) := hDW.perm (hkW_S hi)
  obtain ⟨hKu, hLu, hKL, hqu, hTu, hYu⟩ := hSt i
  refine lv_astore_n (lv' := [(3, .ref (d.1 i 0)), (0, .ref (b 0)), (1, .int (nI i)), (2, .int y)]) hx hb dX2_carry_5 rfl hl (by decide) rfl (fun ls hl => ?_)
  refine lv_iload_n hx hb dX2_carry_6 rfl (lv_at hl 3 rfl) ?_
  refine lv_if_eq (tgt := 25) hx hb dX2_carry_7 (by decide) (fun hc => ?_) (fun hc => ?_)
  · refine lv_aload_n hx hb dX2_carry_25 rfl (lv_at hl 0 rfl) ?_
    refine va_getN (D := D) (host := RX2) (ci := 1) (v := .int (sY (gS g i))) (C := RX1) (T := TX1) (N := 8) hx hb hts hin1 hown hE.1 hP 5 rfl rfl 2 (by decide) (hE.use hkN_X2_49) (fun _ h9 => h9) rfl dX2_carry_26 ?_
    refine lv_istore (lv' := [(4, .int (sY (gS g i))), (3, .ref (d.1 i 0)), (0, .ref (b 0)), (1, .int (nI i)), (2, .int y)]) hx hb dX2_carry_29 hl (by decide) rfl (fun ls hl => ?_)
    refine lv_aload_n hx hb dX2_carry_31 rfl (lv_at hl 1 rfl) ?_
    refine lv_iload_n hx hb dX2_carry_32 rfl (lv_at hl 4 rfl) ?_
    refine va_putN (D := D) (host := RX2) (ci := 1) (v := .int y) (ty := .int) (C := RX1) (T := TX1) (N := 8) hx hb hts hin1 tyX1 tyX1_ok nmX1 hown hE.1 hP hD hS 5 rfl rfl 2 (by decide) (hE.use hkN_X2_49) (fun _ h9 => h9) rfl (by decide +kernel) rfl rfl (Nat.le_of_ble_eq_true rfl) dX2_carry_33 (fun H locs hP hD hS => ?_)
    have hP : va_P D vwCl (((b 0), .inr (2, [.ref (b 1), .ref (b 2), .ref (b 3), .int (nI (gd g)), .ref (b 4)])) :: ((b 1), .inl (ct 1, 5, .inr (.inr (.inr (.inr (rfs (gN g) d.1)))))) :: ((b 2), .inl (ct 2, 6, .inr (.inr (.inr (.inr (rfs (gc g) d.2.1)))))) :: ((b 3), .inl (ct 0, 24, .inl (fun j => nI (gD g j)))) :: ((b 4), .inl (ct 0, 144, .inl d.2.2)) :: ((d.1 i 0), .inr (1, [.ref (d.1 i 1), .ref (d.1 i 2), .int y, .ref (d.1 i 3), .ref (d.1 i 4), .ref (d.1 i 5), .int (nI (sq (gS g i))), .int (sC (gS g i))])) :: ((d.1 i 1), .inl (ct 0, 12, .inl (fun j => nI (sK (gS g i) j)))) :: ((d.1 i 2), .inl (ct 0, 12, .inl (fun j => nI (sL (gS g i) j)))) :: ((d.1 i 3), .inl (ct 0, 12, .inl (sS (gS g i)))) :: ((d.1 i 4), .inl (ct 0, 144, .inl (sP (gS g i)))) :: ((d.1 i 5), .inl (ct 0, 30, .inl (fun j => nI (sT (gS g i) j)))) :: rsS ct d g i) H := hP
    have hD : va_D A (((b 0), .inr (2, [.ref (b 1), .ref (b 2), .ref (b 3), .int (nI (gd g)), .ref (b 4)])) :: ((b 1), .inl (ct 1, 5, .inr (.inr (.inr (.inr (rfs (gN g) d.1)))))) :: ((b 2), .inl (ct 2, 6, .inr (.inr (.inr (.inr (rfs (gc g) d.2.1)))))) :: ((b 3), .inl (ct 0, 24, .inl (fun j => nI (gD g j)))) :: ((b 4), .inl (ct 0, 144, .inl d.2.2)) :: ((d.1 i 0), .inr (1, [.ref (d.1 i 1), .ref (d.1 i 2), .int y, .ref (d.1 i 3), .ref (d.1 i 4), .ref (d.1 i 5), .int (nI (sq (gS g i))), .int (sC (gS g i))])) :: ((d.1 i 1), .inl (ct 0, 12, .inl (fun j => nI (sK (gS g i) j)))) :: ((d.1 i 2), .inl (ct 0, 12, .inl (fun j => nI (sL (gS g i) j)))) :: ((d.1 i 3), .inl (ct 0, 12, .inl (sS (gS g i)))) :: ((d.1 i 4), .inl (ct 0, 144, .inl (sP (gS g i)))) :: ((d.1 i 5), .inl (ct 0, 30, .inl (fun j => nI (sT (gS g i) j)))) :: rsS ct d g i) := hD
    refine lv_iload hx hb dX2_carry_36 (lv_at hl 0 rfl) ?_
    have hz : opCarry g (nI i) y = (0, sY (gS g i), gU g i (wyU (gS g i) y)) := by rw [opCarry, if_neg (bd_nI hi (by omega)), if_neg (fun q => q.1 hc), ix, hic]
    rw [hz]
    have hP9 : va_P D vwCl (hkW ct b d (gU g i (wyU (gS g i) y))) H := va_P.perm (w1 := bsW ct b d g ++ (stW ct (d.1 i) (wyU (gS g i) y) ++ rsS ct d g i)) hP (hkW_gU hi)
    have hD9 : va_D A (hkW ct b d (gU g i (wyU (gS g i) y))) := va_D.perm (w1 := bsW ct b d g ++ (stW ct (d.1 i) (wyU (gS g i) y) ++ rsS ct d g i)) hD (hkW_gU hi)
    refine W.widen (k := 2) (n := 12) (Nat.le_of_ble_eq_true rfl) (Nat.le_of_ble_eq_true rfl) ?_
    exact vx_ret (W.iret (v := sY (gS g i)) hx hb hr (fun t ht hW => ⟨rfl, rfl, ⟨d, by rw [ht]; exact hP9, hD9⟩, hS.F ht⟩) hS.2.2 dX2_carry_38)
  · refine lv_iload_n hx hb dX2_carry_10 rfl (lv_at hl 3 rfl) ?_
    refine lv_iconst (v := nI 1) hx hb dX2_carry_11 (by decide) ?_
    refine lv_icmp_eq (tgt := 25) hx hb dX2_carry_12 (by decide) (fun h1 => ?_) (fun h1 => ?_)
    · refine lv_aload_n hx hb dX2_carry_25 rfl (lv_at hl 0 rfl) ?_
      refine va_getN (D := D) (host := RX2) (ci := 1) (v := .int (sY (gS g i))) (C := RX1) (T := TX1) (N := 8) hx hb hts hin1 hown hE.1 hP 5 rfl rfl 2 (by decide) (hE.use hkN_X2_49) (fun _ h9 => h9) rfl dX2_carry_26 ?_
      refine lv_istore (lv' := [(4, .int (sY (gS g i))), (3, .ref (d.1 i 0)), (0, .ref (b 0)), (1, .int (nI i)), (2, .int y)]) hx hb dX2_carry_29 hl (by decide) rfl (fun ls hl => ?_)
      refine lv_aload_n hx hb dX2_carry_31 rfl (lv_at hl 1 rfl) ?_
      refine lv_iload_n hx hb dX2_carry_32 rfl (lv_at hl 4 rfl) ?_
      refine va_putN (D := D) (host := RX2) (ci := 1) (v := .int y) (ty := .int) (C := RX1) (T := TX1) (N := 8) hx hb hts hin1 tyX1 tyX1_ok nmX1 hown hE.1 hP hD hS 5 rfl rfl 2 (by decide) (hE.use hkN_X2_49) (fun _ h9 => h9) rfl (by decide +kernel) rfl rfl (Nat.le_of_ble_eq_true rfl) dX2_carry_33 (fun H locs hP hD hS => ?_)
      have hP : va_P D vwCl (((b 0), .inr (2, [.ref (b 1), .ref (b 2), .ref (b 3), .int (nI (gd g)), .ref (b 4)])) :: ((b 1), .inl (ct 1, 5, .inr (.inr (.inr (.inr (rfs (gN g) d.1)))))) :: ((b 2), .inl (ct 2, 6, .inr (.inr (.inr (.inr (rfs (gc g) d.2.1)))))) :: ((b 3), .inl (ct 0, 24, .inl (fun j => nI (gD g j)))) :: ((b 4), .inl (ct 0, 144, .inl d.2.2)) :: ((d.1 i 0), .inr (1, [.ref (d.1 i 1), .ref (d.1 i 2), .int y, .ref (d.1 i 3), .ref (d.1 i 4), .ref (d.1 i 5), .int (nI (sq (gS g i))), .int (sC (gS g i))])) :: ((d.1 i 1), .inl (ct 0, 12, .inl (fun j => nI (sK (gS g i) j)))) :: ((d.1 i 2), .inl (ct 0, 12, .inl (fun j => nI (sL (gS g i) j)))) :: ((d.1 i 3), .inl (ct 0, 12, .inl (sS (gS g i)))) :: ((d.1 i 4), .inl (ct 0, 144, .inl (sP (gS g i)))) :: ((d.1 i 5), .inl (ct 0, 30, .inl (fun j => nI (sT (gS g i) j)))) :: rsS ct d g i) H := hP
      have hD : va_D A (((b 0), .inr (2, [.ref (b 1), .ref (b 2), .ref (b 3), .int (nI (gd g)), .ref (b 4)])) :: ((b 1), .inl (ct 1, 5, .inr (.inr (.inr (.inr (rfs (gN g) d.1)))))) :: ((b 2), .inl (ct 2, 6, .inr (.inr (.inr (.inr (rfs (gc g) d.2.1)))))) :: ((b 3), .inl (ct 0, 24, .inl (fun j => nI (gD g j)))) :: ((b 4), .inl (ct 0, 144, .inl d.2.2)) :: ((d.1 i 0), .inr (1, [.ref (d.1 i 1), .ref (d.1 i 2), .int y, .ref (d.1 i 3), .ref (d.1 i 4), .ref (d.1 i 5), .int (nI (sq (gS g i))), .int (sC (gS g i))])) :: ((d.1 i 1), .inl (ct 0, 12, .inl (fun j => nI (sK (gS g i) j)))) :: ((d.1 i 2), .inl (ct 0, 12, .inl (fun j => nI (sL (gS g i) j)))) :: ((d.1 i 3), .inl (ct 0, 12, .inl (sS (gS g i)))) :: ((d.1 i 4), .inl (ct 0, 144, .inl (sP (gS g i)))) :: ((d.1 i 5), .inl (ct 0, 30, .inl (fun j => nI (sT (gS g i) j)))) :: rsS ct d g i) := hD
      refine lv_iload hx hb dX2_carry_36 (lv_at hl 0 rfl) ?_
      have hz : opCarry g (nI i) y = (0, sY (gS g i), gU g i (wyU (gS g i) y)) := by rw [opCarry, if_neg (bd_nI hi (by omega)), if_neg (fun q => q.2 h1), ix, hic]
      rw [hz]
      have hP9 : va_P D vwCl (hkW ct b d (gU g i (wyU (gS g i) y))) H := va_P.perm (w1 := bsW ct b d g ++ (stW ct (d.1 i) (wyU (gS g i) y) ++ rsS ct d g i)) hP (hkW_gU hi)
      have hD9 : va_D A (hkW ct b d (gU g i (wyU (gS g i) y))) := va_D.perm (w1 := bsW ct b d g ++ (stW ct (d.1 i) (wyU (gS g i) y) ++ rsS ct d g i)) hD (hkW_gU hi)
      refine W.widen (k := 2) (n := 12) (Nat.le_of_ble_eq_true rfl) (Nat.le_of_ble_eq_true rfl) ?_
      exact vx_ret (W.iret (v := sY (gS g i)) hx hb hr (fun t ht hW => ⟨rfl, rfl, ⟨d, by rw [ht]; exact hP9, hD9⟩, hS.F ht⟩) hS.2.2 dX2_carry_38)
    · exact hk_throw (G0 := G0) hx hb hfl (cls := "java/lang/IllegalArgumentException") (text := "way is out of range") (ik := 44) (is := 46) (ic := 48) (k := 2) hown (by decide +kernel) (hts (.classLink RX2 44 "java/lang/IllegalArgumentException") (by decide +kernel)) (hts (.initialized "java/lang/IllegalArgumentException") (by decide +kernel)) (fun w hw => hts w (List.mem_cons_of_mem _ (List.mem_append_left _ (List.mem_append_right _ hw)))) hk_ng2 hk_ot2 hE hH (List.mem_of_getElem? (i := 2) rfl) (hl.1.trans hml.symm) dX2_carry_15 dX2_carry_18 dX2_carry_19 dX2_carry_21 dX2_carry_24 hout (Nat.le_of_ble_eq_true rfl) (Nat.le_of_ble_eq_true rfl) (Nat.le_of_ble_eq_true rfl) (Nat.le_of_ble_eq_true rfl) hlocks ⟨1, rfl, by rw [opCarry, if_neg (bd_nI hi (by omega)), if_pos ⟨hc, h1⟩]; rfl⟩ (Nat.le_of_ble_eq_true rfl) (Nat.le_of_ble_eq_true rfl)

set_option maxHeartbeats 4000000 in
set_option maxRecDepth 100000 in
theorem c_X2_swap (l : Launch) (hfl : l.flags = flags0) (D : va_G) (ct : Nat → ClassId) (sa : Nat → Nat) (G0 : Nat) (sz : Nat) (b : Nat → Nat) (d : Ad) (g : Sg) (x : Int32) (y : Int32) (z : Int32) (hI : Inv g) : vx_Met l yX2_swap wsX2_swap ({ frames := 8, cells := 4, slots := 24, locals := 123 }) (hkPx D ct sa G0 [.ref (b 0), .int x, .int y, .int z] (hkFP D ct b d g G0 sz)) (hkFQ D ct b (va_A (hkW ct b d g) sz) (opSwap g x y z)) (hkXC (hkOk ["java/lang/IndexOutOfBoundsException", "java/lang/IllegalArgumentException"] (opSwap g x y z).1)) 4 24 (va_A (hkW ct b d g) sz) := by
  refine vx_ofW (cc := cX2_swap) (maxL := 6) (ret := (some .int)) (by decide) rfl ?_
  intro p e s m args below meth c s₁ B hml hout hv
  obtain ⟨rfl, hE, hH, hp⟩ := hv
  have hx := B.exec
  have hb := B.bytes
  have hr := B.returns
  have hts := atoms_spec (ws := wsX2_swap) B.pre
  have hown : s.vm.findClass RX2 = some m.cls := findClass_of_methodNamed B.named
  have hlocks := B.notSynchronized
  obtain ⟨hsz, hPW, hD0⟩ := hp
  subst hsz
  have hDW := hD0.self (sz := s.heap.size)
  generalize hAe : va_A (hkW ct b d g) s.heap.size = A at hDW ⊢
  have hA : ∀ q : Nat, s.heap.size ≤ q → A q := fun q h => by rw [← hAe]; exact Or.inr h
  have hS : va_S A s.heap s.heap [] := va_S.rf
  obtain ⟨hN5, hd24, hc6, hSt, hDr, hNs, hCs, hCo⟩ := id hI
  have hl := lv_entry ([.ref (b 0), .int x, .int y, .int z]) (n := 6) (Nat.le_of_ble_eq_true rfl)
  rw [lg_entry_eq]
  generalize (lg_sl ([.ref (b 0), .int x, .int y, .int z]) ++ List.replicate (6 - (lg_sl ([.ref (b 0), .int x, .int y, .int z])).length) Slot.unset).toArray = ls at hl ⊢
  have hl : lv_has ls 6 [(0, .ref (b 0)), (1, .int x), (2, .int y), (3, .int z)] := hl
  have hP : va_P D vwCl (((b 0), .inr (2, [.ref (b 1), .ref (b 2), .ref (b 3), .int (nI (gd g)), .ref (b 4)])) :: ((b 1), .inl (ct 1, 5, .inr (.inr (.inr (.inr (rfs (gN g) d.1)))))) :: ((b 2), .inl (ct 2, 6, .inr (.inr (.inr (.inr (rfs (gc g) d.2.1)))))) :: ((b 3), .inl (ct 0, 24, .inl (fun j => nI (gD g j)))) :: ((b 4), .inl (ct 0, 144, .inl d.2.2)) :: (ssW ct d g (List.range (gN g)) ++ ccW ct d g (List.range (gc g)))) s.heap := hPW
  have hD : va_D A (((b 0), .inr (2, [.ref (b 1), .ref (b 2), .ref (b 3), .int (nI (gd g)), .ref (b 4)])) :: ((b 1), .inl (ct 1, 5, .inr (.inr (.inr (.inr (rfs (gN g) d.1)))))) :: ((b 2), .inl (ct 2, 6, .inr (.inr (.inr (.inr (rfs (gc g) d.2.1)))))) :: ((b 3), .inl (ct 0, 24, .inl (fun j => nI (gD g j)))) :: ((b 4), .inl (ct 0, 144, .inl d.2.2)) :: (ssW ct d g (List.range (gN g)) ++ ccW ct d g (List.range (gc g)))) := hDW
  refine lv_aload_n hx hb dX2_swap_0 rfl (lv_at hl 0 rfl) ?_
  refine lv_iload_n hx hb dX2_swap_1 rfl (lv_at hl 1 rfl) ?_
  refine hk_XR (rest := []) (vx_runV (As := [.int x]) (rest := []) ⟨hx, hb, hml, hown, hts⟩ (c_X2_studentAt l hfl D ct sa G0 (b 0) (b 1) (b 2) (b 3) (b 4) (gN g) (nI (gd g)) d.1 x hN5) (cwV 1 hts gX2_swap_X2_studentAt rfl rfl rfl (by decide +kernel) ⟨Nat.le_of_ble_eq_true rfl, Nat.le_of_ble_eq_true rfl⟩) (hk_prxV hE hH (va_recv hE.1 hP (ci := 2) (q0 := 0) rfl rfl) (hP.sub (ws' := [((b 0), .inr (2, [.ref (b 1), .ref (b 2), .ref (b 3), .int (nI (gd g)), .ref (b 4)])), ((b 1), .inl (ct 1, 5, .inr (.inr (.inr (.inr (rfs (gN g) d.1))))))]) [0, 1] rfl)) rfl rfl hl.1 rfl (lv_room (Nat.le_of_ble_eq_true rfl)) dX2_swap_2 ⟨Nat.le_of_ble_eq_true rfl, Nat.le_of_ble_eq_true rfl⟩) (fun E ce q9 H1 ho hF9 hce hcv hcl => ?_) (fun hq => ?_)
  · exact hk_out hout hlocks hF9 (by obtain ⟨rfl, hb9⟩ := ho; exact ⟨0, rfl, by rw [opSwap, if_pos (Or.inl hb9)]; rfl⟩) hce hcv hcl (Nat.le_of_ble_eq_true rfl) (Nat.le_of_ble_eq_true rfl)
  obtain ⟨i, hi, rfl⟩ := bd_of (by omega) hq
  have hic : (nI i).toNatClampNeg = i := nI_clamp (by omega)
  rw [hic]
  have hP : va_P D vwCl (((b 0), .inr (2, [.ref (b 1), .ref (b 2), .ref (b 3), .int (nI (gd g)), .ref (b 4)])) :: ((b 1), .inl (ct 1, 5, .inr (.inr (.inr (.inr (rfs (gN g) d.1)))))) :: ((b 2), .inl (ct 2, 6, .inr (.inr (.inr (.inr (rfs (gc g) d.2.1)))))) :: ((b 3), .inl (ct 0, 24, .inl (fun j => nI (gD g j)))) :: ((b 4), .inl (ct 0, 144, .inl d.2.2)) :: ((d.1 i 0), .inr (1, [.ref (d.1 i 1), .ref (d.1 i 2), .int (sY (gS g i)), .ref (d.1 i 3), .ref (d.1 i 4), .ref (d.1 i 5), .int (nI (sq (gS g i))), .int (sC (gS g i))])) :: ((d.1 i 1), .inl (ct 0, 12, .inl (fun j => nI (sK (gS g i) j)))) :: ((d.1 i 2), .inl (ct 0, 12, .inl (fun j => nI (sL (gS g i) j)))) :: ((d.1 i 3), .inl (ct 0, 12, .inl (sS (gS g i)))) :: ((d.1 i 4), .inl (ct 0, 144, .inl (sP (gS g i)))) :: ((d.1 i 5), .inl (ct 0, 30, .inl (fun j => nI (sT (gS g i) j)))) :: rsS ct d g i) s.heap := hPW.perm (hkW_S hi)
  have hD : va_D A (((b 0), .inr (2, [.ref (b 1), .ref (b 2), .ref (b 3), .int (nI (gd g)), .ref (b 4)])) :: ((b 1), .inl (ct 1, 5, .inr (.inr (.inr (.inr (rfs (gN g) d.1)))))) :: ((b 2), .inl (ct 2, 6, .inr (.inr (.inr (.inr (rfs (gc g) d.2.1)))))) :: ((b 3), .inl (ct 0, 24, .inl (fun j => nI (gD g j)))) :: ((b 4), .inl (ct 0, 144, .inl d.2.2)) :: ((d.1 i 0), .inr (1, [.ref (d.1 i 1), .ref (d.1 i 2), .int (sY (gS g i)), .ref (d.1 i 3), .ref (d.1 i 4), .ref (d.1 i 5), .int (nI (sq (gS g i))), .int (sC (gS g i))])) :: ((d.1 i 1), .inl (ct 0, 12, .inl (fun j => nI (sK (gS g i) j)))) :: ((d.1 i 2), .inl (ct 0, 12, .inl (fun j => nI (sL (gS g i) j)))) :: ((d.1 i 3), .inl (ct 0, 12, .inl (sS (gS g i)))) :: ((d.1 i 4), .inl (ct 0, 144, .inl (sP (gS g i)))) :: ((d.1 i 5), .inl (ct 0, 30, .inl (fun j => nI (sT (gS g i) j)))) :: rsS ct d g i) := hDW.perm (hkW_S hi)
  obtain ⟨hKu, hLu, hKL, hqu, hTu, hYu⟩ := hSt i
  refine lv_astore (lv' := [(4, .ref (d.1 i 0)), (0, .ref (b 0)), (1, .int (nI i)), (2, .int y), (3, .int z)]) hx hb dX2_swap_5 hl (by decide) rfl (fun ls hl => ?_)
  refine lv_iload_n hx hb dX2_swap_7 rfl (lv_at hl 3 rfl) ?_
  refine lv_iload_n hx hb dX2_swap_8 rfl (lv_at hl 4 rfl) ?_
  refine hk_XR (rest := []) (vx_runS (As := [.int y, .int z]) (rest := []) ⟨hx, hb, hml, hown, hts⟩ (c_X2_needTwoKeys l hfl D ct sa G0 y z) (va_cwS 2 hts gX2_swap_X2_needTwoKeys rfl rfl rfl (by decide +kernel) ⟨Nat.le_of_ble_eq_true rfl, Nat.le_of_ble_eq_true rfl⟩) (hk_prxS hE hH trivial) rfl rfl hl.1 rfl (lv_room (Nat.le_of_ble_eq_true rfl)) dX2_swap_9 ⟨Nat.le_of_ble_eq_true rfl, Nat.le_of_ble_eq_true rfl⟩) (fun E ce q9 H1 ho hF9 hce hcv hcl => ?_) (fun hq => ?_)
  · exact hk_out hout hlocks hF9 (by rcases ho with ⟨rfl, hb9⟩ | ⟨rfl, h7, h8, h9⟩ <;> first | exact ⟨0, rfl, by rw [opSwap, if_pos (Or.inr hb9)]; rfl⟩ | exact ⟨1, rfl, by rw [opSwap, if_neg (fun q => q.elim (bd_nI hi (by omega)) (fun q => q.elim h7 h8)), if_pos h9]; rfl⟩) hce hcv hcl (Nat.le_of_ble_eq_true rfl) (Nat.le_of_ble_eq_true rfl)
  obtain ⟨hy9, hz9, hyz⟩ := hq
  obtain ⟨j, hj, rfl⟩ := bd_of (by decide) hy9
  have hjc : (nI j).toNatClampNeg = j := nI_clamp (by omega)
  obtain ⟨k, hk, rfl⟩ := bd_of (by decide) hz9
  have hkc : (nI k).toNatClampNeg = k := nI_clamp (by omega)
  refine lv_aload hx hb dX2_swap_12 (lv_at hl 0 rfl) ?_
  refine lv_iload_n hx hb dX2_swap_14 rfl (lv_at hl 3 rfl) ?_
  refine lv_iload_n hx hb dX2_swap_15 rfl (lv_at hl 4 rfl) ?_
  refine hk_R (rest := []) (va_Run.run (va_runVN (host := RX2) (As := [.int (nI j), .int (nI k)]) (rest := []) ⟨hx, hb, hml, hown, hts⟩ (c_X1_savedBy l D ct sa (d.1 i 0) (d.1 i 1) (d.1 i 2) (d.1 i 3) (d.1 i 4) (d.1 i 5) (sq (gS g i)) (sK (gS g i)) (sL (gS g i)) (sT (gS g i)) (sS (gS g i)) (sP (gS g i)) (sY (gS g i)) (sC (gS g i)) j k hqu hTu hKu hj hk) ⟨va_cnB 2 hts gX2_swap_X1_savedBy_n56 rfl rfl rfl (hE.nw hkN_X2_56) (hts (.initialized RX1) (by decide +kernel)) (by decide +kernel) ⟨Nat.le_of_ble_eq_true rfl, Nat.le_of_ble_eq_true rfl⟩, hts (.instanceMethod yX1_savedBy) (by decide +kernel), hts (.selects RX1 yX1_savedBy yX1_savedBy) (by decide +kernel)⟩ (hk_preV hE (va_recv hE.1 hP (ci := 1) (q0 := 5) rfl rfl) (hP.sub (ws' := [((d.1 i 0), .inr (1, [.ref (d.1 i 1), .ref (d.1 i 2), .int (sY (gS g i)), .ref (d.1 i 3), .ref (d.1 i 4), .ref (d.1 i 5), .int (nI (sq (gS g i))), .int (sC (gS g i))])), ((d.1 i 1), .inl (ct 0, 12, .inl (fun j => nI (sK (gS g i) j)))), ((d.1 i 2), .inl (ct 0, 12, .inl (fun j => nI (sL (gS g i) j)))), ((d.1 i 3), .inl (ct 0, 12, .inl (sS (gS g i)))), ((d.1 i 4), .inl (ct 0, 144, .inl (sP (gS g i)))), ((d.1 i 5), .inl (ct 0, 30, .inl (fun j => nI (sT (gS g i) j))))]) [5, 6, 7, 8, 9, 10] rfl)) rfl rfl hl.1 rfl (lv_room (Nat.le_of_ble_eq_true rfl)) dX2_swap_16 ⟨Nat.le_of_ble_eq_true rfl, Nat.le_of_ble_eq_true rfl⟩)) ?_
  refine lv_istore (lv' := [(5, .int (sv (sK (gS g i)) (sT (gS g i)) (sq (gS g i)) j k)), (4, .ref (d.1 i 0)), (0, .ref (b 0)), (1, .int (nI i)), (2, .int (nI j)), (3, .int (nI k))]) hx hb dX2_swap_19 hl (by decide) rfl (fun ls hl => ?_)
  refine lv_aload hx hb dX2_swap_21 (lv_at hl 1 rfl) ?_
  refine lv_iload_n hx hb dX2_swap_23 rfl (lv_at hl 4 rfl) ?_
  refine lv_iload_n hx hb dX2_swap_24 rfl (lv_at hl 5 rfl) ?_
  refine hk_M (rest := []) (va_Run.run (va_runVN (host := RX2) (As := [.int (nI j), .int (nI k)]) (rest := []) ⟨hx, hb, hml, hown, hts⟩ (c_X1_exchange l D ct sa (d.1 i 0) (d.1 i 1) (d.1 i 2) (d.1 i 3) (d.1 i 4) (d.1 i 5) (sq (gS g i)) (sK (gS g i)) (sL (gS g i)) (sT (gS g i)) (sS (gS g i)) (sP (gS g i)) (sY (gS g i)) (sC (gS g i)) j k hj hk hLu) ⟨va_cnB 2 hts gX2_swap_X1_exchange_n60 rfl rfl rfl (hE.nw hkN_X2_60) (hts (.initialized RX1) (by decide +kernel)) (by decide +kernel) ⟨Nat.le_of_ble_eq_true rfl, Nat.le_of_ble_eq_true rfl⟩, hts (.instanceMethod yX1_exchange) (by decide +kernel), hts (.selects RX1 yX1_exchange yX1_exchange) (by decide +kernel)⟩ (hk_preV hE (va_recv hE.1 hP (ci := 1) (q0 := 5) rfl rfl) ⟨hP.sub (ws' := [((d.1 i 0), .inr (1, [.ref (d.1 i 1), .ref (d.1 i 2), .int (sY (gS g i)), .ref (d.1 i 3), .ref (d.1 i 4), .ref (d.1 i 5), .int (nI (sq (gS g i))), .int (sC (gS g i))])), ((d.1 i 1), .inl (ct 0, 12, .inl (fun j => nI (sK (gS g i) j)))), ((d.1 i 2), .inl (ct 0, 12, .inl (fun j => nI (sL (gS g i) j)))), ((d.1 i 3), .inl (ct 0, 12, .inl (sS (gS g i)))), ((d.1 i 4), .inl (ct 0, 144, .inl (sP (gS g i)))), ((d.1 i 5), .inl (ct 0, 30, .inl (fun j => nI (sT (gS g i) j))))]) [5, 6, 7, 8, 9, 10] rfl, (hD.sub (ws' := [((d.1 i 0), .inr (1, [.ref (d.1 i 1), .ref (d.1 i 2), .int (sY (gS g i)), .ref (d.1 i 3), .ref (d.1 i 4), .ref (d.1 i 5), .int (nI (sq (gS g i))), .int (sC (gS g i))])), ((d.1 i 1), .inl (ct 0, 12, .inl (fun j => nI (sK (gS g i) j)))), ((d.1 i 2), .inl (ct 0, 12, .inl (fun j => nI (sL (gS g i) j)))), ((d.1 i 3), .inl (ct 0, 12, .inl (sS (gS g i)))), ((d.1 i 4), .inl (ct 0, 144, .inl (sP (gS g i)))), ((d.1 i 5), .inl (ct 0, 30, .inl (fun j => nI (sT (gS g i) j))))]) [5, 6, 7, 8, 9, 10] (by decide) rfl).weaken (fun _ _ _ _ => trivial)⟩) rfl rfl hl.1 rfl (lv_room (Nat.le_of_ble_eq_true rfl)) dX2_swap_25 ⟨Nat.le_of_ble_eq_true rfl, Nat.le_of_ble_eq_true rfl⟩)) hP hD hS [5, 6, 7, 8, 9, 10] (wc := [((d.1 i 0), .inr (1, [.ref (d.1 i 1), .ref (d.1 i 2), .int (sY (gS g i)), .ref (d.1 i 3), .ref (d.1 i 4), .ref (d.1 i 5), .int (nI (sq (gS g i))), .int (sC (gS g i))])), ((d.1 i 1), .inl (ct 0, 12, .inl (fun j => nI (sK (gS g i) j)))), ((d.1 i 2), .inl (ct 0, 12, .inl (fun j => nI (sL (gS g i) j)))), ((d.1 i 3), .inl (ct 0, 12, .inl (sS (gS g i)))), ((d.1 i 4), .inl (ct 0, 144, .inl (sP (gS g i)))), ((d.1 i 5), .inl (ct 0, 30, .inl (fun j => nI (sT (gS g i) j))))]) rfl rfl rfl (fun H locs hP hD hS => ?_)
  have hP : va_P D vwCl (((b 0), .inr (2, [.ref (b 1), .ref (b 2), .ref (b 3), .int (nI (gd g)), .ref (b 4)])) :: ((b 1), .inl (ct 1, 5, .inr (.inr (.inr (.inr (rfs (gN g) d.1)))))) :: ((b 2), .inl (ct 2, 6, .inr (.inr (.inr (.inr (rfs (gc g) d.2.1)))))) :: ((b 3), .inl (ct 0, 24, .inl (fun j => nI (gD g j)))) :: ((b 4), .inl (ct 0, 144, .inl d.2.2)) :: ((d.1 i 0), .inr (1, [.ref (d.1 i 1), .ref (d.1 i 2), .int (sY (gS g i)), .ref (d.1 i 3), .ref (d.1 i 4), .ref (d.1 i 5), .int (nI (sq (gS g i))), .int (sC (gS g i))])) :: ((d.1 i 1), .inl (ct 0, 12, .inl (fun n9 => nI (exK (sK (gS g i)) (sL (gS g i)) j k n9)))) :: ((d.1 i 2), .inl (ct 0, 12, .inl (fun n9 => nI (exL (sL (gS g i)) j k n9)))) :: ((d.1 i 3), .inl (ct 0, 12, .inl (exS (sS (gS g i)) (sY (gS g i)) j k))) :: ((d.1 i 4), .inl (ct 0, 144, .inl (sP (gS g i)))) :: ((d.1 i 5), .inl (ct 0, 30, .inl (fun n9 => nI (sT (gS g i) n9)))) :: rsS ct d g i) H := hP
  have hD : va_D A (((b 0), .inr (2, [.ref (b 1), .ref (b 2), .ref (b 3), .int (nI (gd g)), .ref (b 4)])) :: ((b 1), .inl (ct 1, 5, .inr (.inr (.inr (.inr (rfs (gN g) d.1)))))) :: ((b 2), .inl (ct 2, 6, .inr (.inr (.inr (.inr (rfs (gc g) d.2.1)))))) :: ((b 3), .inl (ct 0, 24, .inl (fun j => nI (gD g j)))) :: ((b 4), .inl (ct 0, 144, .inl d.2.2)) :: ((d.1 i 0), .inr (1, [.ref (d.1 i 1), .ref (d.1 i 2), .int (sY (gS g i)), .ref (d.1 i 3), .ref (d.1 i 4), .ref (d.1 i 5), .int (nI (sq (gS g i))), .int (sC (gS g i))])) :: ((d.1 i 1), .inl (ct 0, 12, .inl (fun n9 => nI (exK (sK (gS g i)) (sL (gS g i)) j k n9)))) :: ((d.1 i 2), .inl (ct 0, 12, .inl (fun n9 => nI (exL (sL (gS g i)) j k n9)))) :: ((d.1 i 3), .inl (ct 0, 12, .inl (exS (sS (gS g i)) (sY (gS g i)) j k))) :: ((d.1 i 4), .inl (ct 0, 144, .inl (sP (gS g i)))) :: ((d.1 i 5), .inl (ct 0, 30, .inl (fun n9 => nI (sT (gS g i) n9)))) :: rsS ct d g i) := hD
  refine lv_iload hx hb dX2_swap_28 (lv_at hl 0 rfl) ?_
  have hz : opSwap g (nI i) (nI j) (nI k) = (0, sv (sK (gS g i)) (sT (gS g i)) (sq (gS g i)) j k, gU g i (exU (gS g i) j k)) := by rw [opSwap, if_neg (fun z => z.elim (bd_nI hi (by omega)) (fun z => z.elim (bd_nI hj (by decide)) (bd_nI hk (by decide)))), if_neg hyz, ix, ix, ix, hic, hjc, hkc]
  rw [hz]
  have hP9 : va_P D vwCl (hkW ct b d (gU g i (exU (gS g i) j k))) H := va_P.perm (w1 := bsW ct b d g ++ (stW ct (d.1 i) (exU (gS g i) j k) ++ rsS ct d g i)) hP (hkW_gU hi)
  have hD9 : va_D A (hkW ct b d (gU g i (exU (gS g i) j k))) := va_D.perm (w1 := bsW ct b d g ++ (stW ct (d.1 i) (exU (gS g i) j k) ++ rsS ct d g i)) hD (hkW_gU hi)
  refine W.widen (k := 4) (n := 24) (Nat.le_of_ble_eq_true rfl) (Nat.le_of_ble_eq_true rfl) ?_
  exact vx_ret (W.iret (v := sv (sK (gS g i)) (sT (gS g i)) (sq (gS g i)) j k) hx hb hr (fun t ht hW => ⟨rfl, rfl, ⟨d, by rw [ht]; exact hP9, hD9⟩, hS.F ht⟩) hS.2.2 dX2_swap_30)

set_option maxHeartbeats 4000000 in
set_option maxRecDepth 100000 in
theorem c_X2_press (l : Launch) (hfl : l.flags = flags0) (D : va_G) (ct : Nat → ClassId) (sa : Nat → Nat) (G0 : Nat) (sz : Nat) (b : Nat → Nat) (d : Ad) (g : Sg) (x : Int32) (y : Int32) (z : Int32) (hI : Inv g) : vx_Met l yX2_press wsX2_press ({ frames := 7, cells := 3, slots := 18, locals := 104 }) (hkPx D ct sa G0 [.ref (b 0), .int x, .int y, .int z] (hkFP D ct b d g G0 sz)) (hkFQ D ct b (va_A (hkW ct b d g) sz) (opPress g x y z)) (hkXC (hkOk ["java/lang/IndexOutOfBoundsException"] (opPress g x y z).1)) 3 18 (va_A (hkW ct b d g) sz) := by
  refine vx_ofW (cc := cX2_press) (maxL := 5) (ret := (some .boolean)) (by decide) rfl ?_
  intro p e s m args below meth c s₁ B hml hout hv
  obtain ⟨rfl, hE, hH, hp⟩ := hv
  have hx := B.exec
  have hb := B.bytes
  have hr := B.returns
  have hts := atoms_spec (ws := wsX2_press) B.pre
  have hown : s.vm.findClass RX2 = some m.cls := findClass_of_methodNamed B.named
  have hlocks := B.notSynchronized
  obtain ⟨hsz, hPW, hD0⟩ := hp
  subst hsz
  have hDW := hD0.self (sz := s.heap.size)
  generalize hAe : va_A (hkW ct b d g) s.heap.size = A at hDW ⊢
  have hA : ∀ q : Nat, s.heap.size ≤ q → A q := fun q h => by rw [← hAe]; exact Or.inr h
  have hS : va_S A s.heap s.heap [] := va_S.rf
  obtain ⟨hN5, hd24, hc6, hSt, hDr, hNs, hCs, hCo⟩ := id hI
  have hl := lv_entry ([.ref (b 0), .int x, .int y, .int z]) (n := 5) (Nat.le_of_ble_eq_true rfl)
  rw [lg_entry_eq]
  generalize (lg_sl ([.ref (b 0), .int x, .int y, .int z]) ++ List.replicate (5 - (lg_sl ([.ref (b 0), .int x, .int y, .int z])).length) Slot.unset).toArray = ls at hl ⊢
  have hl : lv_has ls 5 [(0, .ref (b 0)), (1, .int x), (2, .int y), (3, .int z)] := hl
  have hP : va_P D vwCl (((b 0), .inr (2, [.ref (b 1), .ref (b 2), .ref (b 3), .int (nI (gd g)), .ref (b 4)])) :: ((b 1), .inl (ct 1, 5, .inr (.inr (.inr (.inr (rfs (gN g) d.1)))))) :: ((b 2), .inl (ct 2, 6, .inr (.inr (.inr (.inr (rfs (gc g) d.2.1)))))) :: ((b 3), .inl (ct 0, 24, .inl (fun j => nI (gD g j)))) :: ((b 4), .inl (ct 0, 144, .inl d.2.2)) :: (ssW ct d g (List.range (gN g)) ++ ccW ct d g (List.range (gc g)))) s.heap := hPW
  have hD : va_D A (((b 0), .inr (2, [.ref (b 1), .ref (b 2), .ref (b 3), .int (nI (gd g)), .ref (b 4)])) :: ((b 1), .inl (ct 1, 5, .inr (.inr (.inr (.inr (rfs (gN g) d.1)))))) :: ((b 2), .inl (ct 2, 6, .inr (.inr (.inr (.inr (rfs (gc g) d.2.1)))))) :: ((b 3), .inl (ct 0, 24, .inl (fun j => nI (gD g j)))) :: ((b 4), .inl (ct 0, 144, .inl d.2.2)) :: (ssW ct d g (List.range (gN g)) ++ ccW ct d g (List.range (gc g)))) := hDW
  refine lv_aload_n hx hb dX2_press_0 rfl (lv_at hl 0 rfl) ?_
  refine lv_iload_n hx hb dX2_press_1 rfl (lv_at hl 1 rfl) ?_
  refine hk_XR (rest := []) (vx_runV (As := [.int x]) (rest := []) ⟨hx, hb, hml, hown, hts⟩ (c_X2_studentAt l hfl D ct sa G0 (b 0) (b 1) (b 2) (b 3) (b 4) (gN g) (nI (gd g)) d.1 x hN5) (cwV 1 hts gX2_press_X2_studentAt rfl rfl rfl (by decide +kernel) ⟨Nat.le_of_ble_eq_true rfl, Nat.le_of_ble_eq_true rfl⟩) (hk_prxV hE hH (va_recv hE.1 hP (ci := 2) (q0 := 0) rfl rfl) (hP.sub (ws' := [((b 0), .inr (2, [.ref (b 1), .ref (b 2), .ref (b 3), .int (nI (gd g)), .ref (b 4)])), ((b 1), .inl (ct 1, 5, .inr (.inr (.inr (.inr (rfs (gN g) d.1))))))]) [0, 1] rfl)) rfl rfl hl.1 rfl (lv_room (Nat.le_of_ble_eq_true rfl)) dX2_press_2 ⟨Nat.le_of_ble_eq_true rfl, Nat.le_of_ble_eq_true rfl⟩) (fun E ce q9 H1 ho hF9 hce hcv hcl => ?_) (fun hq => ?_)
  · exact hk_out hout hlocks hF9 (by obtain ⟨rfl, hb9⟩ := ho; exact ⟨0, rfl, by rw [opPress, if_pos (Or.inl hb9)]; rfl⟩) hce hcv hcl (Nat.le_of_ble_eq_true rfl) (Nat.le_of_ble_eq_true rfl)
  obtain ⟨i, hi, rfl⟩ := bd_of (by omega) hq
  have hic : (nI i).toNatClampNeg = i := nI_clamp (by omega)
  rw [hic]
  have hP : va_P D vwCl (((b 0), .inr (2, [.ref (b 1), .ref (b 2), .ref (b 3), .int (nI (gd g)), .ref (b 4)])) :: ((b 1), .inl (ct 1, 5, .inr (.inr (.inr (.inr (rfs (gN g) d.1)))))) :: ((b 2), .inl (ct 2, 6, .inr (.inr (.inr (.inr (rfs (gc g) d.2.1)))))) :: ((b 3), .inl (ct 0, 24, .inl (fun j => nI (gD g j)))) :: ((b 4), .inl (ct 0, 144, .inl d.2.2)) :: ((d.1 i 0), .inr (1, [.ref (d.1 i 1), .ref (d.1 i 2), .int (sY (gS g i)), .ref (d.1 i 3), .ref (d.1 i 4), .ref (d.1 i 5), .int (nI (sq (gS g i))), .int (sC (gS g i))])) :: ((d.1 i 1), .inl (ct 0, 12, .inl (fun j => nI (sK (gS g i) j)))) :: ((d.1 i 2), .inl (ct 0, 12, .inl (fun j => nI (sL (gS g i) j)))) :: ((d.1 i 3), .inl (ct 0, 12, .inl (sS (gS g i)))) :: ((d.1 i 4), .inl (ct 0, 144, .inl (sP (gS g i)))) :: ((d.1 i 5), .inl (ct 0, 30, .inl (fun j => nI (sT (gS g i) j)))) :: rsS ct d g i) s.heap := hPW.perm (hkW_S hi)
  have hD : va_D A (((b 0), .inr (2, [.ref (b 1), .ref (b 2), .ref (b 3), .int (nI (gd g)), .ref (b 4)])) :: ((b 1), .inl (ct 1, 5, .inr (.inr (.inr (.inr (rfs (gN g) d.1)))))) :: ((b 2), .inl (ct 2, 6, .inr (.inr (.inr (.inr (rfs (gc g) d.2.1)))))) :: ((b 3), .inl (ct 0, 24, .inl (fun j => nI (gD g j)))) :: ((b 4), .inl (ct 0, 144, .inl d.2.2)) :: ((d.1 i 0), .inr (1, [.ref (d.1 i 1), .ref (d.1 i 2), .int (sY (gS g i)), .ref (d.1 i 3), .ref (d.1 i 4), .ref (d.1 i 5), .int (nI (sq (gS g i))), .int (sC (gS g i))])) :: ((d.1 i 1), .inl (ct 0, 12, .inl (fun j => nI (sK (gS g i) j)))) :: ((d.1 i 2), .inl (ct 0, 12, .inl (fun j => nI (sL (gS g i) j)))) :: ((d.1 i 3), .inl (ct 0, 12, .inl (sS (gS g i)))) :: ((d.1 i 4), .inl (ct 0, 144, .inl (sP (gS g i)))) :: ((d.1 i 5), .inl (ct 0, 30, .inl (fun j => nI (sT (gS g i) j)))) :: rsS ct d g i) := hDW.perm (hkW_S hi)
  obtain ⟨hKu, hLu, hKL, hqu, hTu, hYu⟩ := hSt i
  refine lv_astore (lv' := [(4, .ref (d.1 i 0)), (0, .ref (b 0)), (1, .int (nI i)), (2, .int y), (3, .int z)]) hx hb dX2_press_5 hl (by decide) rfl (fun ls hl => ?_)
  refine lv_iload_n hx hb dX2_press_7 rfl (lv_at hl 3 rfl) ?_
  refine hk_XR (rest := []) (vx_runS (As := [.int y]) (rest := []) ⟨hx, hb, hml, hown, hts⟩ (c_X2_needLetter l hfl D ct sa G0 y) (va_cwS 1 hts gX2_press_X2_needLetter rfl rfl rfl (by decide +kernel) ⟨Nat.le_of_ble_eq_true rfl, Nat.le_of_ble_eq_true rfl⟩) (hk_prxS hE hH trivial) rfl rfl hl.1 rfl (lv_room (Nat.le_of_ble_eq_true rfl)) dX2_press_8 ⟨Nat.le_of_ble_eq_true rfl, Nat.le_of_ble_eq_true rfl⟩) (fun E ce q9 H1 ho hF9 hce hcv hcl => ?_) (fun hq => ?_)
  · exact hk_out hout hlocks hF9 (by obtain ⟨rfl, hb9⟩ := ho; exact ⟨0, rfl, by rw [opPress, if_pos (Or.inr (Or.inl hb9))]; rfl⟩) hce hcv hcl (Nat.le_of_ble_eq_true rfl) (Nat.le_of_ble_eq_true rfl)
  obtain ⟨j, hj, rfl⟩ := bd_of (by decide) hq
  have hjc : (nI j).toNatClampNeg = j := nI_clamp (by omega)
  refine lv_iload_n hx hb dX2_press_11 rfl (lv_at hl 4 rfl) ?_
  refine hk_XR (rest := []) (vx_runS (As := [.int z]) (rest := []) ⟨hx, hb, hml, hown, hts⟩ (c_X2_needKey l hfl D ct sa G0 z) (va_cwS 1 hts gX2_press_X2_needKey rfl rfl rfl (by decide +kernel) ⟨Nat.le_of_ble_eq_true rfl, Nat.le_of_ble_eq_true rfl⟩) (hk_prxS hE hH trivial) rfl rfl hl.1 rfl (lv_room (Nat.le_of_ble_eq_true rfl)) dX2_press_12 ⟨Nat.le_of_ble_eq_true rfl, Nat.le_of_ble_eq_true rfl⟩) (fun E ce q9 H1 ho hF9 hce hcv hcl => ?_) (fun hq => ?_)
  · exact hk_out hout hlocks hF9 (by obtain ⟨rfl, hb9⟩ := ho; exact ⟨0, rfl, by rw [opPress, if_pos (Or.inr (Or.inr hb9))]; rfl⟩) hce hcv hcl (Nat.le_of_ble_eq_true rfl) (Nat.le_of_ble_eq_true rfl)
  obtain ⟨k, hk, rfl⟩ := bd_of (by decide) hq
  have hkc : (nI k).toNatClampNeg = k := nI_clamp (by omega)
  refine lv_aload hx hb dX2_press_15 (lv_at hl 0 rfl) ?_
  refine lv_iload_n hx hb dX2_press_17 rfl (lv_at hl 3 rfl) ?_
  refine lv_iload_n hx hb dX2_press_18 rfl (lv_at hl 4 rfl) ?_
  refine hk_M (rest := []) (va_Run.run (va_runVN (host := RX2) (As := [.int (nI j), .int (nI k)]) (rest := []) ⟨hx, hb, hml, hown, hts⟩ (c_X1_type l D ct sa (d.1 i 0) (d.1 i 1) (d.1 i 2) (d.1 i 3) (d.1 i 4) (d.1 i 5) (sq (gS g i)) (sK (gS g i)) (sL (gS g i)) (sT (gS g i)) (sS (gS g i)) (sP (gS g i)) (sY (gS g i)) (sC (gS g i)) j k hqu hj hk hKu hTu) ⟨va_cnB 2 hts gX2_press_X1_type_n80 rfl rfl rfl (hE.nw hkN_X2_80) (hts (.initialized RX1) (by decide +kernel)) (by decide +kernel) ⟨Nat.le_of_ble_eq_true rfl, Nat.le_of_ble_eq_true rfl⟩, hts (.instanceMethod yX1_type) (by decide +kernel), hts (.selects RX1 yX1_type yX1_type) (by decide +kernel)⟩ (hk_preV hE (va_recv hE.1 hP (ci := 1) (q0 := 5) rfl rfl) ⟨hP.sub (ws' := [((d.1 i 0), .inr (1, [.ref (d.1 i 1), .ref (d.1 i 2), .int (sY (gS g i)), .ref (d.1 i 3), .ref (d.1 i 4), .ref (d.1 i 5), .int (nI (sq (gS g i))), .int (sC (gS g i))])), ((d.1 i 1), .inl (ct 0, 12, .inl (fun j => nI (sK (gS g i) j)))), ((d.1 i 2), .inl (ct 0, 12, .inl (fun j => nI (sL (gS g i) j)))), ((d.1 i 3), .inl (ct 0, 12, .inl (sS (gS g i)))), ((d.1 i 4), .inl (ct 0, 144, .inl (sP (gS g i)))), ((d.1 i 5), .inl (ct 0, 30, .inl (fun j => nI (sT (gS g i) j))))]) [5, 6, 7, 8, 9, 10] rfl, (hD.sub (ws' := [((d.1 i 0), .inr (1, [.ref (d.1 i 1), .ref (d.1 i 2), .int (sY (gS g i)), .ref (d.1 i 3), .ref (d.1 i 4), .ref (d.1 i 5), .int (nI (sq (gS g i))), .int (sC (gS g i))])), ((d.1 i 1), .inl (ct 0, 12, .inl (fun j => nI (sK (gS g i) j)))), ((d.1 i 2), .inl (ct 0, 12, .inl (fun j => nI (sL (gS g i) j)))), ((d.1 i 3), .inl (ct 0, 12, .inl (sS (gS g i)))), ((d.1 i 4), .inl (ct 0, 144, .inl (sP (gS g i)))), ((d.1 i 5), .inl (ct 0, 30, .inl (fun j => nI (sT (gS g i) j))))]) [5, 6, 7, 8, 9, 10] (by decide) rfl).weaken (fun _ _ _ _ => trivial)⟩) rfl rfl hl.1 rfl (lv_room (Nat.le_of_ble_eq_true rfl)) dX2_press_19 ⟨Nat.le_of_ble_eq_true rfl, Nat.le_of_ble_eq_true rfl⟩)) hP hD hS [5, 6, 7, 8, 9, 10] (wc := [((d.1 i 0), .inr (1, [.ref (d.1 i 1), .ref (d.1 i 2), .int (sY (gS g i)), .ref (d.1 i 3), .ref (d.1 i 4), .ref (d.1 i 5), .int (nI (sq (gS g i))), .int (sC (gS g i))])), ((d.1 i 1), .inl (ct 0, 12, .inl (fun j => nI (sK (gS g i) j)))), ((d.1 i 2), .inl (ct 0, 12, .inl (fun j => nI (sL (gS g i) j)))), ((d.1 i 3), .inl (ct 0, 12, .inl (sS (gS g i)))), ((d.1 i 4), .inl (ct 0, 144, .inl (sP (gS g i)))), ((d.1 i 5), .inl (ct 0, 30, .inl (fun j => nI (sT (gS g i) j))))]) rfl rfl rfl (fun H locs hP hD hS => ?_)
  have hP : va_P D vwCl (((b 0), .inr (2, [.ref (b 1), .ref (b 2), .ref (b 3), .int (nI (gd g)), .ref (b 4)])) :: ((b 1), .inl (ct 1, 5, .inr (.inr (.inr (.inr (rfs (gN g) d.1)))))) :: ((b 2), .inl (ct 2, 6, .inr (.inr (.inr (.inr (rfs (gc g) d.2.1)))))) :: ((b 3), .inl (ct 0, 24, .inl (fun j => nI (gD g j)))) :: ((b 4), .inl (ct 0, 144, .inl d.2.2)) :: ((d.1 i 0), .inr (1, [.ref (d.1 i 1), .ref (d.1 i 2), .int (sY (gS g i)), .ref (d.1 i 3), .ref (d.1 i 4), .ref (d.1 i 5), .int (nI (kpN (sq (gS g i)))), .int (sC (gS g i) + nI 1)])) :: ((d.1 i 1), .inl (ct 0, 12, .inl (fun n9 => nI (sK (gS g i) n9)))) :: ((d.1 i 2), .inl (ct 0, 12, .inl (fun n9 => nI (sL (gS g i) n9)))) :: ((d.1 i 3), .inl (ct 0, 12, .inl (tpS (sK (gS g i)) (sS (gS g i)) j k))) :: ((d.1 i 4), .inl (ct 0, 144, .inl (tpP (sK (gS g i)) (sT (gS g i)) (sP (gS g i)) (sq (gS g i)) j k))) :: ((d.1 i 5), .inl (ct 0, 30, .inl (fun n9 => nI (kpT (sT (gS g i)) (sq (gS g i)) j n9)))) :: rsS ct d g i) H := hP
  have hD : va_D A (((b 0), .inr (2, [.ref (b 1), .ref (b 2), .ref (b 3), .int (nI (gd g)), .ref (b 4)])) :: ((b 1), .inl (ct 1, 5, .inr (.inr (.inr (.inr (rfs (gN g) d.1)))))) :: ((b 2), .inl (ct 2, 6, .inr (.inr (.inr (.inr (rfs (gc g) d.2.1)))))) :: ((b 3), .inl (ct 0, 24, .inl (fun j => nI (gD g j)))) :: ((b 4), .inl (ct 0, 144, .inl d.2.2)) :: ((d.1 i 0), .inr (1, [.ref (d.1 i 1), .ref (d.1 i 2), .int (sY (gS g i)), .ref (d.1 i 3), .ref (d.1 i 4), .ref (d.1 i 5), .int (nI (kpN (sq (gS g i)))), .int (sC (gS g i) + nI 1)])) :: ((d.1 i 1), .inl (ct 0, 12, .inl (fun n9 => nI (sK (gS g i) n9)))) :: ((d.1 i 2), .inl (ct 0, 12, .inl (fun n9 => nI (sL (gS g i) n9)))) :: ((d.1 i 3), .inl (ct 0, 12, .inl (tpS (sK (gS g i)) (sS (gS g i)) j k))) :: ((d.1 i 4), .inl (ct 0, 144, .inl (tpP (sK (gS g i)) (sT (gS g i)) (sP (gS g i)) (sq (gS g i)) j k))) :: ((d.1 i 5), .inl (ct 0, 30, .inl (fun n9 => nI (kpT (sT (gS g i)) (sq (gS g i)) j n9)))) :: rsS ct d g i) := hD
  have hz : opPress g (nI i) (nI j) (nI k) = (0, tpR (sK (gS g i)) j k, gU g i (tpU (gS g i) j k)) := by rw [opPress, if_neg (fun z => z.elim (bd_nI hi (by omega)) (fun z => z.elim (bd_nI hj (by decide)) (bd_nI hk (by decide)))), ix, ix, ix, hic, hjc, hkc]
  rw [hz]
  have hP9 : va_P D vwCl (hkW ct b d (gU g i (tpU (gS g i) j k))) H := va_P.perm (w1 := bsW ct b d g ++ (stW ct (d.1 i) (tpU (gS g i) j k) ++ rsS ct d g i)) hP (hkW_gU hi)
  have hD9 : va_D A (hkW ct b d (gU g i (tpU (gS g i) j k))) := va_D.perm (w1 := bsW ct b d g ++ (stW ct (d.1 i) (tpU (gS g i) j k) ++ rsS ct d g i)) hD (hkW_gU hi)
  refine W.widen (k := 3) (n := 18) (Nat.le_of_ble_eq_true rfl) (Nat.le_of_ble_eq_true rfl) ?_
  exact vx_ret (W.zret (v := tpR (sK (gS g i)) j k) hx hb hr (tpR_z _ _ _) (fun t ht hW => ⟨rfl, rfl, ⟨d, by rw [ht]; exact hP9, hD9⟩, hS.F ht⟩) hS.2.2 dX2_press_22)

set_option maxHeartbeats 4000000 in
set_option maxRecDepth 100000 in
theorem c_X2_timeAnew (l : Launch) (hfl : l.flags = flags0) (D : va_G) (ct : Nat → ClassId) (sa : Nat → Nat) (G0 : Nat) (sz : Nat) (b : Nat → Nat) (d : Ad) (g : Sg) (x : Int32) (hI : Inv g) : vx_Met l yX2_timeAnew wsX2_timeAnew ({ frames := 7, cells := 1, slots := 6, locals := 104 }) (hkPx D ct sa G0 [.ref (b 0), .int x] (hkFP D ct b d g G0 sz)) (hkFQ D ct b (va_A (hkW ct b d g) sz) (opTime g x)) (hkXC (hkOk ["java/lang/IndexOutOfBoundsException"] (opTime g x).1)) 1 6 (va_A (hkW ct b d g) sz) := by
  refine vx_ofW (cc := cX2_timeAnew) (maxL := 2) (ret := (some .int)) (by decide) rfl ?_
  intro p e s m args below meth c s₁ B hml hout hv
  obtain ⟨rfl, hE, hH, hp⟩ := hv
  have hx := B.exec
  have hb := B.bytes
  have hr := B.returns
  have hts := atoms_spec (ws := wsX2_timeAnew) B.pre
  have hown : s.vm.findClass RX2 = some m.cls := findClass_of_methodNamed B.named
  have hlocks := B.notSynchronized
  have hin2 : ∀ w ∈ wsX20, w ∈ wsX2_timeAnew := by decide +kernel
  obtain ⟨hsz, hPW, hD0⟩ := hp
  subst hsz
  have hDW := hD0.self (sz := s.heap.size)
  generalize hAe : va_A (hkW ct b d g) s.heap.size = A at hDW ⊢
  have hA : ∀ q : Nat, s.heap.size ≤ q → A q := fun q h => by rw [← hAe]; exact Or.inr h
  have hS : va_S A s.heap s.heap [] := va_S.rf
  obtain ⟨hN5, hd24, hc6, hSt, hDr, hNs, hCs, hCo⟩ := id hI
  have hl := lv_entry ([.ref (b 0), .int x]) (n := 2) (Nat.le_of_ble_eq_true rfl)
  rw [lg_entry_eq]
  generalize (lg_sl ([.ref (b 0), .int x]) ++ List.replicate (2 - (lg_sl ([.ref (b 0), .int x])).length) Slot.unset).toArray = ls at hl ⊢
  have hl : lv_has ls 2 [(0, .ref (b 0)), (1, .int x)] := hl
  have hP : va_P D vwCl (((b 0), .inr (2, [.ref (b 1), .ref (b 2), .ref (b 3), .int (nI (gd g)), .ref (b 4)])) :: ((b 1), .inl (ct 1, 5, .inr (.inr (.inr (.inr (rfs (gN g) d.1)))))) :: ((b 2), .inl (ct 2, 6, .inr (.inr (.inr (.inr (rfs (gc g) d.2.1)))))) :: ((b 3), .inl (ct 0, 24, .inl (fun j => nI (gD g j)))) :: ((b 4), .inl (ct 0, 144, .inl d.2.2)) :: (ssW ct d g (List.range (gN g)) ++ ccW ct d g (List.range (gc g)))) s.heap := hPW
  have hD : va_D A (((b 0), .inr (2, [.ref (b 1), .ref (b 2), .ref (b 3), .int (nI (gd g)), .ref (b 4)])) :: ((b 1), .inl (ct 1, 5, .inr (.inr (.inr (.inr (rfs (gN g) d.1)))))) :: ((b 2), .inl (ct 2, 6, .inr (.inr (.inr (.inr (rfs (gc g) d.2.1)))))) :: ((b 3), .inl (ct 0, 24, .inl (fun j => nI (gD g j)))) :: ((b 4), .inl (ct 0, 144, .inl d.2.2)) :: (ssW ct d g (List.range (gN g)) ++ ccW ct d g (List.range (gc g)))) := hDW
  refine lv_aload_n hx hb dX2_timeAnew_0 rfl (lv_at hl 0 rfl) ?_
  refine lv_iload_n hx hb dX2_timeAnew_1 rfl (lv_at hl 1 rfl) ?_
  refine hk_XR (rest := []) (vx_runV (As := [.int x]) (rest := []) ⟨hx, hb, hml, hown, hts⟩ (c_X2_studentAt l hfl D ct sa G0 (b 0) (b 1) (b 2) (b 3) (b 4) (gN g) (nI (gd g)) d.1 x hN5) (cwV 1 hts gX2_timeAnew_X2_studentAt rfl rfl rfl (by decide +kernel) ⟨Nat.le_of_ble_eq_true rfl, Nat.le_of_ble_eq_true rfl⟩) (hk_prxV hE hH (va_recv hE.1 hP (ci := 2) (q0 := 0) rfl rfl) (hP.sub (ws' := [((b 0), .inr (2, [.ref (b 1), .ref (b 2), .ref (b 3), .int (nI (gd g)), .ref (b 4)])), ((b 1), .inl (ct 1, 5, .inr (.inr (.inr (.inr (rfs (gN g) d.1))))))]) [0, 1] rfl)) rfl rfl hl.1 rfl (lv_room (Nat.le_of_ble_eq_true rfl)) dX2_timeAnew_2 ⟨Nat.le_of_ble_eq_true rfl, Nat.le_of_ble_eq_true rfl⟩) (fun E ce q9 H1 ho hF9 hce hcv hcl => ?_) (fun hq => ?_)
  · exact hk_out hout hlocks hF9 (by obtain ⟨rfl, hb9⟩ := ho; exact ⟨0, rfl, by rw [opTime, if_pos (hb9)]; rfl⟩) hce hcv hcl (Nat.le_of_ble_eq_true rfl) (Nat.le_of_ble_eq_true rfl)
  obtain ⟨i, hi, rfl⟩ := bd_of (by omega) hq
  have hic : (nI i).toNatClampNeg = i := nI_clamp (by omega)
  rw [hic]
  have hP : va_P D vwCl (((b 0), .inr (2, [.ref (b 1), .ref (b 2), .ref (b 3), .int (nI (gd g)), .ref (b 4)])) :: ((b 1), .inl (ct 1, 5, .inr (.inr (.inr (.inr (rfs (gN g) d.1)))))) :: ((b 2), .inl (ct 2, 6, .inr (.inr (.inr (.inr (rfs (gc g) d.2.1)))))) :: ((b 3), .inl (ct 0, 24, .inl (fun j => nI (gD g j)))) :: ((b 4), .inl (ct 0, 144, .inl d.2.2)) :: ((d.1 i 0), .inr (1, [.ref (d.1 i 1), .ref (d.1 i 2), .int (sY (gS g i)), .ref (d.1 i 3), .ref (d.1 i 4), .ref (d.1 i 5), .int (nI (sq (gS g i))), .int (sC (gS g i))])) :: ((d.1 i 1), .inl (ct 0, 12, .inl (fun j => nI (sK (gS g i) j)))) :: ((d.1 i 2), .inl (ct 0, 12, .inl (fun j => nI (sL (gS g i) j)))) :: ((d.1 i 3), .inl (ct 0, 12, .inl (sS (gS g i)))) :: ((d.1 i 4), .inl (ct 0, 144, .inl (sP (gS g i)))) :: ((d.1 i 5), .inl (ct 0, 30, .inl (fun j => nI (sT (gS g i) j)))) :: rsS ct d g i) s.heap := hPW.perm (hkW_S hi)
  have hD : va_D A (((b 0), .inr (2, [.ref (b 1), .ref (b 2), .ref (b 3), .int (nI (gd g)), .ref (b 4)])) :: ((b 1), .inl (ct 1, 5, .inr (.inr (.inr (.inr (rfs (gN g) d.1)))))) :: ((b 2), .inl (ct 2, 6, .inr (.inr (.inr (.inr (rfs (gc g) d.2.1)))))) :: ((b 3), .inl (ct 0, 24, .inl (fun j => nI (gD g j)))) :: ((b 4), .inl (ct 0, 144, .inl d.2.2)) :: ((d.1 i 0), .inr (1, [.ref (d.1 i 1), .ref (d.1 i 2), .int (sY (gS g i)), .ref (d.1 i 3), .ref (d.1 i 4), .ref (d.1 i 5), .int (nI (sq (gS g i))), .int (sC (gS g i))])) :: ((d.1 i 1), .inl (ct 0, 12, .inl (fun j => nI (sK (gS g i) j)))) :: ((d.1 i 2), .inl (ct 0, 12, .inl (fun j => nI (sL (gS g i) j)))) :: ((d.1 i 3), .inl (ct 0, 12, .inl (sS (gS g i)))) :: ((d.1 i 4), .inl (ct 0, 144, .inl (sP (gS g i)))) :: ((d.1 i 5), .inl (ct 0, 30, .inl (fun j => nI (sT (gS g i) j)))) :: rsS ct d g i) := hDW.perm (hkW_S hi)
  obtain ⟨hKu, hLu, hKL, hqu, hTu, hYu⟩ := hSt i
  refine lv_aload_n hx hb dX2_timeAnew_5 rfl (lv_at hl 0 rfl) ?_
  refine va_get (D := D) (ci := 2) (v := .ref (b 4)) (C := RX2) (T := TX2) (N := 5) hx hb hts hin2 hown hE.1 hP 0 rfl rfl 4 (by decide) (hts (.fieldLink RX2 29 "Homekeys" "follows" "[I") (by decide +kernel)) (fun _ h9 => h9) rfl dX2_timeAnew_6 ?_
  refine hk_M (rest := []) (va_Run.run (va_runVN (host := RX2) (As := [.ref (b 4)]) (rest := []) ⟨hx, hb, hml, hown, hts⟩ (c_X1_timeByCounts l D ct sa (d.1 i 0) (d.1 i 1) (d.1 i 2) (d.1 i 3) (d.1 i 4) (d.1 i 5) (sq (gS g i)) (sK (gS g i)) (sL (gS g i)) (sT (gS g i)) (sS (gS g i)) (sP (gS g i)) (sY (gS g i)) (sC (gS g i)) (b 4) d.2.2 hqu hKu hTu) ⟨va_cnB 1 hts gX2_timeAnew_X1_timeByCounts_n116 rfl rfl rfl (hE.nw hkN_X2_116) (hts (.initialized RX1) (by decide +kernel)) (by decide +kernel) ⟨Nat.le_of_ble_eq_true rfl, Nat.le_of_ble_eq_true rfl⟩, hts (.instanceMethod yX1_timeByCounts) (by decide +kernel), hts (.selects RX1 yX1_timeByCounts yX1_timeByCounts) (by decide +kernel)⟩ (hk_preV hE (va_recv hE.1 hP (ci := 1) (q0 := 5) rfl rfl) ⟨hP.sub (ws' := [((d.1 i 0), .inr (1, [.ref (d.1 i 1), .ref (d.1 i 2), .int (sY (gS g i)), .ref (d.1 i 3), .ref (d.1 i 4), .ref (d.1 i 5), .int (nI (sq (gS g i))), .int (sC (gS g i))])), ((d.1 i 1), .inl (ct 0, 12, .inl (fun j => nI (sK (gS g i) j)))), ((d.1 i 2), .inl (ct 0, 12, .inl (fun j => nI (sL (gS g i) j)))), ((d.1 i 3), .inl (ct 0, 12, .inl (sS (gS g i)))), ((d.1 i 4), .inl (ct 0, 144, .inl (sP (gS g i)))), ((d.1 i 5), .inl (ct 0, 30, .inl (fun j => nI (sT (gS g i) j)))), ((b 4), .inl (ct 0, 144, .inl d.2.2))]) [5, 6, 7, 8, 9, 10, 4] rfl, (hD.sub (ws' := [((d.1 i 0), .inr (1, [.ref (d.1 i 1), .ref (d.1 i 2), .int (sY (gS g i)), .ref (d.1 i 3), .ref (d.1 i 4), .ref (d.1 i 5), .int (nI (sq (gS g i))), .int (sC (gS g i))])), ((d.1 i 1), .inl (ct 0, 12, .inl (fun j => nI (sK (gS g i) j)))), ((d.1 i 2), .inl (ct 0, 12, .inl (fun j => nI (sL (gS g i) j)))), ((d.1 i 3), .inl (ct 0, 12, .inl (sS (gS g i)))), ((d.1 i 4), .inl (ct 0, 144, .inl (sP (gS g i)))), ((d.1 i 5), .inl (ct 0, 30, .inl (fun j => nI (sT (gS g i) j)))), ((b 4), .inl (ct 0, 144, .inl d.2.2))]) [5, 6, 7, 8, 9, 10, 4] (by decide) rfl).weaken (fun _ _ _ _ => trivial)⟩) rfl rfl hl.1 rfl (lv_room (Nat.le_of_ble_eq_true rfl)) dX2_timeAnew_9 ⟨Nat.le_of_ble_eq_true rfl, Nat.le_of_ble_eq_true rfl⟩)) hP hD hS [5, 6, 7, 8, 9, 10, 4] (wc := [((d.1 i 0), .inr (1, [.ref (d.1 i 1), .ref (d.1 i 2), .int (sY (gS g i)), .ref (d.1 i 3), .ref (d.1 i 4), .ref (d.1 i 5), .int (nI (sq (gS g i))), .int (sC (gS g i))])), ((d.1 i 1), .inl (ct 0, 12, .inl (fun j => nI (sK (gS g i) j)))), ((d.1 i 2), .inl (ct 0, 12, .inl (fun j => nI (sL (gS g i) j)))), ((d.1 i 3), .inl (ct 0, 12, .inl (sS (gS g i)))), ((d.1 i 4), .inl (ct 0, 144, .inl (sP (gS g i)))), ((d.1 i 5), .inl (ct 0, 30, .inl (fun j => nI (sT (gS g i) j)))), ((b 4), .inl (ct 0, 144, .inl d.2.2))]) rfl rfl rfl (fun H locs hP hD hS => ?_)
  have hP : va_P D vwCl (((b 0), .inr (2, [.ref (b 1), .ref (b 2), .ref (b 3), .int (nI (gd g)), .ref (b 4)])) :: ((b 1), .inl (ct 1, 5, .inr (.inr (.inr (.inr (rfs (gN g) d.1)))))) :: ((b 2), .inl (ct 2, 6, .inr (.inr (.inr (.inr (rfs (gc g) d.2.1)))))) :: ((b 3), .inl (ct 0, 24, .inl (fun j => nI (gD g j)))) :: ((b 4), .inl (ct 0, 144, .inl (fun j => if j < 144 then nI (cn (sT (gS g i)) j (cn_m (sq (gS g i)))) else d.2.2 j))) :: ((d.1 i 0), .inr (1, [.ref (d.1 i 1), .ref (d.1 i 2), .int (sY (gS g i)), .ref (d.1 i 3), .ref (d.1 i 4), .ref (d.1 i 5), .int (nI (sq (gS g i))), .int (sC (gS g i))])) :: ((d.1 i 1), .inl (ct 0, 12, .inl (fun j => nI (sK (gS g i) j)))) :: ((d.1 i 2), .inl (ct 0, 12, .inl (fun j => nI (sL (gS g i) j)))) :: ((d.1 i 3), .inl (ct 0, 12, .inl (sS (gS g i)))) :: ((d.1 i 4), .inl (ct 0, 144, .inl (sP (gS g i)))) :: ((d.1 i 5), .inl (ct 0, 30, .inl (fun j => nI (sT (gS g i) j)))) :: rsS ct d g i) H := hP
  have hD : va_D A (((b 0), .inr (2, [.ref (b 1), .ref (b 2), .ref (b 3), .int (nI (gd g)), .ref (b 4)])) :: ((b 1), .inl (ct 1, 5, .inr (.inr (.inr (.inr (rfs (gN g) d.1)))))) :: ((b 2), .inl (ct 2, 6, .inr (.inr (.inr (.inr (rfs (gc g) d.2.1)))))) :: ((b 3), .inl (ct 0, 24, .inl (fun j => nI (gD g j)))) :: ((b 4), .inl (ct 0, 144, .inl (fun j => if j < 144 then nI (cn (sT (gS g i)) j (cn_m (sq (gS g i)))) else d.2.2 j))) :: ((d.1 i 0), .inr (1, [.ref (d.1 i 1), .ref (d.1 i 2), .int (sY (gS g i)), .ref (d.1 i 3), .ref (d.1 i 4), .ref (d.1 i 5), .int (nI (sq (gS g i))), .int (sC (gS g i))])) :: ((d.1 i 1), .inl (ct 0, 12, .inl (fun j => nI (sK (gS g i) j)))) :: ((d.1 i 2), .inl (ct 0, 12, .inl (fun j => nI (sL (gS g i) j)))) :: ((d.1 i 3), .inl (ct 0, 12, .inl (sS (gS g i)))) :: ((d.1 i 4), .inl (ct 0, 144, .inl (sP (gS g i)))) :: ((d.1 i 5), .inl (ct 0, 30, .inl (fun j => nI (sT (gS g i) j)))) :: rsS ct d g i) := hD
  have hz : opTime g (nI i) = (0, nI (tt (gk (sK (gS g i)) (sT (gS g i))) (sq (gS g i))), g) := by rw [opTime, if_neg (bd_nI hi (by omega)), ix, hic]
  rw [hz]
  have hP9 : va_P D vwCl (hkW ct b (d.1, d.2.1, fun j => if j < 144 then nI (cn (sT (gS g i)) j (cn_m (sq (gS g i)))) else d.2.2 j) (g)) H := va_P.perm (w1 := bsW ct b (d.1, d.2.1, fun j => if j < 144 then nI (cn (sT (gS g i)) j (cn_m (sq (gS g i)))) else d.2.2 j) g ++ (stW ct (d.1 i) (gS g i) ++ rsS ct (d.1, d.2.1, fun j => if j < 144 then nI (cn (sT (gS g i)) j (cn_m (sq (gS g i)))) else d.2.2 j) g i)) hP (hkW_S (d := (d.1, d.2.1, fun j => if j < 144 then nI (cn (sT (gS g i)) j (cn_m (sq (gS g i)))) else d.2.2 j)) hi).symm
  have hD9 : va_D A (hkW ct b (d.1, d.2.1, fun j => if j < 144 then nI (cn (sT (gS g i)) j (cn_m (sq (gS g i)))) else d.2.2 j) (g)) := va_D.perm (w1 := bsW ct b (d.1, d.2.1, fun j => if j < 144 then nI (cn (sT (gS g i)) j (cn_m (sq (gS g i)))) else d.2.2 j) g ++ (stW ct (d.1 i) (gS g i) ++ rsS ct (d.1, d.2.1, fun j => if j < 144 then nI (cn (sT (gS g i)) j (cn_m (sq (gS g i)))) else d.2.2 j) g i)) hD (hkW_S (d := (d.1, d.2.1, fun j => if j < 144 then nI (cn (sT (gS g i)) j (cn_m (sq (gS g i)))) else d.2.2 j)) hi).symm
  refine W.widen (k := 1) (n := 6) (Nat.le_of_ble_eq_true rfl) (Nat.le_of_ble_eq_true rfl) ?_
  exact vx_ret (W.iret (v := nI (tt (gk (sK (gS g i)) (sT (gS g i))) (sq (gS g i)))) hx hb hr (fun t ht hW => ⟨rfl, rfl, ⟨(d.1, d.2.1, fun j => if j < 144 then nI (cn (sT (gS g i)) j (cn_m (sq (gS g i)))) else d.2.2 j), by rw [ht]; exact hP9, hD9⟩, hS.F ht⟩) hS.2.2 dX2_timeAnew_12)

set_option maxHeartbeats 4000000 in
set_option maxRecDepth 100000 in
theorem c_X2_draft (l : Launch) (hfl : l.flags = flags0) (D : va_G) (ct : Nat → ClassId) (sa : Nat → Nat) (G0 : Nat) (sz : Nat) (b : Nat → Nat) (d : Ad) (g : Sg) (x : Int32) (hI : Inv g) : vx_Met l yX2_draft wsX2_draft ({ frames := 7, cells := 2, slots := 12, locals := 102 }) (hkPx D ct sa G0 [.ref (b 0), .int x] (hkFP D ct b d g G0 sz)) (hkFQ D ct b (va_A (hkW ct b d g) sz) (opDraft g x)) (hkXC (hkOk ["java/lang/IndexOutOfBoundsException", "java/lang/IllegalStateException"] (opDraft g x).1)) 2 12 (va_A (hkW ct b d g) sz) := by
  refine vx_ofW (cc := cX2_draft) (maxL := 2) (ret := (some .int)) (by decide) rfl ?_
  intro p e s m args below meth c s₁ B hml hout hv
  obtain ⟨rfl, hE, hH, hp⟩ := hv
  have hx := B.exec
  have hb := B.bytes
  have hr := B.returns
  have hts := atoms_spec (ws := wsX2_draft) B.pre
  have hown : s.vm.findClass RX2 = some m.cls := findClass_of_methodNamed B.named
  have hlocks := B.notSynchronized
  have hin2 : ∀ w ∈ wsX20, w ∈ wsX2_draft := by decide +kernel
  obtain ⟨hsz, hPW, hD0⟩ := hp
  subst hsz
  have hDW := hD0.self (sz := s.heap.size)
  generalize hAe : va_A (hkW ct b d g) s.heap.size = A at hDW ⊢
  have hA : ∀ q : Nat, s.heap.size ≤ q → A q := fun q h => by rw [← hAe]; exact Or.inr h
  have hS : va_S A s.heap s.heap [] := va_S.rf
  obtain ⟨hN5, hd24, hc6, hSt, hDr, hNs, hCs, hCo⟩ := id hI
  have hl := lv_entry ([.ref (b 0), .int x]) (n := 2) (Nat.le_of_ble_eq_true rfl)
  rw [lg_entry_eq]
  generalize (lg_sl ([.ref (b 0), .int x]) ++ List.replicate (2 - (lg_sl ([.ref (b 0), .int x])).length) Slot.unset).toArray = ls at hl ⊢
  have hl : lv_has ls 2 [(0, .ref (b 0)), (1, .int x)] := hl
  have hP : va_P D vwCl (((b 0), .inr (2, [.ref (b 1), .ref (b 2), .ref (b 3), .int (nI (gd g)), .ref (b 4)])) :: ((b 1), .inl (ct 1, 5, .inr (.inr (.inr (.inr (rfs (gN g) d.1)))))) :: ((b 2), .inl (ct 2, 6, .inr (.inr (.inr (.inr (rfs (gc g) d.2.1)))))) :: ((b 3), .inl (ct 0, 24, .inl (fun j => nI (gD g j)))) :: ((b 4), .inl (ct 0, 144, .inl d.2.2)) :: (ssW ct d g (List.range (gN g)) ++ ccW ct d g (List.range (gc g)))) s.heap := hPW
  have hD : va_D A (((b 0), .inr (2, [.ref (b 1), .ref (b 2), .ref (b 3), .int (nI (gd g)), .ref (b 4)])) :: ((b 1), .inl (ct 1, 5, .inr (.inr (.inr (.inr (rfs (gN g) d.1)))))) :: ((b 2), .inl (ct 2, 6, .inr (.inr (.inr (.inr (rfs (gc g) d.2.1)))))) :: ((b 3), .inl (ct 0, 24, .inl (fun j => nI (gD g j)))) :: ((b 4), .inl (ct 0, 144, .inl d.2.2)) :: (ssW ct d g (List.range (gN g)) ++ ccW ct d g (List.range (gc g)))) := hDW
  refine lv_iload_n hx hb dX2_draft_0 rfl (lv_at hl 1 rfl) ?_
  refine hk_XR (rest := []) (vx_runS (As := [.int x]) (rest := []) ⟨hx, hb, hml, hown, hts⟩ (c_X2_needLetter l hfl D ct sa G0 x) (va_cwS 1 hts gX2_draft_X2_needLetter rfl rfl rfl (by decide +kernel) ⟨Nat.le_of_ble_eq_true rfl, Nat.le_of_ble_eq_true rfl⟩) (hk_prxS hE hH trivial) rfl rfl hl.1 rfl (lv_room (Nat.le_of_ble_eq_true rfl)) dX2_draft_1 ⟨Nat.le_of_ble_eq_true rfl, Nat.le_of_ble_eq_true rfl⟩) (fun E ce q9 H1 ho hF9 hce hcv hcl => ?_) (fun hq => ?_)
  · exact hk_out hout hlocks hF9 (by obtain ⟨rfl, hb9⟩ := ho; exact ⟨0, rfl, by rw [opDraft, if_pos (hb9)]; rfl⟩) hce hcv hcl (Nat.le_of_ble_eq_true rfl) (Nat.le_of_ble_eq_true rfl)
  obtain ⟨j, hj, rfl⟩ := bd_of (by decide) hq
  have hjc : (nI j).toNatClampNeg = j := nI_clamp (by omega)
  refine lv_aload_n hx hb dX2_draft_4 rfl (lv_at hl 0 rfl) ?_
  refine va_get (D := D) (ci := 2) (v := .int (nI (gd g))) (C := RX2) (T := TX2) (N := 5) hx hb hts hin2 hown hE.1 hP 0 rfl rfl 3 (by decide) (hts (.fieldLink RX2 25 "Homekeys" "drafted" "I") (by decide +kernel)) (fun _ h9 => h9) rfl dX2_draft_5 ?_
  refine lv_bipush (v := nI 24) hx hb dX2_draft_8 (by decide) ?_
  refine hk_ltN (tgt := 23) hx hb (by omega) (by omega) dX2_draft_10 (by decide) (fun hc => ?_) (fun hc => ?_)
  · refine lv_aload_n hx hb dX2_draft_23 rfl (lv_at hl 0 rfl) ?_
    refine va_get (D := D) (ci := 2) (v := .ref (b 3)) (C := RX2) (T := TX2) (N := 5) hx hb hts hin2 hown hE.1 hP 0 rfl rfl 2 (by decide) (hts (.fieldLink RX2 21 "Homekeys" "draft" "[I") (by decide +kernel)) (fun _ h9 => h9) rfl dX2_draft_24 ?_
    refine lv_aload_n hx hb dX2_draft_27 rfl (lv_at hl 0 rfl) ?_
    refine va_get (D := D) (ci := 2) (v := .int (nI (gd g))) (C := RX2) (T := TX2) (N := 5) hx hb hts hin2 hown hE.1 hP 0 rfl rfl 3 (by decide) (hts (.fieldLink RX2 25 "Homekeys" "drafted" "I") (by decide +kernel)) (fun _ h9 => h9) rfl dX2_draft_28 ?_
    refine lv_iload_n hx hb dX2_draft_31 rfl (lv_at hl 1 rfl) ?_
    refine hk_M (rest := []) (va_Run.run (va_runS (As := [.ref (b 3), .int (nI (gd g)), .int (nI j)]) (rest := []) ⟨hx, hb, hml, hown, hts⟩ (c_X2_put l D ct sa (b 3) 24 (fun j => nI (gD g j)) (gd g) (nI j) (by decide) (by omega)) (va_cwS 3 hts gX2_draft_X2_put rfl rfl rfl (by decide +kernel) ⟨Nat.le_of_ble_eq_true rfl, Nat.le_of_ble_eq_true rfl⟩) (hk_preS hE ⟨hP.sub (ws' := [((b 3), .inl (ct 0, 24, .inl (fun j => nI (gD g j))))]) [3] rfl, (hD.sub (ws' := [((b 3), .inl (ct 0, 24, .inl (fun j => nI (gD g j))))]) [3] (by decide) rfl).weaken (fun _ _ _ _ => trivial)⟩) rfl rfl hl.1 rfl (lv_room (Nat.le_of_ble_eq_true rfl)) dX2_draft_32 ⟨Nat.le_of_ble_eq_true rfl, Nat.le_of_ble_eq_true rfl⟩)) hP hD hS [3] (wc := [((b 3), .inl (ct 0, 24, .inl (fun j => nI (gD g j))))]) rfl rfl rfl (fun H locs hP hD hS => ?_)
    have hP : va_P D vwCl (((b 0), .inr (2, [.ref (b 1), .ref (b 2), .ref (b 3), .int (nI (gd g)), .ref (b 4)])) :: ((b 1), .inl (ct 1, 5, .inr (.inr (.inr (.inr (rfs (gN g) d.1)))))) :: ((b 2), .inl (ct 2, 6, .inr (.inr (.inr (.inr (rfs (gc g) d.2.1)))))) :: ((b 3), .inl (ct 0, 24, .inl (upd (fun j => nI (gD g j)) (gd g) (nI j)))) :: ((b 4), .inl (ct 0, 144, .inl d.2.2)) :: (ssW ct d g (List.range (gN g)) ++ ccW ct d g (List.range (gc g)))) H := hP
    have hD : va_D A (((b 0), .inr (2, [.ref (b 1), .ref (b 2), .ref (b 3), .int (nI (gd g)), .ref (b 4)])) :: ((b 1), .inl (ct 1, 5, .inr (.inr (.inr (.inr (rfs (gN g) d.1)))))) :: ((b 2), .inl (ct 2, 6, .inr (.inr (.inr (.inr (rfs (gc g) d.2.1)))))) :: ((b 3), .inl (ct 0, 24, .inl (upd (fun j => nI (gD g j)) (gd g) (nI j)))) :: ((b 4), .inl (ct 0, 144, .inl d.2.2)) :: (ssW ct d g (List.range (gN g)) ++ ccW ct d g (List.range (gc g)))) := hD
    have hP : va_P D vwCl (((b 0), .inr (2, [.ref (b 1), .ref (b 2), .ref (b 3), .int (nI (gd g)), .ref (b 4)])) :: ((b 1), .inl (ct 1, 5, .inr (.inr (.inr (.inr (rfs (gN g) d.1)))))) :: ((b 2), .inl (ct 2, 6, .inr (.inr (.inr (.inr (rfs (gc g) d.2.1)))))) :: ((b 3), .inl (ct 0, 24, .inl (fun z => nI (va_up (gD g) (gd g) j z)))) :: ((b 4), .inl (ct 0, 144, .inl d.2.2)) :: (ssW ct d g (List.range (gN g)) ++ ccW ct d g (List.range (gc g)))) H := by rw [gD_up] at hP; exact hP
    have hD : va_D A (((b 0), .inr (2, [.ref (b 1), .ref (b 2), .ref (b 3), .int (nI (gd g)), .ref (b 4)])) :: ((b 1), .inl (ct 1, 5, .inr (.inr (.inr (.inr (rfs (gN g) d.1)))))) :: ((b 2), .inl (ct 2, 6, .inr (.inr (.inr (.inr (rfs (gc g) d.2.1)))))) :: ((b 3), .inl (ct 0, 24, .inl (fun z => nI (va_up (gD g) (gd g) j z)))) :: ((b 4), .inl (ct 0, 144, .inl d.2.2)) :: (ssW ct d g (List.range (gN g)) ++ ccW ct d g (List.range (gc g)))) := by rw [gD_up] at hD; exact hD
    refine lv_aload_n hx hb dX2_draft_35 rfl (lv_at hl 0 rfl) ?_
    refine lv_dup hx hb dX2_draft_36 rfl ?_
    refine va_get (D := D) (ci := 2) (v := .int (nI (gd g))) (C := RX2) (T := TX2) (N := 5) hx hb hts hin2 hown hE.1 hP 0 rfl rfl 3 (by decide) (hts (.fieldLink RX2 25 "Homekeys" "drafted" "I") (by decide +kernel)) (fun _ h9 => h9) rfl dX2_draft_37 ?_
    refine lv_iconst (v := nI 1) hx hb dX2_draft_40 (by decide) ?_
    refine hk_addN hx hb dX2_draft_41 ?_
    refine va_put (D := D) (ci := 2) (v := .int (nI ((gd g) + 1))) (ty := .int) (C := RX2) (T := TX2) (N := 5) hx hb hts hin2 tyX2 tyX2_ok nmX2 hown hE.1 hP hD hS 0 rfl rfl 3 (by decide) (hts (.fieldLink RX2 25 "Homekeys" "drafted" "I") (by decide +kernel)) (fun _ h9 => h9) rfl (by decide +kernel) rfl rfl (Nat.le_of_ble_eq_true rfl) dX2_draft_42 (fun H locs hP hD hS => ?_)
    have hP : va_P D vwCl (((b 0), .inr (2, [.ref (b 1), .ref (b 2), .ref (b 3), .int (nI ((gd g) + 1)), .ref (b 4)])) :: ((b 1), .inl (ct 1, 5, .inr (.inr (.inr (.inr (rfs (gN g) d.1)))))) :: ((b 2), .inl (ct 2, 6, .inr (.inr (.inr (.inr (rfs (gc g) d.2.1)))))) :: ((b 3), .inl (ct 0, 24, .inl (fun z => nI (va_up (gD g) (gd g) j z)))) :: ((b 4), .inl (ct 0, 144, .inl d.2.2)) :: (ssW ct d g (List.range (gN g)) ++ ccW ct d g (List.range (gc g)))) H := hP
    have hD : va_D A (((b 0), .inr (2, [.ref (b 1), .ref (b 2), .ref (b 3), .int (nI ((gd g) + 1)), .ref (b 4)])) :: ((b 1), .inl (ct 1, 5, .inr (.inr (.inr (.inr (rfs (gN g) d.1)))))) :: ((b 2), .inl (ct 2, 6, .inr (.inr (.inr (.inr (rfs (gc g) d.2.1)))))) :: ((b 3), .inl (ct 0, 24, .inl (fun z => nI (va_up (gD g) (gd g) j z)))) :: ((b 4), .inl (ct 0, 144, .inl d.2.2)) :: (ssW ct d g (List.range (gN g)) ++ ccW ct d g (List.range (gc g)))) := hD
    refine lv_aload_n hx hb dX2_draft_45 rfl (lv_at hl 0 rfl) ?_
    refine va_get (D := D) (ci := 2) (v := .int (nI ((gd g) + 1))) (C := RX2) (T := TX2) (N := 5) hx hb hts hin2 hown hE.1 hP 0 rfl rfl 3 (by decide) (hts (.fieldLink RX2 25 "Homekeys" "drafted" "I") (by decide +kernel)) (fun _ h9 => h9) rfl dX2_draft_46 ?_
    have hz : opDraft g (nI j) = (0, nI ((gd g) + 1), (gN g, gS g, gd g + 1, va_up (gD g) (gd g) j, gc g, gC g)) := by rw [opDraft, if_neg (bd_nI hj (by decide)), if_neg (by omega), ix, hjc]
    rw [hz]
    have hP9 : va_P D vwCl (hkW ct b d ((gN g, gS g, gd g + 1, va_up (gD g) (gd g) j, gc g, gC g))) H := hP
    have hD9 : va_D A (hkW ct b d ((gN g, gS g, gd g + 1, va_up (gD g) (gd g) j, gc g, gC g))) := hD
    refine W.widen (k := 2) (n := 12) (Nat.le_of_ble_eq_true rfl) (Nat.le_of_ble_eq_true rfl) ?_
    exact vx_ret (W.iret (v := nI ((gd g) + 1)) hx hb hr (fun t ht hW => ⟨rfl, rfl, ⟨d, by rw [ht]; exact hP9, hD9⟩, hS.F ht⟩) hS.2.2 dX2_draft_49)
  · exact hk_throw (G0 := G0) hx hb hfl (cls := "java/lang/IllegalStateException") (text := "the draft has 24 letters") (ik := 33) (is := 129) (ic := 37) (k := 7) hown (by decide +kernel) (hts (.classLink RX2 33 "java/lang/IllegalStateException") (by decide +kernel)) (hts (.initialized "java/lang/IllegalStateException") (by decide +kernel)) (fun w hw => hts w (List.mem_cons_of_mem _ (List.mem_append_left _ (List.mem_append_right _ hw)))) hk_ng0 hk_ot0 hE hH (List.mem_of_getElem? (i := 7) rfl) (hl.1.trans hml.symm) dX2_draft_13 dX2_draft_16 dX2_draft_17 dX2_draft_19 dX2_draft_22 hout (Nat.le_of_ble_eq_true rfl) (Nat.le_of_ble_eq_true rfl) (Nat.le_of_ble_eq_true rfl) (Nat.le_of_ble_eq_true rfl) hlocks ⟨1, rfl, by rw [opDraft, if_neg (bd_nI hj (by decide)), if_pos (by omega)]; rfl⟩ (Nat.le_of_ble_eq_true rfl) (Nat.le_of_ble_eq_true rfl)

set_option maxHeartbeats 4000000 in
set_option maxRecDepth 100000 in
theorem c_X2_clear (l : Launch) (D : va_G) (ct : Nat → ClassId) (sa : Nat → Nat) (G0 sz : Nat) (b : Nat → Nat) (d : Ad) (g : Sg) (hI : Inv g) : Met l yX2_clear wsX2_clear ({ frames := 0, cells := 0, slots := 0, locals := 0 }) (hkPc D ct sa [.ref (b 0)] (hkFP D ct b d g G0 sz)) (hkFQ D ct b (va_A (hkW ct b d g) sz) (opClear g)) 0 0 (va_A (hkW ct b d g) sz) := by
  refine Met.ofW (cc := cX2_clear) (maxL := 2) (ret := (some .int)) (by decide) rfl ?_
  intro p e s m args below meth c s₁ B hml hv
  obtain ⟨rfl, hE, hp⟩ := hv
  have hx := B.exec
  have hb := B.bytes
  have hr := B.returns
  have hts := atoms_spec (ws := wsX2_clear) B.pre
  have hown : s.vm.findClass RX2 = some m.cls := findClass_of_methodNamed B.named
  have hlocks := B.notSynchronized
  have hin2 : ∀ w ∈ wsX20, w ∈ wsX2_clear := by decide +kernel
  obtain ⟨hsz, hPW, hD0⟩ := hp
  subst hsz
  have hDW := hD0.self (sz := s.heap.size)
  generalize hAe : va_A (hkW ct b d g) s.heap.size = A at hDW ⊢
  have hA : ∀ q : Nat, s.heap.size ≤ q → A q := fun q h => by rw [← hAe]; exact Or.inr h
  have hS : va_S A s.heap s.heap [] := va_S.rf
  obtain ⟨hN5, hd24, hc6, hSt, hDr, hNs, hCs, hCo⟩ := id hI
  have hl := lv_entry ([.ref (b 0)]) (n := 2) (Nat.le_of_ble_eq_true rfl)
  rw [lg_entry_eq]
  generalize (lg_sl ([.ref (b 0)]) ++ List.replicate (2 - (lg_sl ([.ref (b 0)])).length) Slot.unset).toArray = ls at hl ⊢
  have hl : lv_has ls 2 [(0, .ref (b 0))] := hl
  have hP : va_P D vwCl (((b 0), .inr (2, [.ref (b 1), .ref (b 2), .ref (b 3), .int (nI (gd g)), .ref (b 4)])) :: ((b 1), .inl (ct 1, 5, .inr (.inr (.inr (.inr (rfs (gN g) d.1)))))) :: ((b 2), .inl (ct 2, 6, .inr (.inr (.inr (.inr (rfs (gc g) d.2.1)))))) :: ((b 3), .inl (ct 0, 24, .inl (fun j => nI (gD g j)))) :: ((b 4), .inl (ct 0, 144, .inl d.2.2)) :: (ssW ct d g (List.range (gN g)) ++ ccW ct d g (List.range (gc g)))) s.heap := hPW
  have hD : va_D A (((b 0), .inr (2, [.ref (b 1), .ref (b 2), .ref (b 3), .int (nI (gd g)), .ref (b 4)])) :: ((b 1), .inl (ct 1, 5, .inr (.inr (.inr (.inr (rfs (gN g) d.1)))))) :: ((b 2), .inl (ct 2, 6, .inr (.inr (.inr (.inr (rfs (gc g) d.2.1)))))) :: ((b 3), .inl (ct 0, 24, .inl (fun j => nI (gD g j)))) :: ((b 4), .inl (ct 0, 144, .inl d.2.2)) :: (ssW ct d g (List.range (gN g)) ++ ccW ct d g (List.range (gc g)))) := hDW
  refine lv_aload_n hx hb dX2_clear_0 rfl (lv_at hl 0 rfl) ?_
  refine va_get (D := D) (ci := 2) (v := .int (nI (gd g))) (C := RX2) (T := TX2) (N := 5) hx hb hts hin2 hown hE.1 hP 0 rfl rfl 3 (by decide) (hts (.fieldLink RX2 25 "Homekeys" "drafted" "I") (by decide +kernel)) (fun _ h9 => h9) rfl dX2_clear_1 ?_
  refine lv_istore_n (lv' := [(1, .int (nI (gd g))), (0, .ref (b 0))]) hx hb dX2_clear_4 rfl hl (by decide) rfl (fun ls hl => ?_)
  refine lv_aload_n hx hb dX2_clear_5 rfl (lv_at hl 1 rfl) ?_
  refine lv_iconst (v := nI 0) hx hb dX2_clear_6 (by decide) ?_
  refine va_put (D := D) (ci := 2) (v := .int (nI 0)) (ty := .int) (C := RX2) (T := TX2) (N := 5) hx hb hts hin2 tyX2 tyX2_ok nmX2 hown hE.1 hP hD hS 0 rfl rfl 3 (by decide) (hts (.fieldLink RX2 25 "Homekeys" "drafted" "I") (by decide +kernel)) (fun _ h9 => h9) rfl (by decide +kernel) rfl rfl (Nat.le_of_ble_eq_true rfl) dX2_clear_7 (fun H locs hP hD hS => ?_)
  have hP : va_P D vwCl (((b 0), .inr (2, [.ref (b 1), .ref (b 2), .ref (b 3), .int (nI 0), .ref (b 4)])) :: ((b 1), .inl (ct 1, 5, .inr (.inr (.inr (.inr (rfs (gN g) d.1)))))) :: ((b 2), .inl (ct 2, 6, .inr (.inr (.inr (.inr (rfs (gc g) d.2.1)))))) :: ((b 3), .inl (ct 0, 24, .inl (fun j => nI (gD g j)))) :: ((b 4), .inl (ct 0, 144, .inl d.2.2)) :: (ssW ct d g (List.range (gN g)) ++ ccW ct d g (List.range (gc g)))) H := hP
  have hD : va_D A (((b 0), .inr (2, [.ref (b 1), .ref (b 2), .ref (b 3), .int (nI 0), .ref (b 4)])) :: ((b 1), .inl (ct 1, 5, .inr (.inr (.inr (.inr (rfs (gN g) d.1)))))) :: ((b 2), .inl (ct 2, 6, .inr (.inr (.inr (.inr (rfs (gc g) d.2.1)))))) :: ((b 3), .inl (ct 0, 24, .inl (fun j => nI (gD g j)))) :: ((b 4), .inl (ct 0, 144, .inl d.2.2)) :: (ssW ct d g (List.range (gN g)) ++ ccW ct d g (List.range (gc g)))) := hD
  refine lv_iload_n hx hb dX2_clear_10 rfl (lv_at hl 0 rfl) ?_
  exact W.iret (v := nI (gd g)) hx hb hr (fun t ht hW => ⟨rfl, rfl, ⟨d, by rw [ht]; exact (hP : va_P D vwCl (hkW ct b d (gN g, gS g, 0, gD g, gc g, gC g)) H), (hD : va_D A (hkW ct b d (gN g, gS g, 0, gD g, gc g, gC g)))⟩, hS.F ht⟩) hS.2.2 dX2_clear_11
