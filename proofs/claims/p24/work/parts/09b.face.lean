theorem hk_13 {z : Int32} (h1 : ¬ z < 0) (h2 : z ≤ nI 3) (h3 : ¬ z = 0) : z = 1 ∨ z = 2 ∨ z = 3 := by
  rcases hk_t3 z with h | h | h | h | ⟨-, -, -, -, h⟩
  · exact absurd h h3
  · exact Or.inl h
  · exact Or.inr (Or.inl h)
  · exact Or.inr (Or.inr h)
  · have e1 : ¬ z.toInt < 0 := fun q => h1 (Int32.lt_iff_toInt_lt.mpr q)
    have e2 : z.toInt ≤ 3 := Int32.le_iff_toInt_le.mp h2
    omega
theorem scr_up (X : Nat → Nat) (Z : Nat → Int32) (j : Nat) (z : Int32) : upd (scr X Z) j (nI 1000 * z / nI (X j)) = scr X (upd Z j z) := by
  funext k
  unfold upd scr
  by_cases h : k = j
  · subst h
    show (if k = k then _ else _) = _ * (if k = k then _ else _) / _
    rw [if_pos rfl, if_pos rfl]
  · show (if k = j then _ else _) = _ * (if k = j then _ else _) / _
    rw [if_neg h, if_neg h]
set_option maxHeartbeats 4000000 in
set_option maxRecDepth 100000 in
theorem c_X2_ranked (l : Launch) (hfl : l.flags = flags0) (D : va_G) (ct : Nat → ClassId) (sa : Nat → Nat) (G0 : Nat) (sz : Nat) (b : Nat → Nat) (d : Ad) (g : Sg) (x : Int32) (y : Int32) (hI : Inv g) : vx_Met l yX2_ranked wsX2_ranked ({ frames := 7, cells := 2, slots := 12, locals := 104 }) (hkPx D ct sa G0 [.ref (b 0), .int x, .int y] (hkFP D ct b d g G0 sz)) (hkFQ D ct b (va_A (hkW ct b d g) sz) (opRanked g x y)) (hkXC (hkOk ["java/lang/IndexOutOfBoundsException"] (opRanked g x y).1)) 2 12 (va_A (hkW ct b d g) sz) := by
  refine vx_ofW (cc := cX2_ranked) (maxL := 4) (ret := (some .int)) (by decide) rfl ?_
  intro p e s m args below meth c s₁ B hml hout hv
  obtain ⟨rfl, hE, hH, hp⟩ := hv
  have hx := B.exec
  have hb := B.bytes
  have hr := B.returns
  have hts := atoms_spec (ws := wsX2_ranked) B.pre
  have hown : s.vm.findClass RX2 = some m.cls := findClass_of_methodNamed B.named
  have hlocks := B.notSynchronized
  obtain ⟨hsz, hPW, hD0⟩ := hp
  subst hsz
  have hDW := hD0.self (sz := s.heap.size)
  generalize hAe : va_A (hkW ct b d g) s.heap.size = A at hDW ⊢
  have hA : ∀ q : Nat, s.heap.size ≤ q → A q := fun q h => by rw [← hAe]; exact Or.inr h
  have hS : va_S A s.heap s.heap [] := va_S.rf
  obtain ⟨hN5, hd24, hc6, hSt, hDr, hNs, hCs, hCo⟩ := id hI
  have hl := lv_entry ([.ref (b 0), .int x, .int y]) (n := 4) (Nat.le_of_ble_eq_true rfl)
  rw [lg_entry_eq]
  generalize (lg_sl ([.ref (b 0), .int x, .int y]) ++ List.replicate (4 - (lg_sl ([.ref (b 0), .int x, .int y])).length) Slot.unset).toArray = ls at hl ⊢
  have hl : lv_has ls 4 [(0, .ref (b 0)), (1, .int x), (2, .int y)] := hl
  have hP : va_P D vwCl (((b 0), .inr (2, [.ref (b 1), .ref (b 2), .ref (b 3), .int (nI (gd g)), .ref (b 4)])) :: ((b 1), .inl (ct 1, 5, .inr (.inr (.inr (.inr (rfs (gN g) d.1)))))) :: ((b 2), .inl (ct 2, 6, .inr (.inr (.inr (.inr (rfs (gc g) d.2.1)))))) :: ((b 3), .inl (ct 0, 24, .inl (fun j => nI (gD g j)))) :: ((b 4), .inl (ct 0, 144, .inl d.2.2)) :: (ssW ct d g (List.range (gN g)) ++ ccW ct d g (List.range (gc g)))) s.heap := hPW
  have hD : va_D A (((b 0), .inr (2, [.ref (b 1), .ref (b 2), .ref (b 3), .int (nI (gd g)), .ref (b 4)])) :: ((b 1), .inl (ct 1, 5, .inr (.inr (.inr (.inr (rfs (gN g) d.1)))))) :: ((b 2), .inl (ct 2, 6, .inr (.inr (.inr (.inr (rfs (gc g) d.2.1)))))) :: ((b 3), .inl (ct 0, 24, .inl (fun j => nI (gD g j)))) :: ((b 4), .inl (ct 0, 144, .inl d.2.2)) :: (ssW ct d g (List.range (gN g)) ++ ccW ct d g (List.range (gc g)))) := hDW
  refine lv_aload_n hx hb dX2_ranked_0 rfl (lv_at hl 0 rfl) ?_
  refine lv_iload_n hx hb dX2_ranked_1 rfl (lv_at hl 1 rfl) ?_
  refine hk_XR (rest := []) (vx_runV (As := [.int x]) (rest := []) ⟨hx, hb, hml, hown, hts⟩ (c_X2_contestAt l hfl D ct sa G0 (b 0) (b 1) (b 2) (b 3) (b 4) (gc g) (nI (gd g)) d.2.1 x hc6) (cwV 1 hts gX2_ranked_X2_contestAt rfl rfl rfl (by decide +kernel) ⟨Nat.le_of_ble_eq_true rfl, Nat.le_of_ble_eq_true rfl⟩) (hk_prxV hE hH (va_recv hE.1 hP (ci := 2) (q0 := 0) rfl rfl) (hP.sub (ws' := [((b 0), .inr (2, [.ref (b 1), .ref (b 2), .ref (b 3), .int (nI (gd g)), .ref (b 4)])), ((b 2), .inl (ct 2, 6, .inr (.inr (.inr (.inr (rfs (gc g) d.2.1))))))]) [0, 2] rfl)) rfl rfl hl.1 rfl (lv_room (Nat.le_of_ble_eq_true rfl)) dX2_ranked_2 ⟨Nat.le_of_ble_eq_true rfl, Nat.le_of_ble_eq_true rfl⟩) (fun E ce q9 H1 ho hF9 hce hcv hcl => ?_) (fun hq => ?_)
  · exact hk_out hout hlocks hF9 (by obtain ⟨rfl, hb9⟩ := ho; exact ⟨0, rfl, by rw [opRanked, if_pos (Or.inl hb9)]; rfl⟩) hce hcv hcl (Nat.le_of_ble_eq_true rfl) (Nat.le_of_ble_eq_true rfl)
  obtain ⟨c9, hi, rfl⟩ := bd_of (by omega) hq
  have hic : (nI c9).toNatClampNeg = c9 := nI_clamp (by omega)
  rw [hic]
  have hP : va_P D vwCl (((b 0), .inr (2, [.ref (b 1), .ref (b 2), .ref (b 3), .int (nI (gd g)), .ref (b 4)])) :: ((b 1), .inl (ct 1, 5, .inr (.inr (.inr (.inr (rfs (gN g) d.1)))))) :: ((b 2), .inl (ct 2, 6, .inr (.inr (.inr (.inr (rfs (gc g) d.2.1)))))) :: ((b 3), .inl (ct 0, 24, .inl (fun j => nI (gD g j)))) :: ((b 4), .inl (ct 0, 144, .inl d.2.2)) :: ((d.2.1 c9 0), .inr (0, [.ref (d.2.1 c9 1), .ref (d.2.1 c9 2), .ref (d.2.1 c9 3)])) :: ((d.2.1 c9 1), .inl (ct 0, 5, .inl (fun j => nI (cX (gC g c9) j)))) :: ((d.2.1 c9 2), .inl (ct 0, 5, .inl (cZ (gC g c9)))) :: ((d.2.1 c9 3), .inl (ct 0, 5, .inl (scr (cX (gC g c9)) (cZ (gC g c9))))) :: rsC ct d g c9) s.heap := hPW.perm (hkW_C hi)
  have hD : va_D A (((b 0), .inr (2, [.ref (b 1), .ref (b 2), .ref (b 3), .int (nI (gd g)), .ref (b 4)])) :: ((b 1), .inl (ct 1, 5, .inr (.inr (.inr (.inr (rfs (gN g) d.1)))))) :: ((b 2), .inl (ct 2, 6, .inr (.inr (.inr (.inr (rfs (gc g) d.2.1)))))) :: ((b 3), .inl (ct 0, 24, .inl (fun j => nI (gD g j)))) :: ((b 4), .inl (ct 0, 144, .inl d.2.2)) :: ((d.2.1 c9 0), .inr (0, [.ref (d.2.1 c9 1), .ref (d.2.1 c9 2), .ref (d.2.1 c9 3)])) :: ((d.2.1 c9 1), .inl (ct 0, 5, .inl (fun j => nI (cX (gC g c9) j)))) :: ((d.2.1 c9 2), .inl (ct 0, 5, .inl (cZ (gC g c9)))) :: ((d.2.1 c9 3), .inl (ct 0, 5, .inl (scr (cX (gC g c9)) (cZ (gC g c9))))) :: rsC ct d g c9) := hDW.perm (hkW_C hi)
  obtain ⟨hw5, hX1, hX2, hZp⟩ := hCo c9
  refine lv_astore_n (lv' := [(3, .ref (d.2.1 c9 0)), (0, .ref (b 0)), (1, .int (nI c9)), (2, .int y)]) hx hb dX2_ranked_5 rfl hl (by decide) rfl (fun ls hl => ?_)
  refine lv_iload_n hx hb dX2_ranked_6 rfl (lv_at hl 3 rfl) ?_
  refine lv_if_ge (tgt := 20) hx hb dX2_ranked_7 (by decide) (fun hc => ?_) (fun hc => ?_)
  · refine lv_aload_n hx hb dX2_ranked_20 rfl (lv_at hl 0 rfl) ?_
    refine lv_iload_n hx hb dX2_ranked_21 rfl (lv_at hl 3 rfl) ?_
    refine hk_R (rest := []) (va_Run.run (va_runVN (host := RX2) (As := [.int y]) (rest := []) ⟨hx, hb, hml, hown, hts⟩ (c_X0_holderOf l D ct sa (d.2.1 c9 0) (d.2.1 c9 1) (d.2.1 c9 2) (d.2.1 c9 3) (cX (gC g c9)) (cZ (gC g c9)) y) ⟨va_cnB 1 hts gX2_ranked_X0_holderOf_n175 rfl rfl rfl (hE.nw hkN_X2_175) (hts (.initialized RX0) (by decide +kernel)) (by decide +kernel) ⟨Nat.le_of_ble_eq_true rfl, Nat.le_of_ble_eq_true rfl⟩, hts (.instanceMethod yX0_holderOf) (by decide +kernel), hts (.selects RX0 yX0_holderOf yX0_holderOf) (by decide +kernel)⟩ (hk_preV hE (va_recv hE.1 hP (ci := 0) (q0 := 5) rfl rfl) (hP.sub (ws' := [((d.2.1 c9 0), .inr (0, [.ref (d.2.1 c9 1), .ref (d.2.1 c9 2), .ref (d.2.1 c9 3)])), ((d.2.1 c9 1), .inl (ct 0, 5, .inl (fun j => nI (cX (gC g c9) j)))), ((d.2.1 c9 2), .inl (ct 0, 5, .inl (cZ (gC g c9)))), ((d.2.1 c9 3), .inl (ct 0, 5, .inl (scr (cX (gC g c9)) (cZ (gC g c9)))))]) [5, 6, 7, 8] rfl)) rfl rfl hl.1 rfl (lv_room (Nat.le_of_ble_eq_true rfl)) dX2_ranked_22 ⟨Nat.le_of_ble_eq_true rfl, Nat.le_of_ble_eq_true rfl⟩)) ?_
    have hz : opRanked g (nI c9) y = (0, fi (rkd (gC g c9) y) 5 0, g) := by rw [opRanked, if_neg (fun z => z.elim (bd_nI hi (by omega)) (Int32.not_lt.mpr hc)), ix, hic]
    rw [hz]
    refine W.widen (k := 2) (n := 12) (Nat.le_of_ble_eq_true rfl) (Nat.le_of_ble_eq_true rfl) ?_
    exact vx_ret (W.iret (v := fi (rkd (gC g c9) y) 5 0) hx hb hr (fun t ht hW => ⟨rfl, rfl, ⟨d, by rw [ht]; exact hPW, hDW⟩, hS.F ht⟩) hS.2.2 dX2_ranked_25)
  · exact hk_throw (G0 := G0) hx hb hfl (cls := "java/lang/IndexOutOfBoundsException") (text := "rank is below 0") (ik := 102) (is := 173) (ic := 106) (k := 17) hown (by decide +kernel) (hts (.classLink RX2 102 "java/lang/IndexOutOfBoundsException") (by decide +kernel)) (hts (.initialized "java/lang/IndexOutOfBoundsException") (by decide +kernel)) (fun w hw => hts w (List.mem_cons_of_mem _ (List.mem_append_right _ hw))) hk_ng1 hk_ot1 hE hH (List.mem_of_getElem? (i := 17) rfl) (hl.1.trans hml.symm) dX2_ranked_10 dX2_ranked_13 dX2_ranked_14 dX2_ranked_16 dX2_ranked_19 hout (Nat.le_of_ble_eq_true rfl) (Nat.le_of_ble_eq_true rfl) (Nat.le_of_ble_eq_true rfl) (Nat.le_of_ble_eq_true rfl) hlocks (by skip; exact ⟨0, rfl, by rw [opRanked, if_pos (Or.inr (Int32.not_le.mp hc))]; rfl⟩) (Nat.le_of_ble_eq_true rfl) (Nat.le_of_ble_eq_true rfl)

set_option maxHeartbeats 4000000 in
set_option maxRecDepth 100000 in
theorem c_X2_of (l : Launch) (hfl : l.flags = flags0) (D : va_G) (ct : Nat → ClassId) (sa : Nat → Nat) (G0 : Nat) (sz : Nat) (b : Nat → Nat) (d : Ad) (g : Sg) (x : Int32) (y : Int32) (z : Int32) (hI : Inv g) : vx_Met l yX2_of wsX2_of ({ frames := 7, cells := 3, slots := 18, locals := 104 }) (hkPx D ct sa G0 [.ref (b 0), .int x, .int y, .int z] (hkFP D ct b d g G0 sz)) (hkFQ D ct b (va_A (hkW ct b d g) sz) (opOf g x y z)) (hkXC (hkOk ["java/lang/IndexOutOfBoundsException", "java/lang/IllegalArgumentException"] (opOf g x y z).1)) 3 18 (va_A (hkW ct b d g) sz) := by
  refine vx_ofW (cc := cX2_of) (maxL := 6) (ret := (some .int)) (by decide) rfl ?_
  intro p e s m args below meth c s₁ B hml hout hv
  obtain ⟨rfl, hE, hH, hp⟩ := hv
  have hx := B.exec
  have hb := B.bytes
  have hr := B.returns
  have hts := atoms_spec (ws := wsX2_of) B.pre
  have hown : s.vm.findClass RX2 = some m.cls := findClass_of_methodNamed B.named
  have hlocks := B.notSynchronized
  obtain ⟨hsz, hPW, hD0⟩ := hp
  subst hsz
  have hDW := hD0.self (sz := s.heap.size)
  generalize hAe : va_A (hkW ct b d g) s.heap.size = A at hDW ⊢
  have hA : ∀ q : Nat, s.heap.size ≤ q → A q := fun q h => by rw [← hAe]; exact Or.inr h
  have hS : va_S A s.heap s.heap [] := va_S.rf
  obtain ⟨hN5, hd24, hc6, hSt, hDr, hNs, hCs, hCo⟩ := id hI
  have hl := lv_entry ([.ref (b 0), .int x, .int y, .int z]) (n := 6) (Nat.le_of_ble_eq_true rfl)
  rw [lg_entry_eq]
  generalize (lg_sl ([.ref (b 0), .int x, .int y, .int z]) ++ List.replicate (6 - (lg_sl ([.ref (b 0), .int x, .int y, .int z])).length) Slot.unset).toArray = ls at hl ⊢
  have hl : lv_has ls 6 [(0, .ref (b 0)), (1, .int x), (2, .int y), (3, .int z)] := hl
  have hP : va_P D vwCl (((b 0), .inr (2, [.ref (b 1), .ref (b 2), .ref (b 3), .int (nI (gd g)), .ref (b 4)])) :: ((b 1), .inl (ct 1, 5, .inr (.inr (.inr (.inr (rfs (gN g) d.1)))))) :: ((b 2), .inl (ct 2, 6, .inr (.inr (.inr (.inr (rfs (gc g) d.2.1)))))) :: ((b 3), .inl (ct 0, 24, .inl (fun j => nI (gD g j)))) :: ((b 4), .inl (ct 0, 144, .inl d.2.2)) :: (ssW ct d g (List.range (gN g)) ++ ccW ct d g (List.range (gc g)))) s.heap := hPW
  have hD : va_D A (((b 0), .inr (2, [.ref (b 1), .ref (b 2), .ref (b 3), .int (nI (gd g)), .ref (b 4)])) :: ((b 1), .inl (ct 1, 5, .inr (.inr (.inr (.inr (rfs (gN g) d.1)))))) :: ((b 2), .inl (ct 2, 6, .inr (.inr (.inr (.inr (rfs (gc g) d.2.1)))))) :: ((b 3), .inl (ct 0, 24, .inl (fun j => nI (gD g j)))) :: ((b 4), .inl (ct 0, 144, .inl d.2.2)) :: (ssW ct d g (List.range (gN g)) ++ ccW ct d g (List.range (gc g)))) := hDW
  refine lv_aload_n hx hb dX2_of_0 rfl (lv_at hl 0 rfl) ?_
  refine lv_iload_n hx hb dX2_of_1 rfl (lv_at hl 1 rfl) ?_
  refine hk_XR (rest := []) (vx_runV (As := [.int x]) (rest := []) ⟨hx, hb, hml, hown, hts⟩ (c_X2_contestAt l hfl D ct sa G0 (b 0) (b 1) (b 2) (b 3) (b 4) (gc g) (nI (gd g)) d.2.1 x hc6) (cwV 1 hts gX2_of_X2_contestAt rfl rfl rfl (by decide +kernel) ⟨Nat.le_of_ble_eq_true rfl, Nat.le_of_ble_eq_true rfl⟩) (hk_prxV hE hH (va_recv hE.1 hP (ci := 2) (q0 := 0) rfl rfl) (hP.sub (ws' := [((b 0), .inr (2, [.ref (b 1), .ref (b 2), .ref (b 3), .int (nI (gd g)), .ref (b 4)])), ((b 2), .inl (ct 2, 6, .inr (.inr (.inr (.inr (rfs (gc g) d.2.1))))))]) [0, 2] rfl)) rfl rfl hl.1 rfl (lv_room (Nat.le_of_ble_eq_true rfl)) dX2_of_2 ⟨Nat.le_of_ble_eq_true rfl, Nat.le_of_ble_eq_true rfl⟩) (fun E ce q9 H1 ho hF9 hce hcv hcl => ?_) (fun hq => ?_)
  · exact hk_out hout hlocks hF9 (by obtain ⟨rfl, hb9⟩ := ho; exact ⟨0, rfl, by rw [opOf, if_pos (Or.inl hb9)]; rfl⟩) hce hcv hcl (Nat.le_of_ble_eq_true rfl) (Nat.le_of_ble_eq_true rfl)
  obtain ⟨c9, hi, rfl⟩ := bd_of (by omega) hq
  have hic : (nI c9).toNatClampNeg = c9 := nI_clamp (by omega)
  rw [hic]
  have hP : va_P D vwCl (((b 0), .inr (2, [.ref (b 1), .ref (b 2), .ref (b 3), .int (nI (gd g)), .ref (b 4)])) :: ((b 1), .inl (ct 1, 5, .inr (.inr (.inr (.inr (rfs (gN g) d.1)))))) :: ((b 2), .inl (ct 2, 6, .inr (.inr (.inr (.inr (rfs (gc g) d.2.1)))))) :: ((b 3), .inl (ct 0, 24, .inl (fun j => nI (gD g j)))) :: ((b 4), .inl (ct 0, 144, .inl d.2.2)) :: ((d.2.1 c9 0), .inr (0, [.ref (d.2.1 c9 1), .ref (d.2.1 c9 2), .ref (d.2.1 c9 3)])) :: ((d.2.1 c9 1), .inl (ct 0, 5, .inl (fun j => nI (cX (gC g c9) j)))) :: ((d.2.1 c9 2), .inl (ct 0, 5, .inl (cZ (gC g c9)))) :: ((d.2.1 c9 3), .inl (ct 0, 5, .inl (scr (cX (gC g c9)) (cZ (gC g c9))))) :: rsC ct d g c9) s.heap := hPW.perm (hkW_C hi)
  have hD : va_D A (((b 0), .inr (2, [.ref (b 1), .ref (b 2), .ref (b 3), .int (nI (gd g)), .ref (b 4)])) :: ((b 1), .inl (ct 1, 5, .inr (.inr (.inr (.inr (rfs (gN g) d.1)))))) :: ((b 2), .inl (ct 2, 6, .inr (.inr (.inr (.inr (rfs (gc g) d.2.1)))))) :: ((b 3), .inl (ct 0, 24, .inl (fun j => nI (gD g j)))) :: ((b 4), .inl (ct 0, 144, .inl d.2.2)) :: ((d.2.1 c9 0), .inr (0, [.ref (d.2.1 c9 1), .ref (d.2.1 c9 2), .ref (d.2.1 c9 3)])) :: ((d.2.1 c9 1), .inl (ct 0, 5, .inl (fun j => nI (cX (gC g c9) j)))) :: ((d.2.1 c9 2), .inl (ct 0, 5, .inl (cZ (gC g c9)))) :: ((d.2.1 c9 3), .inl (ct 0, 5, .inl (scr (cX (gC g c9)) (cZ (gC g c9))))) :: rsC ct d g c9) := hDW.perm (hkW_C hi)
  obtain ⟨hw5, hX1, hX2, hZp⟩ := hCo c9
  refine lv_astore (lv' := [(4, .ref (d.2.1 c9 0)), (0, .ref (b 0)), (1, .int (nI c9)), (2, .int y), (3, .int z)]) hx hb dX2_of_5 hl (by decide) rfl (fun ls hl => ?_)
  refine lv_aload hx hb dX2_of_7 (lv_at hl 0 rfl) ?_
  refine lv_iload_n hx hb dX2_of_9 rfl (lv_at hl 3 rfl) ?_
  refine hk_XR (rest := []) (vx_runS (As := [.ref (d.2.1 c9 0), .int y]) (rest := []) ⟨hx, hb, hml, hown, hts⟩ (c_X2_entrantTime l hfl D ct sa G0 (d.2.1 c9 0) (d.2.1 c9 1) (d.2.1 c9 2) (d.2.1 c9 3) (cW (gC g c9)) (cX (gC g c9)) y hw5 hX1 (fun j h => (hX2 j h).1)) (va_cwS 2 hts gX2_of_X2_entrantTime rfl rfl rfl (by decide +kernel) ⟨Nat.le_of_ble_eq_true rfl, Nat.le_of_ble_eq_true rfl⟩) (hk_prxS hE hH (hP.sub (ws' := [((d.2.1 c9 0), .inr (0, [.ref (d.2.1 c9 1), .ref (d.2.1 c9 2), .ref (d.2.1 c9 3)])), ((d.2.1 c9 1), .inl (ct 0, 5, .inl (fun j => nI (cX (gC g c9) j))))]) [5, 6] rfl)) rfl rfl hl.1 rfl (lv_room (Nat.le_of_ble_eq_true rfl)) dX2_of_10 ⟨Nat.le_of_ble_eq_true rfl, Nat.le_of_ble_eq_true rfl⟩) (fun E ce q9 H1 ho hF9 hce hcv hcl => ?_) (fun hq => ?_)
  · exact hk_out hout hlocks hF9 (by obtain ⟨rfl, hb9⟩ := ho; exact ⟨0, rfl, by rw [opOf, if_pos (Or.inr (by rw [ix, hic]; exact hb9))]; rfl⟩) hce hcv hcl (Nat.le_of_ble_eq_true rfl) (Nat.le_of_ble_eq_true rfl)
  obtain ⟨j, hj, rfl⟩ := bd_of (by omega) hq
  have hjc : (nI j).toNatClampNeg = j := nI_clamp (by omega)
  rw [hjc]
  obtain ⟨hXl, hXu⟩ := hX1 j hj
  refine lv_istore (lv' := [(5, .int (nI (cX (gC g c9) j))), (4, .ref (d.2.1 c9 0)), (0, .ref (b 0)), (1, .int (nI c9)), (2, .int (nI j)), (3, .int z)]) hx hb dX2_of_13 hl (by decide) rfl (fun ls hl => ?_)
  refine lv_iload_n hx hb dX2_of_15 rfl (lv_at hl 5 rfl) ?_
  refine lv_if_lt (tgt := 24) hx hb dX2_of_16 (by decide) (fun h1 => ?_) (fun h1 => ?_)
  · exact hk_throw (G0 := G0) hx hb hfl (cls := "java/lang/IllegalArgumentException") (text := "what is out of range") (ik := 44) (is := 168) (ic := 48) (k := 15) hown (by decide +kernel) (hts (.classLink RX2 44 "java/lang/IllegalArgumentException") (by decide +kernel)) (hts (.initialized "java/lang/IllegalArgumentException") (by decide +kernel)) (fun w hw => hts w (List.mem_cons_of_mem _ (List.mem_append_left _ (List.mem_append_right _ hw)))) hk_ng2 hk_ot2 hE hH (List.mem_of_getElem? (i := 15) rfl) (hl.1.trans hml.symm) dX2_of_24 dX2_of_27 dX2_of_28 dX2_of_30 dX2_of_33 hout (Nat.le_of_ble_eq_true rfl) (Nat.le_of_ble_eq_true rfl) (Nat.le_of_ble_eq_true rfl) (Nat.le_of_ble_eq_true rfl) hlocks ⟨1, rfl, by rw [opOf, if_neg (fun z => z.elim (bd_nI hi (by omega)) (by rw [ix, hic]; exact bd_nI hj (by omega))), if_pos (Or.inl h1)]; rfl⟩ (Nat.le_of_ble_eq_true rfl) (Nat.le_of_ble_eq_true rfl)
  · refine lv_iload_n hx hb dX2_of_19 rfl (lv_at hl 5 rfl) ?_
    refine lv_iconst (v := nI 3) hx hb dX2_of_20 (by decide) ?_
    refine lv_icmp_le (tgt := 34) hx hb dX2_of_21 (by decide) (fun h2 => ?_) (fun h2 => ?_)
    · refine lv_iload_n hx hb dX2_of_34 rfl (lv_at hl 5 rfl) ?_
      refine lv_if_ne (tgt := 41) hx hb dX2_of_35 (by decide) (fun h3 => ?_) (fun h3 => ?_)
      · refine lv_aload hx hb dX2_of_41 (lv_at hl 1 rfl) ?_
        refine lv_iload_n hx hb dX2_of_43 rfl (lv_at hl 4 rfl) ?_
        refine hk_R (rest := []) (va_Run.run (va_runVN (host := RX2) (As := [.int (nI j)]) (rest := []) ⟨hx, hb, hml, hown, hts⟩ (c_X0_hasResult l D ct sa (d.2.1 c9 0) (d.2.1 c9 1) (d.2.1 c9 2) (d.2.1 c9 3) (cX (gC g c9)) (cZ (gC g c9)) j (by omega)) ⟨va_cnB 1 hts gX2_of_X0_hasResult_n156 rfl rfl rfl (hE.nw hkN_X2_156) (hts (.initialized RX0) (by decide +kernel)) (by decide +kernel) ⟨Nat.le_of_ble_eq_true rfl, Nat.le_of_ble_eq_true rfl⟩, hts (.instanceMethod yX0_hasResult) (by decide +kernel), hts (.selects RX0 yX0_hasResult yX0_hasResult) (by decide +kernel)⟩ (hk_preV hE (va_recv hE.1 hP (ci := 0) (q0 := 5) rfl rfl) (hP.sub (ws' := [((d.2.1 c9 0), .inr (0, [.ref (d.2.1 c9 1), .ref (d.2.1 c9 2), .ref (d.2.1 c9 3)])), ((d.2.1 c9 1), .inl (ct 0, 5, .inl (fun j => nI (cX (gC g c9) j)))), ((d.2.1 c9 2), .inl (ct 0, 5, .inl (cZ (gC g c9)))), ((d.2.1 c9 3), .inl (ct 0, 5, .inl (scr (cX (gC g c9)) (cZ (gC g c9)))))]) [5, 6, 7, 8] rfl)) rfl rfl hl.1 rfl (lv_room (Nat.le_of_ble_eq_true rfl)) dX2_of_44 ⟨Nat.le_of_ble_eq_true rfl, Nat.le_of_ble_eq_true rfl⟩)) ?_
        by_cases hz9 : 0 < cZ (gC g c9) j
        · refine hk_top (y := 1) (if_pos hz9) ?_
          refine lv_if_eq (tgt := 60) hx hb dX2_of_47 (by decide) (fun h0 => ?_) (fun h0 => ?_)
          · exact absurd h0 (by decide)
          · refine lv_aload hx hb dX2_of_50 (lv_at hl 1 rfl) ?_
            refine lv_iload_n hx hb dX2_of_52 rfl (lv_at hl 4 rfl) ?_
            refine lv_iload_n hx hb dX2_of_53 rfl (lv_at hl 5 rfl) ?_
            refine hk_R (rest := []) (va_Run.run (va_runVN (host := RX2) (As := [.int (nI j), .int z]) (rest := []) ⟨hx, hb, hml, hown, hts⟩ (c_X0_told l D ct sa (d.2.1 c9 0) (d.2.1 c9 1) (d.2.1 c9 2) (d.2.1 c9 3) (cX (gC g c9)) (cZ (gC g c9)) j z (by omega) (hk_13 h1 h2 h3)) ⟨va_cnB 2 hts gX2_of_X0_told_n170 rfl rfl rfl (hE.nw hkN_X2_170) (hts (.initialized RX0) (by decide +kernel)) (by decide +kernel) ⟨Nat.le_of_ble_eq_true rfl, Nat.le_of_ble_eq_true rfl⟩, hts (.instanceMethod yX0_told) (by decide +kernel), hts (.selects RX0 yX0_told yX0_told) (by decide +kernel)⟩ (hk_preV hE (va_recv hE.1 hP (ci := 0) (q0 := 5) rfl rfl) (hP.sub (ws' := [((d.2.1 c9 0), .inr (0, [.ref (d.2.1 c9 1), .ref (d.2.1 c9 2), .ref (d.2.1 c9 3)])), ((d.2.1 c9 1), .inl (ct 0, 5, .inl (fun j => nI (cX (gC g c9) j)))), ((d.2.1 c9 2), .inl (ct 0, 5, .inl (cZ (gC g c9)))), ((d.2.1 c9 3), .inl (ct 0, 5, .inl (scr (cX (gC g c9)) (cZ (gC g c9)))))]) [5, 6, 7, 8] rfl)) rfl rfl hl.1 rfl (lv_room (Nat.le_of_ble_eq_true rfl)) dX2_of_54 ⟨Nat.le_of_ble_eq_true rfl, Nat.le_of_ble_eq_true rfl⟩)) ?_
            refine lv_goto (tgt := 61) hx hb dX2_of_57 (by decide) ?_
            have hz : opOf g (nI c9) (nI j) z = (0, hkTo (cX (gC g c9)) (cZ (gC g c9)) j z, g) := by rw [opOf, if_neg (fun z => z.elim (bd_nI hi (by omega)) (by rw [ix, hic]; exact bd_nI hj (by omega))), if_neg (fun q => q.elim h1 (fun q => Int32.not_le.mpr q h2)), if_neg h3, if_pos (by rw [ix, ix, hic, hjc]; exact hz9), ix, ix, hic, hjc]
            rw [hz]
            refine W.widen (k := 3) (n := 18) (Nat.le_of_ble_eq_true rfl) (Nat.le_of_ble_eq_true rfl) ?_
            exact vx_ret (W.iret (v := hkTo (cX (gC g c9)) (cZ (gC g c9)) j z) hx hb hr (fun t ht hW => ⟨rfl, rfl, ⟨d, by rw [ht]; exact hPW, hDW⟩, hS.F ht⟩) hS.2.2 dX2_of_61)
        · refine hk_top (y := 0) (if_neg hz9) ?_
          refine lv_if_eq (tgt := 60) hx hb dX2_of_47 (by decide) (fun h0 => ?_) (fun h0 => ?_)
          · refine lv_iconst (v := (-1)) hx hb dX2_of_60 (by decide) ?_
            have hz : opOf g (nI c9) (nI j) z = (0, (-1), g) := by rw [opOf, if_neg (fun z => z.elim (bd_nI hi (by omega)) (by rw [ix, hic]; exact bd_nI hj (by omega))), if_neg (fun q => q.elim h1 (fun q => Int32.not_le.mpr q h2)), if_neg h3, if_neg (by rw [ix, ix, hic, hjc]; exact hz9)]
            rw [hz]
            refine W.widen (k := 3) (n := 18) (Nat.le_of_ble_eq_true rfl) (Nat.le_of_ble_eq_true rfl) ?_
            exact vx_ret (W.iret (v := (-1)) hx hb hr (fun t ht hW => ⟨rfl, rfl, ⟨d, by rw [ht]; exact hPW, hDW⟩, hS.F ht⟩) hS.2.2 dX2_of_61)
          · exact absurd rfl h0
      · refine lv_iload hx hb dX2_of_38 (lv_at hl 0 rfl) ?_
        have hz : opOf g (nI c9) (nI j) z = (0, nI (cX (gC g c9) j), g) := by rw [opOf, if_neg (fun z => z.elim (bd_nI hi (by omega)) (by rw [ix, hic]; exact bd_nI hj (by omega))), if_neg (fun q => q.elim h1 (fun q => Int32.not_le.mpr q h2)), if_pos h3, ix, ix, hic, hjc]
        rw [hz]
        refine W.widen (k := 3) (n := 18) (Nat.le_of_ble_eq_true rfl) (Nat.le_of_ble_eq_true rfl) ?_
        exact vx_ret (W.iret (v := nI (cX (gC g c9) j)) hx hb hr (fun t ht hW => ⟨rfl, rfl, ⟨d, by rw [ht]; exact hPW, hDW⟩, hS.F ht⟩) hS.2.2 dX2_of_40)
    · exact hk_throw (G0 := G0) hx hb hfl (cls := "java/lang/IllegalArgumentException") (text := "what is out of range") (ik := 44) (is := 168) (ic := 48) (k := 15) hown (by decide +kernel) (hts (.classLink RX2 44 "java/lang/IllegalArgumentException") (by decide +kernel)) (hts (.initialized "java/lang/IllegalArgumentException") (by decide +kernel)) (fun w hw => hts w (List.mem_cons_of_mem _ (List.mem_append_left _ (List.mem_append_right _ hw)))) hk_ng2 hk_ot2 hE hH (List.mem_of_getElem? (i := 15) rfl) (hl.1.trans hml.symm) dX2_of_24 dX2_of_27 dX2_of_28 dX2_of_30 dX2_of_33 hout (Nat.le_of_ble_eq_true rfl) (Nat.le_of_ble_eq_true rfl) (Nat.le_of_ble_eq_true rfl) (Nat.le_of_ble_eq_true rfl) hlocks ⟨1, rfl, by rw [opOf, if_neg (fun z => z.elim (bd_nI hi (by omega)) (by rw [ix, hic]; exact bd_nI hj (by omega))), if_pos (Or.inr (Int32.not_le.mp h2))]; rfl⟩ (Nat.le_of_ble_eq_true rfl) (Nat.le_of_ble_eq_true rfl)

set_option maxHeartbeats 4000000 in
set_option maxRecDepth 100000 in
theorem c_X2_result (l : Launch) (hfl : l.flags = flags0) (D : va_G) (ct : Nat → ClassId) (sa : Nat → Nat) (G0 : Nat) (sz : Nat) (b : Nat → Nat) (d : Ad) (g : Sg) (x : Int32) (y : Int32) (z : Int32) (hI : Inv g) : vx_Met l yX2_result wsX2_result ({ frames := 7, cells := 3, slots := 18, locals := 104 }) (hkPx D ct sa G0 [.ref (b 0), .int x, .int y, .int z] (hkFP D ct b d g G0 sz)) (hkFQ D ct b (va_A (hkW ct b d g) sz) (opResult g x y z)) (hkXC (hkOk ["java/lang/IndexOutOfBoundsException", "java/lang/IllegalArgumentException", "java/lang/IllegalStateException"] (opResult g x y z).1)) 3 18 (va_A (hkW ct b d g) sz) := by
  refine vx_ofW (cc := cX2_result) (maxL := 7) (ret := (some .int)) (by decide) rfl ?_
  intro p e s m args below meth c s₁ B hml hout hv
  obtain ⟨rfl, hE, hH, hp⟩ := hv
  have hx := B.exec
  have hb := B.bytes
  have hr := B.returns
  have hts := atoms_spec (ws := wsX2_result) B.pre
  have hown : s.vm.findClass RX2 = some m.cls := findClass_of_methodNamed B.named
  have hlocks := B.notSynchronized
  have hin0 : ∀ w ∈ wsX00, w ∈ wsX2_result := by decide +kernel
  obtain ⟨hsz, hPW, hD0⟩ := hp
  subst hsz
  have hDW := hD0.self (sz := s.heap.size)
  generalize hAe : va_A (hkW ct b d g) s.heap.size = A at hDW ⊢
  have hA : ∀ q : Nat, s.heap.size ≤ q → A q := fun q h => by rw [← hAe]; exact Or.inr h
  have hS : va_S A s.heap s.heap [] := va_S.rf
  obtain ⟨hN5, hd24, hc6, hSt, hDr, hNs, hCs, hCo⟩ := id hI
  have hl := lv_entry ([.ref (b 0), .int x, .int y, .int z]) (n := 7) (Nat.le_of_ble_eq_true rfl)
  rw [lg_entry_eq]
  generalize (lg_sl ([.ref (b 0), .int x, .int y, .int z]) ++ List.replicate (7 - (lg_sl ([.ref (b 0), .int x, .int y, .int z])).length) Slot.unset).toArray = ls at hl ⊢
  have hl : lv_has ls 7 [(0, .ref (b 0)), (1, .int x), (2, .int y), (3, .int z)] := hl
  have hP : va_P D vwCl (((b 0), .inr (2, [.ref (b 1), .ref (b 2), .ref (b 3), .int (nI (gd g)), .ref (b 4)])) :: ((b 1), .inl (ct 1, 5, .inr (.inr (.inr (.inr (rfs (gN g) d.1)))))) :: ((b 2), .inl (ct 2, 6, .inr (.inr (.inr (.inr (rfs (gc g) d.2.1)))))) :: ((b 3), .inl (ct 0, 24, .inl (fun j => nI (gD g j)))) :: ((b 4), .inl (ct 0, 144, .inl d.2.2)) :: (ssW ct d g (List.range (gN g)) ++ ccW ct d g (List.range (gc g)))) s.heap := hPW
  have hD : va_D A (((b 0), .inr (2, [.ref (b 1), .ref (b 2), .ref (b 3), .int (nI (gd g)), .ref (b 4)])) :: ((b 1), .inl (ct 1, 5, .inr (.inr (.inr (.inr (rfs (gN g) d.1)))))) :: ((b 2), .inl (ct 2, 6, .inr (.inr (.inr (.inr (rfs (gc g) d.2.1)))))) :: ((b 3), .inl (ct 0, 24, .inl (fun j => nI (gD g j)))) :: ((b 4), .inl (ct 0, 144, .inl d.2.2)) :: (ssW ct d g (List.range (gN g)) ++ ccW ct d g (List.range (gc g)))) := hDW
  refine lv_aload_n hx hb dX2_result_0 rfl (lv_at hl 0 rfl) ?_
  refine lv_iload_n hx hb dX2_result_1 rfl (lv_at hl 1 rfl) ?_
  refine hk_XR (rest := []) (vx_runV (As := [.int x]) (rest := []) ⟨hx, hb, hml, hown, hts⟩ (c_X2_contestAt l hfl D ct sa G0 (b 0) (b 1) (b 2) (b 3) (b 4) (gc g) (nI (gd g)) d.2.1 x hc6) (cwV 1 hts gX2_result_X2_contestAt rfl rfl rfl (by decide +kernel) ⟨Nat.le_of_ble_eq_true rfl, Nat.le_of_ble_eq_true rfl⟩) (hk_prxV hE hH (va_recv hE.1 hP (ci := 2) (q0 := 0) rfl rfl) (hP.sub (ws' := [((b 0), .inr (2, [.ref (b 1), .ref (b 2), .ref (b 3), .int (nI (gd g)), .ref (b 4)])), ((b 2), .inl (ct 2, 6, .inr (.inr (.inr (.inr (rfs (gc g) d.2.1))))))]) [0, 2] rfl)) rfl rfl hl.1 rfl (lv_room (Nat.le_of_ble_eq_true rfl)) dX2_result_2 ⟨Nat.le_of_ble_eq_true rfl, Nat.le_of_ble_eq_true rfl⟩) (fun E ce q9 H1 ho hF9 hce hcv hcl => ?_) (fun hq => ?_)
  · exact hk_out hout hlocks hF9 (by obtain ⟨rfl, hb9⟩ := ho; exact ⟨0, rfl, by rw [opResult, if_pos (Or.inl hb9)]; rfl⟩) hce hcv hcl (Nat.le_of_ble_eq_true rfl) (Nat.le_of_ble_eq_true rfl)
  obtain ⟨c9, hi, rfl⟩ := bd_of (by omega) hq
  have hic : (nI c9).toNatClampNeg = c9 := nI_clamp (by omega)
  rw [hic]
  have hP : va_P D vwCl (((b 0), .inr (2, [.ref (b 1), .ref (b 2), .ref (b 3), .int (nI (gd g)), .ref (b 4)])) :: ((b 1), .inl (ct 1, 5, .inr (.inr (.inr (.inr (rfs (gN g) d.1)))))) :: ((b 2), .inl (ct 2, 6, .inr (.inr (.inr (.inr (rfs (gc g) d.2.1)))))) :: ((b 3), .inl (ct 0, 24, .inl (fun j => nI (gD g j)))) :: ((b 4), .inl (ct 0, 144, .inl d.2.2)) :: ((d.2.1 c9 0), .inr (0, [.ref (d.2.1 c9 1), .ref (d.2.1 c9 2), .ref (d.2.1 c9 3)])) :: ((d.2.1 c9 1), .inl (ct 0, 5, .inl (fun j => nI (cX (gC g c9) j)))) :: ((d.2.1 c9 2), .inl (ct 0, 5, .inl (cZ (gC g c9)))) :: ((d.2.1 c9 3), .inl (ct 0, 5, .inl (scr (cX (gC g c9)) (cZ (gC g c9))))) :: rsC ct d g c9) s.heap := hPW.perm (hkW_C hi)
  have hD : va_D A (((b 0), .inr (2, [.ref (b 1), .ref (b 2), .ref (b 3), .int (nI (gd g)), .ref (b 4)])) :: ((b 1), .inl (ct 1, 5, .inr (.inr (.inr (.inr (rfs (gN g) d.1)))))) :: ((b 2), .inl (ct 2, 6, .inr (.inr (.inr (.inr (rfs (gc g) d.2.1)))))) :: ((b 3), .inl (ct 0, 24, .inl (fun j => nI (gD g j)))) :: ((b 4), .inl (ct 0, 144, .inl d.2.2)) :: ((d.2.1 c9 0), .inr (0, [.ref (d.2.1 c9 1), .ref (d.2.1 c9 2), .ref (d.2.1 c9 3)])) :: ((d.2.1 c9 1), .inl (ct 0, 5, .inl (fun j => nI (cX (gC g c9) j)))) :: ((d.2.1 c9 2), .inl (ct 0, 5, .inl (cZ (gC g c9)))) :: ((d.2.1 c9 3), .inl (ct 0, 5, .inl (scr (cX (gC g c9)) (cZ (gC g c9))))) :: rsC ct d g c9) := hDW.perm (hkW_C hi)
  obtain ⟨hw5, hX1, hX2, hZp⟩ := hCo c9
  refine lv_astore (lv' := [(4, .ref (d.2.1 c9 0)), (0, .ref (b 0)), (1, .int (nI c9)), (2, .int y), (3, .int z)]) hx hb dX2_result_5 hl (by decide) rfl (fun ls hl => ?_)
  refine lv_aload hx hb dX2_result_7 (lv_at hl 0 rfl) ?_
  refine lv_iload_n hx hb dX2_result_9 rfl (lv_at hl 3 rfl) ?_
  refine hk_XR (rest := []) (vx_runS (As := [.ref (d.2.1 c9 0), .int y]) (rest := []) ⟨hx, hb, hml, hown, hts⟩ (c_X2_entrantTime l hfl D ct sa G0 (d.2.1 c9 0) (d.2.1 c9 1) (d.2.1 c9 2) (d.2.1 c9 3) (cW (gC g c9)) (cX (gC g c9)) y hw5 hX1 (fun j h => (hX2 j h).1)) (va_cwS 2 hts gX2_result_X2_entrantTime rfl rfl rfl (by decide +kernel) ⟨Nat.le_of_ble_eq_true rfl, Nat.le_of_ble_eq_true rfl⟩) (hk_prxS hE hH (hP.sub (ws' := [((d.2.1 c9 0), .inr (0, [.ref (d.2.1 c9 1), .ref (d.2.1 c9 2), .ref (d.2.1 c9 3)])), ((d.2.1 c9 1), .inl (ct 0, 5, .inl (fun j => nI (cX (gC g c9) j))))]) [5, 6] rfl)) rfl rfl hl.1 rfl (lv_room (Nat.le_of_ble_eq_true rfl)) dX2_result_10 ⟨Nat.le_of_ble_eq_true rfl, Nat.le_of_ble_eq_true rfl⟩) (fun E ce q9 H1 ho hF9 hce hcv hcl => ?_) (fun hq => ?_)
  · exact hk_out hout hlocks hF9 (by obtain ⟨rfl, hb9⟩ := ho; exact ⟨0, rfl, by rw [opResult, if_pos (Or.inr (by rw [ix, hic]; exact hb9))]; rfl⟩) hce hcv hcl (Nat.le_of_ble_eq_true rfl) (Nat.le_of_ble_eq_true rfl)
  obtain ⟨j, hj, rfl⟩ := bd_of (by omega) hq
  have hjc : (nI j).toNatClampNeg = j := nI_clamp (by omega)
  rw [hjc]
  obtain ⟨hXl, hXu⟩ := hX1 j hj
  refine lv_istore (lv' := [(5, .int (nI (cX (gC g c9) j))), (4, .ref (d.2.1 c9 0)), (0, .ref (b 0)), (1, .int (nI c9)), (2, .int (nI j)), (3, .int z)]) hx hb dX2_result_13 hl (by decide) rfl (fun ls hl => ?_)
  refine lv_iload_n hx hb dX2_result_15 rfl (lv_at hl 5 rfl) ?_
  refine lv_iconst (v := nI 1) hx hb dX2_result_16 (by decide) ?_
  refine lv_icmp_lt (tgt := 26) hx hb dX2_result_17 (by decide) (fun h1 => ?_) (fun h1 => ?_)
  · exact hk_throw (G0 := G0) hx hb hfl (cls := "java/lang/IllegalArgumentException") (text := "ticks is out of range") (ik := 44) (is := 154) (ic := 48) (k := 13) hown (by decide +kernel) (hts (.classLink RX2 44 "java/lang/IllegalArgumentException") (by decide +kernel)) (hts (.initialized "java/lang/IllegalArgumentException") (by decide +kernel)) (fun w hw => hts w (List.mem_cons_of_mem _ (List.mem_append_left _ (List.mem_append_left _ (List.mem_append_right _ hw))))) hk_ng2 hk_ot2 hE hH (List.mem_of_getElem? (i := 13) rfl) (hl.1.trans hml.symm) dX2_result_26 dX2_result_29 dX2_result_30 dX2_result_32 dX2_result_35 hout (Nat.le_of_ble_eq_true rfl) (Nat.le_of_ble_eq_true rfl) (Nat.le_of_ble_eq_true rfl) (Nat.le_of_ble_eq_true rfl) hlocks ⟨1, rfl, by rw [opResult, if_neg (fun z => z.elim (bd_nI hi (by omega)) (by rw [ix, hic]; exact bd_nI hj (by omega))), if_pos (Or.inl h1)]; rfl⟩ (Nat.le_of_ble_eq_true rfl) (Nat.le_of_ble_eq_true rfl)
  · refine lv_iload_n hx hb dX2_result_20 rfl (lv_at hl 5 rfl) ?_
    refine lv_ldc (v := nI 99999) hx hb hown (hts (.constant RX2 153 99999) (by decide +kernel)) dX2_result_21 ?_
    refine lv_icmp_le (tgt := 36) hx hb dX2_result_23 (by decide) (fun h2 => ?_) (fun h2 => ?_)
    · refine lv_aload hx hb dX2_result_36 (lv_at hl 1 rfl) ?_
      refine lv_iload_n hx hb dX2_result_38 rfl (lv_at hl 4 rfl) ?_
      refine hk_R (rest := []) (va_Run.run (va_runVN (host := RX2) (As := [.int (nI j)]) (rest := []) ⟨hx, hb, hml, hown, hts⟩ (c_X0_hasResult l D ct sa (d.2.1 c9 0) (d.2.1 c9 1) (d.2.1 c9 2) (d.2.1 c9 3) (cX (gC g c9)) (cZ (gC g c9)) j (by omega)) ⟨va_cnB 1 hts gX2_result_X0_hasResult_n156 rfl rfl rfl (hE.nw hkN_X2_156) (hts (.initialized RX0) (by decide +kernel)) (by decide +kernel) ⟨Nat.le_of_ble_eq_true rfl, Nat.le_of_ble_eq_true rfl⟩, hts (.instanceMethod yX0_hasResult) (by decide +kernel), hts (.selects RX0 yX0_hasResult yX0_hasResult) (by decide +kernel)⟩ (hk_preV hE (va_recv hE.1 hP (ci := 0) (q0 := 5) rfl rfl) (hP.sub (ws' := [((d.2.1 c9 0), .inr (0, [.ref (d.2.1 c9 1), .ref (d.2.1 c9 2), .ref (d.2.1 c9 3)])), ((d.2.1 c9 1), .inl (ct 0, 5, .inl (fun j => nI (cX (gC g c9) j)))), ((d.2.1 c9 2), .inl (ct 0, 5, .inl (cZ (gC g c9)))), ((d.2.1 c9 3), .inl (ct 0, 5, .inl (scr (cX (gC g c9)) (cZ (gC g c9)))))]) [5, 6, 7, 8] rfl)) rfl rfl hl.1 rfl (lv_room (Nat.le_of_ble_eq_true rfl)) dX2_result_39 ⟨Nat.le_of_ble_eq_true rfl, Nat.le_of_ble_eq_true rfl⟩)) ?_
      by_cases hz9 : 0 < cZ (gC g c9) j
      · refine hk_top (y := 1) (if_pos hz9) ?_
        refine lv_if_eq (tgt := 55) hx hb dX2_result_42 (by decide) (fun h0 => ?_) (fun h0 => ?_)
        · exact absurd h0 (by decide)
        · exact hk_throw (G0 := G0) hx hb hfl (cls := "java/lang/IllegalStateException") (text := "it has a result") (ik := 33) (is := 160) (ic := 37) (k := 14) hown (by decide +kernel) (hts (.classLink RX2 33 "java/lang/IllegalStateException") (by decide +kernel)) (hts (.initialized "java/lang/IllegalStateException") (by decide +kernel)) (fun w hw => hts w (List.mem_cons_of_mem _ (List.mem_append_left _ (List.mem_append_right _ hw)))) hk_ng0 hk_ot0 hE hH (List.mem_of_getElem? (i := 14) rfl) (hl.1.trans hml.symm) dX2_result_45 dX2_result_48 dX2_result_49 dX2_result_51 dX2_result_54 hout (Nat.le_of_ble_eq_true rfl) (Nat.le_of_ble_eq_true rfl) (Nat.le_of_ble_eq_true rfl) (Nat.le_of_ble_eq_true rfl) hlocks ⟨2, rfl, by rw [opResult, if_neg (fun z => z.elim (bd_nI hi (by omega)) (by rw [ix, hic]; exact bd_nI hj (by omega))), if_neg (fun q => q.elim h1 (fun q => q h2)), if_pos (by rw [ix, ix, hic, hjc]; exact hz9)]; rfl⟩ (Nat.le_of_ble_eq_true rfl) (Nat.le_of_ble_eq_true rfl)
      · refine hk_top (y := 0) (if_neg hz9) ?_
        refine lv_if_eq (tgt := 55) hx hb dX2_result_42 (by decide) (fun h0 => ?_) (fun h0 => ?_)
        · refine lv_iload hx hb dX2_result_55 (lv_at hl 0 rfl) ?_
          refine hk_ne0N (tgt := 64) hx hb (by omega) dX2_result_57 (by decide) (fun h4 => ?_) (fun h4 => ?_)
          · refine lv_sipush (v := nI 1000) hx hb dX2_result_64 (by decide) ?_
            refine lv_iload_n hx hb dX2_result_67 rfl (lv_at hl 5 rfl) ?_
            refine lv_imul hx hb dX2_result_68 ?_
            refine lv_iload hx hb dX2_result_69 (lv_at hl 0 rfl) ?_
            refine lv_idiv hx hb dX2_result_71 (nI_ne0 (by omega) (by omega)) ?_
            refine lv_istore (lv' := [(6, .int (((nI 1000) * z) / (nI (cX (gC g c9) j)))), (5, .int (nI (cX (gC g c9) j))), (4, .ref (d.2.1 c9 0)), (0, .ref (b 0)), (1, .int (nI c9)), (2, .int (nI j)), (3, .int z)]) hx hb dX2_result_72 hl (by decide) rfl (fun ls hl => ?_)
            refine lv_aload hx hb dX2_result_74 (lv_at hl 2 rfl) ?_
            refine va_getN (D := D) (host := RX2) (ci := 0) (v := .ref (d.2.1 c9 2)) (C := RX0) (T := TX0) (N := 3) hx hb hts hin0 hown hE.1 hP 5 rfl rfl 1 (by decide) (hE.use hkN_X2_162) (fun _ h9 => h9) rfl dX2_result_76 ?_
            refine lv_iload_n hx hb dX2_result_79 rfl (lv_at hl 5 rfl) ?_
            refine lv_iload_n hx hb dX2_result_80 rfl (lv_at hl 6 rfl) ?_
            refine hk_M (rest := []) (va_Run.run (va_runS (As := [.ref (d.2.1 c9 2), .int (nI j), .int z]) (rest := []) ⟨hx, hb, hml, hown, hts⟩ (c_X2_put l D ct sa (d.2.1 c9 2) 5 (cZ (gC g c9)) j z (by decide) (by omega)) (va_cwS 3 hts gX2_result_X2_put rfl rfl rfl (by decide +kernel) ⟨Nat.le_of_ble_eq_true rfl, Nat.le_of_ble_eq_true rfl⟩) (hk_preS hE ⟨hP.sub (ws' := [((d.2.1 c9 2), .inl (ct 0, 5, .inl (cZ (gC g c9))))]) [7] rfl, (hD.sub (ws' := [((d.2.1 c9 2), .inl (ct 0, 5, .inl (cZ (gC g c9))))]) [7] (by decide) rfl).weaken (fun _ _ _ _ => trivial)⟩) rfl rfl hl.1 rfl (lv_room (Nat.le_of_ble_eq_true rfl)) dX2_result_81 ⟨Nat.le_of_ble_eq_true rfl, Nat.le_of_ble_eq_true rfl⟩)) hP hD hS [7] (wc := [((d.2.1 c9 2), .inl (ct 0, 5, .inl (cZ (gC g c9))))]) rfl rfl rfl (fun H locs hP hD hS => ?_)
            have hP : va_P D vwCl (((b 0), .inr (2, [.ref (b 1), .ref (b 2), .ref (b 3), .int (nI (gd g)), .ref (b 4)])) :: ((b 1), .inl (ct 1, 5, .inr (.inr (.inr (.inr (rfs (gN g) d.1)))))) :: ((b 2), .inl (ct 2, 6, .inr (.inr (.inr (.inr (rfs (gc g) d.2.1)))))) :: ((b 3), .inl (ct 0, 24, .inl (fun j => nI (gD g j)))) :: ((b 4), .inl (ct 0, 144, .inl d.2.2)) :: ((d.2.1 c9 0), .inr (0, [.ref (d.2.1 c9 1), .ref (d.2.1 c9 2), .ref (d.2.1 c9 3)])) :: ((d.2.1 c9 1), .inl (ct 0, 5, .inl (fun j => nI (cX (gC g c9) j)))) :: ((d.2.1 c9 2), .inl (ct 0, 5, .inl (upd (cZ (gC g c9)) j z))) :: ((d.2.1 c9 3), .inl (ct 0, 5, .inl (scr (cX (gC g c9)) (cZ (gC g c9))))) :: rsC ct d g c9) H := hP
            have hD : va_D A (((b 0), .inr (2, [.ref (b 1), .ref (b 2), .ref (b 3), .int (nI (gd g)), .ref (b 4)])) :: ((b 1), .inl (ct 1, 5, .inr (.inr (.inr (.inr (rfs (gN g) d.1)))))) :: ((b 2), .inl (ct 2, 6, .inr (.inr (.inr (.inr (rfs (gc g) d.2.1)))))) :: ((b 3), .inl (ct 0, 24, .inl (fun j => nI (gD g j)))) :: ((b 4), .inl (ct 0, 144, .inl d.2.2)) :: ((d.2.1 c9 0), .inr (0, [.ref (d.2.1 c9 1), .ref (d.2.1 c9 2), .ref (d.2.1 c9 3)])) :: ((d.2.1 c9 1), .inl (ct 0, 5, .inl (fun j => nI (cX (gC g c9) j)))) :: ((d.2.1 c9 2), .inl (ct 0, 5, .inl (upd (cZ (gC g c9)) j z))) :: ((d.2.1 c9 3), .inl (ct 0, 5, .inl (scr (cX (gC g c9)) (cZ (gC g c9))))) :: rsC ct d g c9) := hD
            refine lv_aload hx hb dX2_result_84 (lv_at hl 2 rfl) ?_
            refine va_getN (D := D) (host := RX2) (ci := 0) (v := .ref (d.2.1 c9 3)) (C := RX0) (T := TX0) (N := 3) hx hb hts hin0 hown hE.1 hP 5 rfl rfl 2 (by decide) (hE.use hkN_X2_165) (fun _ h9 => h9) rfl dX2_result_86 ?_
            refine lv_iload_n hx hb dX2_result_89 rfl (lv_at hl 5 rfl) ?_
            refine lv_iload hx hb dX2_result_90 (lv_at hl 0 rfl) ?_
            refine hk_M (rest := []) (va_Run.run (va_runS (As := [.ref (d.2.1 c9 3), .int (nI j), .int (((nI 1000) * z) / (nI (cX (gC g c9) j)))]) (rest := []) ⟨hx, hb, hml, hown, hts⟩ (c_X2_put l D ct sa (d.2.1 c9 3) 5 (scr (cX (gC g c9)) (cZ (gC g c9))) j (nI 1000 * z / nI (cX (gC g c9) j)) (by decide) (by omega)) (va_cwS 3 hts gX2_result_X2_put rfl rfl rfl (by decide +kernel) ⟨Nat.le_of_ble_eq_true rfl, Nat.le_of_ble_eq_true rfl⟩) (hk_preS hE ⟨hP.sub (ws' := [((d.2.1 c9 3), .inl (ct 0, 5, .inl (scr (cX (gC g c9)) (cZ (gC g c9)))))]) [8] rfl, (hD.sub (ws' := [((d.2.1 c9 3), .inl (ct 0, 5, .inl (scr (cX (gC g c9)) (cZ (gC g c9)))))]) [8] (by decide) rfl).weaken (fun _ _ _ _ => trivial)⟩) rfl rfl hl.1 rfl (lv_room (Nat.le_of_ble_eq_true rfl)) dX2_result_92 ⟨Nat.le_of_ble_eq_true rfl, Nat.le_of_ble_eq_true rfl⟩)) hP hD hS [8] (wc := [((d.2.1 c9 3), .inl (ct 0, 5, .inl (scr (cX (gC g c9)) (cZ (gC g c9)))))]) rfl rfl rfl (fun H locs hP hD hS => ?_)
            have hP : va_P D vwCl (((b 0), .inr (2, [.ref (b 1), .ref (b 2), .ref (b 3), .int (nI (gd g)), .ref (b 4)])) :: ((b 1), .inl (ct 1, 5, .inr (.inr (.inr (.inr (rfs (gN g) d.1)))))) :: ((b 2), .inl (ct 2, 6, .inr (.inr (.inr (.inr (rfs (gc g) d.2.1)))))) :: ((b 3), .inl (ct 0, 24, .inl (fun j => nI (gD g j)))) :: ((b 4), .inl (ct 0, 144, .inl d.2.2)) :: ((d.2.1 c9 0), .inr (0, [.ref (d.2.1 c9 1), .ref (d.2.1 c9 2), .ref (d.2.1 c9 3)])) :: ((d.2.1 c9 1), .inl (ct 0, 5, .inl (fun j => nI (cX (gC g c9) j)))) :: ((d.2.1 c9 2), .inl (ct 0, 5, .inl (upd (cZ (gC g c9)) j z))) :: ((d.2.1 c9 3), .inl (ct 0, 5, .inl (upd (scr (cX (gC g c9)) (cZ (gC g c9))) j (nI 1000 * z / nI (cX (gC g c9) j))))) :: rsC ct d g c9) H := hP
            have hD : va_D A (((b 0), .inr (2, [.ref (b 1), .ref (b 2), .ref (b 3), .int (nI (gd g)), .ref (b 4)])) :: ((b 1), .inl (ct 1, 5, .inr (.inr (.inr (.inr (rfs (gN g) d.1)))))) :: ((b 2), .inl (ct 2, 6, .inr (.inr (.inr (.inr (rfs (gc g) d.2.1)))))) :: ((b 3), .inl (ct 0, 24, .inl (fun j => nI (gD g j)))) :: ((b 4), .inl (ct 0, 144, .inl d.2.2)) :: ((d.2.1 c9 0), .inr (0, [.ref (d.2.1 c9 1), .ref (d.2.1 c9 2), .ref (d.2.1 c9 3)])) :: ((d.2.1 c9 1), .inl (ct 0, 5, .inl (fun j => nI (cX (gC g c9) j)))) :: ((d.2.1 c9 2), .inl (ct 0, 5, .inl (upd (cZ (gC g c9)) j z))) :: ((d.2.1 c9 3), .inl (ct 0, 5, .inl (upd (scr (cX (gC g c9)) (cZ (gC g c9))) j (nI 1000 * z / nI (cX (gC g c9) j))))) :: rsC ct d g c9) := hD
            have hP : va_P D vwCl (((b 0), .inr (2, [.ref (b 1), .ref (b 2), .ref (b 3), .int (nI (gd g)), .ref (b 4)])) :: ((b 1), .inl (ct 1, 5, .inr (.inr (.inr (.inr (rfs (gN g) d.1)))))) :: ((b 2), .inl (ct 2, 6, .inr (.inr (.inr (.inr (rfs (gc g) d.2.1)))))) :: ((b 3), .inl (ct 0, 24, .inl (fun j => nI (gD g j)))) :: ((b 4), .inl (ct 0, 144, .inl d.2.2)) :: ((d.2.1 c9 0), .inr (0, [.ref (d.2.1 c9 1), .ref (d.2.1 c9 2), .ref (d.2.1 c9 3)])) :: ((d.2.1 c9 1), .inl (ct 0, 5, .inl (fun j => nI (cX (gC g c9) j)))) :: ((d.2.1 c9 2), .inl (ct 0, 5, .inl (upd (cZ (gC g c9)) j z))) :: ((d.2.1 c9 3), .inl (ct 0, 5, .inl (scr (cX (gC g c9)) (upd (cZ (gC g c9)) j z)))) :: rsC ct d g c9) H := by rw [scr_up] at hP; exact hP
            have hD : va_D A (((b 0), .inr (2, [.ref (b 1), .ref (b 2), .ref (b 3), .int (nI (gd g)), .ref (b 4)])) :: ((b 1), .inl (ct 1, 5, .inr (.inr (.inr (.inr (rfs (gN g) d.1)))))) :: ((b 2), .inl (ct 2, 6, .inr (.inr (.inr (.inr (rfs (gc g) d.2.1)))))) :: ((b 3), .inl (ct 0, 24, .inl (fun j => nI (gD g j)))) :: ((b 4), .inl (ct 0, 144, .inl d.2.2)) :: ((d.2.1 c9 0), .inr (0, [.ref (d.2.1 c9 1), .ref (d.2.1 c9 2), .ref (d.2.1 c9 3)])) :: ((d.2.1 c9 1), .inl (ct 0, 5, .inl (fun j => nI (cX (gC g c9) j)))) :: ((d.2.1 c9 2), .inl (ct 0, 5, .inl (upd (cZ (gC g c9)) j z))) :: ((d.2.1 c9 3), .inl (ct 0, 5, .inl (scr (cX (gC g c9)) (upd (cZ (gC g c9)) j z)))) :: rsC ct d g c9) := by rw [scr_up] at hD; exact hD
            refine lv_iload hx hb dX2_result_95 (lv_at hl 0 rfl) ?_
            have hz : opResult g (nI c9) (nI j) z = (0, nI 1000 * z / nI (cX (gC g c9) j), gV g c9 (rsU (gC g c9) j z)) := by rw [opResult, if_neg (fun z => z.elim (bd_nI hi (by omega)) (by rw [ix, hic]; exact bd_nI hj (by omega))), if_neg (fun q => q.elim h1 (fun q => q h2)), if_neg (by rw [ix, ix, hic, hjc]; exact hz9), ix, ix, hic, hjc]
            rw [hz]
            have hP9 : va_P D vwCl (hkW ct b d (gV g c9 (rsU (gC g c9) j z))) H := va_P.perm (w1 := bsW ct b d g ++ (coW ct (d.2.1 c9) (rsU (gC g c9) j z) ++ rsC ct d g c9)) hP (hkW_gV hi)
            have hD9 : va_D A (hkW ct b d (gV g c9 (rsU (gC g c9) j z))) := va_D.perm (w1 := bsW ct b d g ++ (coW ct (d.2.1 c9) (rsU (gC g c9) j z) ++ rsC ct d g c9)) hD (hkW_gV hi)
            refine W.widen (k := 3) (n := 18) (Nat.le_of_ble_eq_true rfl) (Nat.le_of_ble_eq_true rfl) ?_
            exact vx_ret (W.iret (v := ((nI 1000) * z) / (nI (cX (gC g c9) j))) hx hb hr (fun t ht hW => ⟨rfl, rfl, ⟨d, by rw [ht]; exact hP9, hD9⟩, hS.F ht⟩) hS.2.2 dX2_result_97)
          · exact absurd h4 (by omega)
        · exact absurd rfl h0
    · exact hk_throw (G0 := G0) hx hb hfl (cls := "java/lang/IllegalArgumentException") (text := "ticks is out of range") (ik := 44) (is := 154) (ic := 48) (k := 13) hown (by decide +kernel) (hts (.classLink RX2 44 "java/lang/IllegalArgumentException") (by decide +kernel)) (hts (.initialized "java/lang/IllegalArgumentException") (by decide +kernel)) (fun w hw => hts w (List.mem_cons_of_mem _ (List.mem_append_left _ (List.mem_append_left _ (List.mem_append_right _ hw))))) hk_ng2 hk_ot2 hE hH (List.mem_of_getElem? (i := 13) rfl) (hl.1.trans hml.symm) dX2_result_26 dX2_result_29 dX2_result_30 dX2_result_32 dX2_result_35 hout (Nat.le_of_ble_eq_true rfl) (Nat.le_of_ble_eq_true rfl) (Nat.le_of_ble_eq_true rfl) (Nat.le_of_ble_eq_true rfl) hlocks ⟨1, rfl, by rw [opResult, if_neg (fun z => z.elim (bd_nI hi (by omega)) (by rw [ix, hic]; exact bd_nI hj (by omega))), if_pos (Or.inr h2)]; rfl⟩ (Nat.le_of_ble_eq_true rfl) (Nat.le_of_ble_eq_true rfl)

set_option maxHeartbeats 4000000 in
set_option maxRecDepth 100000 in
theorem c_X2_init (l : Launch) (D : va_G) (ct : Nat → ClassId) (sa : Nat → Nat) (q0 sz : Nat) : Met l yX2_init wsX2_init ({ frames := 1, cells := 4, slots := 179, locals := 12 }) (hkPc D ct sa [.ref q0] (fun H => H.size = sz ∧ va_P D vwCl [(q0, .inr (2, [.null, .null, .null, .int 0, .null]))] H ∧ va_D (fun _ => True) [(q0, .inr (2, [.null, .null, .null, .int 0, .null]))])) (va_Qv (fun _ : Nat × Nat × Nat × Nat => True) (hkB D (va_A [(q0, .inr (2, [.null, .null, .null, .int 0, .null]))] sz) (fun u => [(q0, .inr (2, [.ref u.1, .ref u.2.1, .ref u.2.2.1, .int (nI 0), .ref u.2.2.2])), (u.1, .inl (ct 1, 5, .inr (.inr (.inr (.inr (fun _ => none)))))), (u.2.1, .inl (ct 2, 6, .inr (.inr (.inr (.inr (fun _ => none)))))), (u.2.2.1, .inl (ct 0, 24, .inl (fun _ => 0))), (u.2.2.2, .inl (ct 0, 144, .inl (fun _ => 0)))])) (va_A [(q0, .inr (2, [.null, .null, .null, .int 0, .null]))] sz)) 4 179 (va_A [(q0, .inr (2, [.null, .null, .null, .int 0, .null]))] sz) := by
  refine Met.ofW (cc := cX2_init) (maxL := 1) (ret := none) (by decide) rfl ?_
  intro p e s m args below meth c s₁ B hml hv
  obtain ⟨rfl, hE, hp⟩ := hv
  have hx := B.exec
  have hb := B.bytes
  have hr := B.returns
  have hts := atoms_spec (ws := wsX2_init) B.pre
  have hown : s.vm.findClass RX2 = some m.cls := findClass_of_methodNamed B.named
  have hlocks := B.notSynchronized
  have hin2 : ∀ w ∈ wsX20, w ∈ wsX2_init := by decide +kernel
  have hin : meth.name = "<init>" := (name_of_methodNamed B.named B.method).1
  obtain ⟨hsz, hP, hD0⟩ := hp
  subst hsz
  have hD := hD0.self (sz := s.heap.size)
  generalize hAe : va_A [(q0, .inr (2, [.null, .null, .null, .int 0, .null]))] s.heap.size = A at hD ⊢
  have hA : ∀ q : Nat, s.heap.size ≤ q → A q := fun q h => by rw [← hAe]; exact Or.inr h
  have hS : va_S A s.heap s.heap [] := va_S.rf
  have hl := lv_entry ([.ref q0]) (n := 1) (Nat.le_of_ble_eq_true rfl)
  rw [lg_entry_eq]
  generalize (lg_sl ([.ref q0]) ++ List.replicate (1 - (lg_sl ([.ref q0])).length) Slot.unset).toArray = ls at hl ⊢
  have hl : lv_has ls 1 [(0, .ref q0)] := hl
  refine lv_aload_n hx hb dX2_init_0 rfl (lv_at hl 0 rfl) ?_
  refine W.objInit hx hb hown (hts (.methodLink RX2 1 objectInit) (by decide +kernel)) (hts (.instanceMethod objectInit) (by decide +kernel)) (hts (.code objectInit ⟨#[0xb1]⟩ 1 none) (by decide +kernel)) rfl (by rw [hml]; exact hl.1) rfl dX2_init_1 (Nat.le_of_ble_eq_true rfl) (Nat.le_of_ble_eq_true rfl) ?_
  refine W.eq (g2 := F0 m 4 ls []) rfl ?_
  refine lv_aload_n hx hb dX2_init_4 rfl (lv_at hl 0 rfl) ?_
  refine lv_iconst (v := nI 5) hx hb dX2_init_5 (by decide) ?_
  refine hk_newq1 hx hb hown (hts (.classLink RX2 9 RX1) (by decide +kernel)) hE hP hD hS hA (n := 5) (by decide) (by decide) (Nat.le_of_ble_eq_true rfl) (Nat.le_of_ble_eq_true rfl) dX2_init_6 (fun q1 H hP hD hS => ?_)
  have hP : va_P D vwCl [(q0, .inr (2, [.null, .null, .null, .int 0, .null])), (q1, .inl (ct 1, 5, .inr (.inr (.inr (.inr (fun _ => none))))))] H := hP
  have hD : va_D A [(q0, .inr (2, [.null, .null, .null, .int 0, .null])), (q1, .inl (ct 1, 5, .inr (.inr (.inr (.inr (fun _ => none))))))] := hD
  refine va_putF (D := D) (ci := 2) (v := .ref q1) (ty := .array (.object "Homekeys$Student")) (C := RX2) (T := TX2) (N := 5) hx hb hts hin2 tyX2 tyX2_ok nmX2 hown hE.1 hP hD hS 0 rfl rfl 0 (by decide) (hts (.fieldLink RX2 11 "Homekeys" "students" "[LHomekeys$Student;") (by decide +kernel)) (fun _ h9 => h9) rfl hin rfl (by decide +kernel) rfl rfl (Nat.le_of_ble_eq_true rfl) dX2_init_9 (fun H locs hP hD hS => ?_)
  have hP : va_P D vwCl [(q0, .inr (2, [.ref q1, .null, .null, .int 0, .null])), (q1, .inl (ct 1, 5, .inr (.inr (.inr (.inr (fun _ => none))))))] H := hP
  have hD : va_D A [(q0, .inr (2, [.ref q1, .null, .null, .int 0, .null])), (q1, .inl (ct 1, 5, .inr (.inr (.inr (.inr (fun _ => none))))))] := hD
  refine lv_aload_n hx hb dX2_init_12 rfl (lv_at hl 0 rfl) ?_
  refine lv_bipush (v := nI 6) hx hb dX2_init_13 (by decide) ?_
  refine hk_newq2 hx hb hown (hts (.classLink RX2 15 RX0) (by decide +kernel)) hE hP hD hS hA (n := 6) (by decide) (by decide) (Nat.le_of_ble_eq_true rfl) (Nat.le_of_ble_eq_true rfl) dX2_init_15 (fun q2 H hP hD hS => ?_)
  have hP : va_P D vwCl [(q0, .inr (2, [.ref q1, .null, .null, .int 0, .null])), (q1, .inl (ct 1, 5, .inr (.inr (.inr (.inr (fun _ => none)))))), (q2, .inl (ct 2, 6, .inr (.inr (.inr (.inr (fun _ => none))))))] H := hP
  have hD : va_D A [(q0, .inr (2, [.ref q1, .null, .null, .int 0, .null])), (q1, .inl (ct 1, 5, .inr (.inr (.inr (.inr (fun _ => none)))))), (q2, .inl (ct 2, 6, .inr (.inr (.inr (.inr (fun _ => none))))))] := hD
  refine va_putF (D := D) (ci := 2) (v := .ref q2) (ty := .array (.object "Homekeys$Contest")) (C := RX2) (T := TX2) (N := 5) hx hb hts hin2 tyX2 tyX2_ok nmX2 hown hE.1 hP hD hS 0 rfl rfl 1 (by decide) (hts (.fieldLink RX2 17 "Homekeys" "contests" "[LHomekeys$Contest;") (by decide +kernel)) (fun _ h9 => h9) rfl hin rfl (by decide +kernel) rfl rfl (Nat.le_of_ble_eq_true rfl) dX2_init_18 (fun H locs hP hD hS => ?_)
  have hP : va_P D vwCl [(q0, .inr (2, [.ref q1, .ref q2, .null, .int 0, .null])), (q1, .inl (ct 1, 5, .inr (.inr (.inr (.inr (fun _ => none)))))), (q2, .inl (ct 2, 6, .inr (.inr (.inr (.inr (fun _ => none))))))] H := hP
  have hD : va_D A [(q0, .inr (2, [.ref q1, .ref q2, .null, .int 0, .null])), (q1, .inl (ct 1, 5, .inr (.inr (.inr (.inr (fun _ => none)))))), (q2, .inl (ct 2, 6, .inr (.inr (.inr (.inr (fun _ => none))))))] := hD
  refine lv_aload_n hx hb dX2_init_21 rfl (lv_at hl 0 rfl) ?_
  refine lv_bipush (v := nI 24) hx hb dX2_init_22 (by decide) ?_
  refine hk_newi hx hb (hts (.arrayClass .int) (by decide +kernel)) hE hP hD hS hA (n := 24) (by decide) (by decide) (Nat.le_of_ble_eq_true rfl) (Nat.le_of_ble_eq_true rfl) dX2_init_24 (fun q3 H hP hD hS => ?_)
  have hP : va_P D vwCl [(q0, .inr (2, [.ref q1, .ref q2, .null, .int 0, .null])), (q1, .inl (ct 1, 5, .inr (.inr (.inr (.inr (fun _ => none)))))), (q2, .inl (ct 2, 6, .inr (.inr (.inr (.inr (fun _ => none)))))), (q3, .inl (ct 0, 24, .inl (fun _ => 0)))] H := hP
  have hD : va_D A [(q0, .inr (2, [.ref q1, .ref q2, .null, .int 0, .null])), (q1, .inl (ct 1, 5, .inr (.inr (.inr (.inr (fun _ => none)))))), (q2, .inl (ct 2, 6, .inr (.inr (.inr (.inr (fun _ => none)))))), (q3, .inl (ct 0, 24, .inl (fun _ => 0)))] := hD
  refine va_putF (D := D) (ci := 2) (v := .ref q3) (ty := .array .int) (C := RX2) (T := TX2) (N := 5) hx hb hts hin2 tyX2 tyX2_ok nmX2 hown hE.1 hP hD hS 0 rfl rfl 2 (by decide) (hts (.fieldLink RX2 21 "Homekeys" "draft" "[I") (by decide +kernel)) (fun _ h9 => h9) rfl hin rfl (by decide +kernel) rfl rfl (Nat.le_of_ble_eq_true rfl) dX2_init_26 (fun H locs hP hD hS => ?_)
  have hP : va_P D vwCl [(q0, .inr (2, [.ref q1, .ref q2, .ref q3, .int 0, .null])), (q1, .inl (ct 1, 5, .inr (.inr (.inr (.inr (fun _ => none)))))), (q2, .inl (ct 2, 6, .inr (.inr (.inr (.inr (fun _ => none)))))), (q3, .inl (ct 0, 24, .inl (fun _ => 0)))] H := hP
  have hD : va_D A [(q0, .inr (2, [.ref q1, .ref q2, .ref q3, .int 0, .null])), (q1, .inl (ct 1, 5, .inr (.inr (.inr (.inr (fun _ => none)))))), (q2, .inl (ct 2, 6, .inr (.inr (.inr (.inr (fun _ => none)))))), (q3, .inl (ct 0, 24, .inl (fun _ => 0)))] := hD
  refine lv_aload_n hx hb dX2_init_29 rfl (lv_at hl 0 rfl) ?_
  refine lv_iconst (v := nI 0) hx hb dX2_init_30 (by decide) ?_
  refine va_put (D := D) (ci := 2) (v := .int (nI 0)) (ty := .int) (C := RX2) (T := TX2) (N := 5) hx hb hts hin2 tyX2 tyX2_ok nmX2 hown hE.1 hP hD hS 0 rfl rfl 3 (by decide) (hts (.fieldLink RX2 25 "Homekeys" "drafted" "I") (by decide +kernel)) (fun _ h9 => h9) rfl (by decide +kernel) rfl rfl (Nat.le_of_ble_eq_true rfl) dX2_init_31 (fun H locs hP hD hS => ?_)
  have hP : va_P D vwCl [(q0, .inr (2, [.ref q1, .ref q2, .ref q3, .int (nI 0), .null])), (q1, .inl (ct 1, 5, .inr (.inr (.inr (.inr (fun _ => none)))))), (q2, .inl (ct 2, 6, .inr (.inr (.inr (.inr (fun _ => none)))))), (q3, .inl (ct 0, 24, .inl (fun _ => 0)))] H := hP
  have hD : va_D A [(q0, .inr (2, [.ref q1, .ref q2, .ref q3, .int (nI 0), .null])), (q1, .inl (ct 1, 5, .inr (.inr (.inr (.inr (fun _ => none)))))), (q2, .inl (ct 2, 6, .inr (.inr (.inr (.inr (fun _ => none)))))), (q3, .inl (ct 0, 24, .inl (fun _ => 0)))] := hD
  refine lv_aload_n hx hb dX2_init_34 rfl (lv_at hl 0 rfl) ?_
  refine lv_sipush (v := nI 144) hx hb dX2_init_35 (by decide) ?_
  refine hk_newi hx hb (hts (.arrayClass .int) (by decide +kernel)) hE hP hD hS hA (n := 144) (by decide) (by decide) (Nat.le_of_ble_eq_true rfl) (Nat.le_of_ble_eq_true rfl) dX2_init_38 (fun q4 H hP hD hS => ?_)
  have hP : va_P D vwCl [(q0, .inr (2, [.ref q1, .ref q2, .ref q3, .int (nI 0), .null])), (q1, .inl (ct 1, 5, .inr (.inr (.inr (.inr (fun _ => none)))))), (q2, .inl (ct 2, 6, .inr (.inr (.inr (.inr (fun _ => none)))))), (q3, .inl (ct 0, 24, .inl (fun _ => 0))), (q4, .inl (ct 0, 144, .inl (fun _ => 0)))] H := hP
  have hD : va_D A [(q0, .inr (2, [.ref q1, .ref q2, .ref q3, .int (nI 0), .null])), (q1, .inl (ct 1, 5, .inr (.inr (.inr (.inr (fun _ => none)))))), (q2, .inl (ct 2, 6, .inr (.inr (.inr (.inr (fun _ => none)))))), (q3, .inl (ct 0, 24, .inl (fun _ => 0))), (q4, .inl (ct 0, 144, .inl (fun _ => 0)))] := hD
  refine va_putF (D := D) (ci := 2) (v := .ref q4) (ty := .array .int) (C := RX2) (T := TX2) (N := 5) hx hb hts hin2 tyX2 tyX2_ok nmX2 hown hE.1 hP hD hS 0 rfl rfl 4 (by decide) (hts (.fieldLink RX2 29 "Homekeys" "follows" "[I") (by decide +kernel)) (fun _ h9 => h9) rfl hin rfl (by decide +kernel) rfl rfl (Nat.le_of_ble_eq_true rfl) dX2_init_40 (fun H locs hP hD hS => ?_)
  have hP : va_P D vwCl [(q0, .inr (2, [.ref q1, .ref q2, .ref q3, .int (nI 0), .ref q4])), (q1, .inl (ct 1, 5, .inr (.inr (.inr (.inr (fun _ => none)))))), (q2, .inl (ct 2, 6, .inr (.inr (.inr (.inr (fun _ => none)))))), (q3, .inl (ct 0, 24, .inl (fun _ => 0))), (q4, .inl (ct 0, 144, .inl (fun _ => 0)))] H := hP
  have hD : va_D A [(q0, .inr (2, [.ref q1, .ref q2, .ref q3, .int (nI 0), .ref q4])), (q1, .inl (ct 1, 5, .inr (.inr (.inr (.inr (fun _ => none)))))), (q2, .inl (ct 2, 6, .inr (.inr (.inr (.inr (fun _ => none)))))), (q3, .inl (ct 0, 24, .inl (fun _ => 0))), (q4, .inl (ct 0, 144, .inl (fun _ => 0)))] := hD
  have hP9 : va_P D vwCl [(q0, .inr (2, [.ref q1, .ref q2, .ref q3, .int (nI 0), .ref q4])), (q1, .inl (ct 1, 5, .inr (.inr (.inr (.inr (fun _ => none)))))), (q2, .inl (ct 2, 6, .inr (.inr (.inr (.inr (fun _ => none)))))), (q3, .inl (ct 0, 24, .inl (fun _ => 0))), (q4, .inl (ct 0, 144, .inl (fun _ => 0)))] H := hP
  have hD9 : va_D A [(q0, .inr (2, [.ref q1, .ref q2, .ref q3, .int (nI 0), .ref q4])), (q1, .inl (ct 1, 5, .inr (.inr (.inr (.inr (fun _ => none)))))), (q2, .inl (ct 2, 6, .inr (.inr (.inr (.inr (fun _ => none)))))), (q3, .inl (ct 0, 24, .inl (fun _ => 0))), (q4, .inl (ct 0, 144, .inl (fun _ => 0)))] := hD
  exact W.vret hx hb hr (fun t ht hW => ⟨⟨(q1, q2, q3, q4), rfl, trivial, by rw [ht]; exact hP9, hD9⟩, hS.F ht⟩) hS.2.2 dX2_init_43
