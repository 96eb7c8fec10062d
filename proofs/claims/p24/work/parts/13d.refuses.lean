set_option maxHeartbeats 4000000 in
set_option maxRecDepth 100000 in
theorem c_L_refuses (l : Launch) (hfl : l.flags = flags0) (D : va_G) (ct : Nat → ClassId) (sa : Nat → Nat) (G0 : Nat) (sz : Nat) (b : Nat → Nat) (d : Ad) (g : Sg) (hI : Inv g) (hJ : Jg 1000 g) (h0 : 0 < gN g) : Met l yL_refuses wsL_refuses ({ frames := 10, cells := 80, slots := 500, locals := 172 }) (hkPx D ct sa G0 [.ref (b 0)] (hkZP D ct b d g G0 sz)) (hkZQ D ct b (va_A (hkW ct b d g) sz) (.int 1) g) 80 500 (va_A (hkW ct b d g) sz) := by
  refine Met.ofW (cc := cL_refuses) (maxL := 6) (ret := (some .boolean)) (by decide) rfl ?_
  intro p e s m args below meth c s₁ B hml hv
  obtain ⟨rfl, hE, hH, hp⟩ := hv
  have hx := B.exec
  have hb := B.bytes
  have hr := B.returns
  have hts := atoms_spec (ws := wsL_refuses) B.pre
  have hown : s.vm.findClass RL = some m.cls := findClass_of_methodNamed B.named
  have hlocks := B.notSynchronized
  obtain ⟨hsz, hP, hDG⟩ := hp
  subst hsz
  have hD := hDG.self (sz := s.heap.size)
  have hAG := hkA_G (sz := s.heap.size) hDG hH.1
  generalize hAe : va_A (hkW ct b d g) s.heap.size = A at hD hAG ⊢
  have hA : ∀ q : Nat, s.heap.size ≤ q → A q := fun q h => by rw [← hAe]; exact Or.inr h
  have hS : va_S A s.heap s.heap [] := va_S.rf
  have hu : Ist (gS g 0) := hI.2.2.2.1 0
  have hj : Jst 1000 (gS g 0) := hJ.1 0
  have htZ := tZ_le hu
  have hn1 : nC (gS g 0) ≤ 1000 := hj.2.2.2.2.1
  have hl := lv_entry ([.ref (b 0)]) (n := 6) (Nat.le_of_ble_eq_true rfl)
  rw [lg_entry_eq]
  generalize (lg_sl ([.ref (b 0)]) ++ List.replicate (6 - (lg_sl ([.ref (b 0)])).length) Slot.unset).toArray = ls at hl ⊢
  have hl : lv_has ls 6 [(0, .ref (b 0))] := hl
  refine lv_aload_n hx hb dL_refuses_0 rfl (lv_at hl 0 rfl) ?_
  refine lv_iconst (v := nI 0) hx hb dL_refuses_1 (by decide) ?_
  have h9 := lwN (es := [(-9000000000000000001)]) (e_pressed hI h0 hj) (by omega)
  refine hk_LZ (wr := []) (v := .long (zL ((nC (gS g 0) : Nat) : Int))) (g' := g) (rest := []) (vx_runSW (As := [.ref (b 0), .int (nI 0)]) (rest := []) ⟨hx, hb, hml, hown, hts⟩ (c_L_pressed l hfl D ct sa G0 s.heap.size b d g (nI 0) hI) (vx_cwSW 2 hts gL_refuses_L_pressed rfl rfl rfl (by decide +kernel) ⟨Nat.le_of_ble_eq_true rfl, Nat.le_of_ble_eq_true rfl⟩) (hk_prxS hE (hkS_H hH hAG hS) ⟨rfl, hP.right (w1 := []), (hD.right (w1 := [])).weaken (fun _ _ _ h => hAG _ h)⟩) rfl rfl hl.1 rfl (lv_room (Nat.le_of_ble_eq_true rfl)) dL_refuses_2 ⟨by show _ ≤ 80; omega, by show _ ≤ 500; omega⟩) rfl hP hD hS hA (congrArg Value.long h9.1) h9.2 (fun d H locs hP hD hS => ?_)
  refine lv_lstore_n (lv' := [(1, .long (zL ((nC (gS g 0) : Nat) : Int))), (0, .ref (b 0))]) hx hb dL_refuses_5 rfl hl (by decide) rfl (fun ls hl => ?_)
  refine lv_aload_n hx hb dL_refuses_6 rfl (lv_at hl 1 rfl) ?_
  refine lv_iconst (v := nI 0) hx hb dL_refuses_7 (by decide) ?_
  have h9 := lwN (es := [(-9000000000000000001)]) (e_time hI h0) (by omega)
  refine hk_LZ (wr := []) (v := .long (zL ((tZ (gS g 0) : Nat) : Int))) (g' := g) (rest := []) (vx_runSW (As := [.ref (b 0), .int (nI 0)]) (rest := []) ⟨hx, hb, hml, hown, hts⟩ (c_L_time l hfl D ct sa G0 H.size b d g (nI 0) hI) (vx_cwSW 2 hts gL_refuses_L_time rfl rfl rfl (by decide +kernel) ⟨Nat.le_of_ble_eq_true rfl, Nat.le_of_ble_eq_true rfl⟩) (hk_prxS hE (hkS_H hH hAG hS) ⟨rfl, hP.right (w1 := []), (hD.right (w1 := [])).weaken (fun _ _ _ h => hAG _ h)⟩) rfl rfl hl.1 rfl (lv_room (Nat.le_of_ble_eq_true rfl)) dL_refuses_8 ⟨by show _ ≤ 80; omega, by show _ ≤ 500; omega⟩) rfl hP hD hS hA (congrArg Value.long h9.1) h9.2 (fun d H locs hP hD hS => ?_)
  refine lv_lstore_n (lv' := [(3, .long (zL ((tZ (gS g 0) : Nat) : Int))), (1, .long (zL ((nC (gS g 0) : Nat) : Int))), (0, .ref (b 0))]) hx hb dL_refuses_11 rfl hl (by decide) rfl (fun ls hl => ?_)
  refine lv_aload_n hx hb dL_refuses_12 rfl (lv_at hl 2 rfl) ?_
  refine lv_iconst (v := nI 5) hx hb dL_refuses_13 (by decide) ?_
  refine lv_iconst (v := nI 0) hx hb dL_refuses_14 (by decide) ?_
  have h9 := lw1 (es := [(-9000000000000000001), (-9000000000000000002)]) (n := (-9000000000000000001)) (ref_carry0 hI) (by decide) (by decide +kernel)
  refine hk_LZ (wr := []) (v := .long (zL (-9000000000000000001))) (g' := g) (rest := []) (vx_runSW (As := [.ref (b 0), .int (nI 5), .int (nI 0)]) (rest := []) ⟨hx, hb, hml, hown, hts⟩ (c_L_carry l hfl D ct sa G0 H.size b d g (nI 5) (nI 0) hI) (vx_cwSW 3 hts gL_refuses_L_carry rfl rfl rfl (by decide +kernel) ⟨Nat.le_of_ble_eq_true rfl, Nat.le_of_ble_eq_true rfl⟩) (hk_prxS hE (hkS_H hH hAG hS) ⟨rfl, hP.right (w1 := []), (hD.right (w1 := [])).weaken (fun _ _ _ h => hAG _ h)⟩) rfl rfl hl.1 rfl (lv_room (Nat.le_of_ble_eq_true rfl)) dL_refuses_15 ⟨by show _ ≤ 80; omega, by show _ ≤ 500; omega⟩) rfl hP hD hS hA (congrArg Value.long h9.1) h9.2 (fun d H locs hP hD hS => ?_)
  refine hk_ldcz (v := (-9000000000000000001)) (n := (-9000000000000000001)) hx hb (by decide +kernel) hown (hts (.constantLong RL 25 (-9000000000000000001)) (by decide +kernel)) dL_refuses_18 ?_
  refine zq_ne (x := (-9000000000000000001)) (y := (-9000000000000000001)) (tgt := 239) hx hb (rfl) dL_refuses_21 dL_refuses_22 (by decide) ?_
  refine lv_aload_n hx hb dL_refuses_25 rfl (lv_at hl 2 rfl) ?_
  refine lv_iconst (v := nI 0) hx hb dL_refuses_26 (by decide) ?_
  refine lv_iconst (v := nI 2) hx hb dL_refuses_27 (by decide) ?_
  have h9 := lw1 (es := [(-9000000000000000001), (-9000000000000000002)]) (n := (-9000000000000000002)) (ref_carry2 hI h0) (by decide) (by decide +kernel)
  refine hk_LZ (wr := []) (v := .long (zL (-9000000000000000002))) (g' := g) (rest := []) (vx_runSW (As := [.ref (b 0), .int (nI 0), .int (nI 2)]) (rest := []) ⟨hx, hb, hml, hown, hts⟩ (c_L_carry l hfl D ct sa G0 H.size b d g (nI 0) (nI 2) hI) (vx_cwSW 3 hts gL_refuses_L_carry rfl rfl rfl (by decide +kernel) ⟨Nat.le_of_ble_eq_true rfl, Nat.le_of_ble_eq_true rfl⟩) (hk_prxS hE (hkS_H hH hAG hS) ⟨rfl, hP.right (w1 := []), (hD.right (w1 := [])).weaken (fun _ _ _ h => hAG _ h)⟩) rfl rfl hl.1 rfl (lv_room (Nat.le_of_ble_eq_true rfl)) dL_refuses_28 ⟨by show _ ≤ 80; omega, by show _ ≤ 500; omega⟩) rfl hP hD hS hA (congrArg Value.long h9.1) h9.2 (fun d H locs hP hD hS => ?_)
  refine hk_ldcz (v := (-9000000000000000002)) (n := (-9000000000000000002)) hx hb (by decide +kernel) hown (hts (.constantLong RL 29 (-9000000000000000002)) (by decide +kernel)) dL_refuses_31 ?_
  refine zq_ne (x := (-9000000000000000002)) (y := (-9000000000000000002)) (tgt := 239) hx hb (rfl) dL_refuses_34 dL_refuses_35 (by decide) ?_
  refine lv_aload_n hx hb dL_refuses_38 rfl (lv_at hl 2 rfl) ?_
  refine lv_iconst (v := (-1)) hx hb dL_refuses_39 (by decide) ?_
  refine lv_iconst (v := nI 0) hx hb dL_refuses_40 (by decide) ?_
  refine lv_iconst (v := nI 1) hx hb dL_refuses_41 (by decide) ?_
  have h9 := lw1 (es := [(-9000000000000000001), (-9000000000000000002)]) (n := (-9000000000000000001)) (ref_swap1 (g := g) (y := nI 0) (z := nI 1) (by decide : (-1 : Int32) < 0)) (by decide) (by decide +kernel)
  refine hk_LZ (wr := []) (v := .long (zL (-9000000000000000001))) (g' := g) (rest := []) (vx_runSW (As := [.ref (b 0), .int (-1), .int (nI 0), .int (nI 1)]) (rest := []) ⟨hx, hb, hml, hown, hts⟩ (c_L_swap l hfl D ct sa G0 H.size b d g (-1) (nI 0) (nI 1) hI) (vx_cwSW 4 hts gL_refuses_L_swap rfl rfl rfl (by decide +kernel) ⟨Nat.le_of_ble_eq_true rfl, Nat.le_of_ble_eq_true rfl⟩) (hk_prxS hE (hkS_H hH hAG hS) ⟨rfl, hP.right (w1 := []), (hD.right (w1 := [])).weaken (fun _ _ _ h => hAG _ h)⟩) rfl rfl hl.1 rfl (lv_room (Nat.le_of_ble_eq_true rfl)) dL_refuses_42 ⟨by show _ ≤ 80; omega, by show _ ≤ 500; omega⟩) rfl hP hD hS hA (congrArg Value.long h9.1) h9.2 (fun d H locs hP hD hS => ?_)
  refine hk_ldcz (v := (-9000000000000000001)) (n := (-9000000000000000001)) hx hb (by decide +kernel) hown (hts (.constantLong RL 25 (-9000000000000000001)) (by decide +kernel)) dL_refuses_45 ?_
  refine zq_ne (x := (-9000000000000000001)) (y := (-9000000000000000001)) (tgt := 239) hx hb (rfl) dL_refuses_48 dL_refuses_49 (by decide) ?_
  refine lv_aload_n hx hb dL_refuses_52 rfl (lv_at hl 2 rfl) ?_
  refine lv_iconst (v := nI 0) hx hb dL_refuses_53 (by decide) ?_
  refine lv_bipush (v := nI 12) hx hb dL_refuses_54 (by decide) ?_
  refine lv_iconst (v := nI 1) hx hb dL_refuses_56 (by decide) ?_
  have h9 := lw1 (es := [(-9000000000000000001), (-9000000000000000002)]) (n := (-9000000000000000001)) (ref_swap2 (g := g) (x := nI 0) (y := nI 12) (z := nI 1) (by decide +kernel)) (by decide) (by decide +kernel)
  refine hk_LZ (wr := []) (v := .long (zL (-9000000000000000001))) (g' := g) (rest := []) (vx_runSW (As := [.ref (b 0), .int (nI 0), .int (nI 12), .int (nI 1)]) (rest := []) ⟨hx, hb, hml, hown, hts⟩ (c_L_swap l hfl D ct sa G0 H.size b d g (nI 0) (nI 12) (nI 1) hI) (vx_cwSW 4 hts gL_refuses_L_swap rfl rfl rfl (by decide +kernel) ⟨Nat.le_of_ble_eq_true rfl, Nat.le_of_ble_eq_true rfl⟩) (hk_prxS hE (hkS_H hH hAG hS) ⟨rfl, hP.right (w1 := []), (hD.right (w1 := [])).weaken (fun _ _ _ h => hAG _ h)⟩) rfl rfl hl.1 rfl (lv_room (Nat.le_of_ble_eq_true rfl)) dL_refuses_57 ⟨by show _ ≤ 80; omega, by show _ ≤ 500; omega⟩) rfl hP hD hS hA (congrArg Value.long h9.1) h9.2 (fun d H locs hP hD hS => ?_)
  refine hk_ldcz (v := (-9000000000000000001)) (n := (-9000000000000000001)) hx hb (by decide +kernel) hown (hts (.constantLong RL 25 (-9000000000000000001)) (by decide +kernel)) dL_refuses_60 ?_
  refine zq_ne (x := (-9000000000000000001)) (y := (-9000000000000000001)) (tgt := 239) hx hb (rfl) dL_refuses_63 dL_refuses_64 (by decide) ?_
  refine lv_aload_n hx hb dL_refuses_67 rfl (lv_at hl 2 rfl) ?_
  refine lv_iconst (v := nI 0) hx hb dL_refuses_68 (by decide) ?_
  refine lv_iconst (v := nI 3) hx hb dL_refuses_69 (by decide) ?_
  refine lv_iconst (v := nI 3) hx hb dL_refuses_70 (by decide) ?_
  have h9 := lw1 (es := [(-9000000000000000001), (-9000000000000000002)]) (n := (-9000000000000000002)) (ref_swap3 hI h0 (x := 3) (by omega)) (by decide) (by decide +kernel)
  refine hk_LZ (wr := []) (v := .long (zL (-9000000000000000002))) (g' := g) (rest := []) (vx_runSW (As := [.ref (b 0), .int (nI 0), .int (nI 3), .int (nI 3)]) (rest := []) ⟨hx, hb, hml, hown, hts⟩ (c_L_swap l hfl D ct sa G0 H.size b d g (nI 0) (nI 3) (nI 3) hI) (vx_cwSW 4 hts gL_refuses_L_swap rfl rfl rfl (by decide +kernel) ⟨Nat.le_of_ble_eq_true rfl, Nat.le_of_ble_eq_true rfl⟩) (hk_prxS hE (hkS_H hH hAG hS) ⟨rfl, hP.right (w1 := []), (hD.right (w1 := [])).weaken (fun _ _ _ h => hAG _ h)⟩) rfl rfl hl.1 rfl (lv_room (Nat.le_of_ble_eq_true rfl)) dL_refuses_71 ⟨by show _ ≤ 80; omega, by show _ ≤ 500; omega⟩) rfl hP hD hS hA (congrArg Value.long h9.1) h9.2 (fun d H locs hP hD hS => ?_)
  refine hk_ldcz (v := (-9000000000000000002)) (n := (-9000000000000000002)) hx hb (by decide +kernel) hown (hts (.constantLong RL 29 (-9000000000000000002)) (by decide +kernel)) dL_refuses_74 ?_
  refine zq_ne (x := (-9000000000000000002)) (y := (-9000000000000000002)) (tgt := 239) hx hb (rfl) dL_refuses_77 dL_refuses_78 (by decide) ?_
  refine lv_aload_n hx hb dL_refuses_81 rfl (lv_at hl 2 rfl) ?_
  refine lv_iconst (v := nI 0) hx hb dL_refuses_82 (by decide) ?_
  refine lv_bipush (v := nI 12) hx hb dL_refuses_83 (by decide) ?_
  have h9 := lw1 (es := [(-9000000000000000001)]) (n := (-9000000000000000001)) (ref_keyOf (g := g) (x := nI 0) (y := nI 12) (by decide +kernel)) (by decide) (by decide +kernel)
  refine hk_LZ (wr := []) (v := .long (zL (-9000000000000000001))) (g' := g) (rest := []) (vx_runSW (As := [.ref (b 0), .int (nI 0), .int (nI 12)]) (rest := []) ⟨hx, hb, hml, hown, hts⟩ (c_L_keyOf l hfl D ct sa G0 H.size b d g (nI 0) (nI 12) hI) (vx_cwSW 3 hts gL_refuses_L_keyOf rfl rfl rfl (by decide +kernel) ⟨Nat.le_of_ble_eq_true rfl, Nat.le_of_ble_eq_true rfl⟩) (hk_prxS hE (hkS_H hH hAG hS) ⟨rfl, hP.right (w1 := []), (hD.right (w1 := [])).weaken (fun _ _ _ h => hAG _ h)⟩) rfl rfl hl.1 rfl (lv_room (Nat.le_of_ble_eq_true rfl)) dL_refuses_85 ⟨by show _ ≤ 80; omega, by show _ ≤ 500; omega⟩) rfl hP hD hS hA (congrArg Value.long h9.1) h9.2 (fun d H locs hP hD hS => ?_)
  refine hk_ldcz (v := (-9000000000000000001)) (n := (-9000000000000000001)) hx hb (by decide +kernel) hown (hts (.constantLong RL 25 (-9000000000000000001)) (by decide +kernel)) dL_refuses_88 ?_
  refine zq_ne (x := (-9000000000000000001)) (y := (-9000000000000000001)) (tgt := 239) hx hb (rfl) dL_refuses_91 dL_refuses_92 (by decide) ?_
  refine lv_aload_n hx hb dL_refuses_95 rfl (lv_at hl 2 rfl) ?_
  refine lv_iconst (v := nI 0) hx hb dL_refuses_96 (by decide) ?_
  refine lv_iconst (v := (-1)) hx hb dL_refuses_97 (by decide) ?_
  have h9 := lw1 (es := [(-9000000000000000001)]) (n := (-9000000000000000001)) (ref_letterOn (g := g) (x := nI 0) (y := -1) (by decide +kernel)) (by decide) (by decide +kernel)
  refine hk_LZ (wr := []) (v := .long (zL (-9000000000000000001))) (g' := g) (rest := []) (vx_runSW (As := [.ref (b 0), .int (nI 0), .int (-1)]) (rest := []) ⟨hx, hb, hml, hown, hts⟩ (c_L_letterOn l hfl D ct sa G0 H.size b d g (nI 0) (-1) hI) (vx_cwSW 3 hts gL_refuses_L_letterOn rfl rfl rfl (by decide +kernel) ⟨Nat.le_of_ble_eq_true rfl, Nat.le_of_ble_eq_true rfl⟩) (hk_prxS hE (hkS_H hH hAG hS) ⟨rfl, hP.right (w1 := []), (hD.right (w1 := [])).weaken (fun _ _ _ h => hAG _ h)⟩) rfl rfl hl.1 rfl (lv_room (Nat.le_of_ble_eq_true rfl)) dL_refuses_98 ⟨by show _ ≤ 80; omega, by show _ ≤ 500; omega⟩) rfl hP hD hS hA (congrArg Value.long h9.1) h9.2 (fun d H locs hP hD hS => ?_)
  refine hk_ldcz (v := (-9000000000000000001)) (n := (-9000000000000000001)) hx hb (by decide +kernel) hown (hts (.constantLong RL 25 (-9000000000000000001)) (by decide +kernel)) dL_refuses_101 ?_
  refine zq_ne (x := (-9000000000000000001)) (y := (-9000000000000000001)) (tgt := 239) hx hb (rfl) dL_refuses_104 dL_refuses_105 (by decide) ?_
  refine lv_aload_n hx hb dL_refuses_108 rfl (lv_at hl 2 rfl) ?_
  refine lv_iconst (v := nI 0) hx hb dL_refuses_109 (by decide) ?_
  refine lv_bipush (v := nI 12) hx hb dL_refuses_110 (by decide) ?_
  refine lv_iconst (v := nI 0) hx hb dL_refuses_112 (by decide) ?_
  have h9 := lw1 (es := [(-9000000000000000001)]) (n := (-9000000000000000001)) (ref_press1 (g := g) (x := nI 0) (y := nI 12) (z := nI 0) (by decide +kernel)) (by decide) (by decide +kernel)
  refine hk_LZ (wr := []) (v := .long (zL (-9000000000000000001))) (g' := g) (rest := []) (vx_runSW (As := [.ref (b 0), .int (nI 0), .int (nI 12), .int (nI 0)]) (rest := []) ⟨hx, hb, hml, hown, hts⟩ (c_L_press l hfl D ct sa G0 H.size b d g (nI 0) (nI 12) (nI 0) hI) (vx_cwSW 4 hts gL_refuses_L_press rfl rfl rfl (by decide +kernel) ⟨Nat.le_of_ble_eq_true rfl, Nat.le_of_ble_eq_true rfl⟩) (hk_prxS hE (hkS_H hH hAG hS) ⟨rfl, hP.right (w1 := []), (hD.right (w1 := [])).weaken (fun _ _ _ h => hAG _ h)⟩) rfl rfl hl.1 rfl (lv_room (Nat.le_of_ble_eq_true rfl)) dL_refuses_113 ⟨by show _ ≤ 80; omega, by show _ ≤ 500; omega⟩) rfl hP hD hS hA (congrArg Value.long h9.1) h9.2 (fun d H locs hP hD hS => ?_)
  refine hk_ldcz (v := (-9000000000000000001)) (n := (-9000000000000000001)) hx hb (by decide +kernel) hown (hts (.constantLong RL 25 (-9000000000000000001)) (by decide +kernel)) dL_refuses_116 ?_
  refine zq_ne (x := (-9000000000000000001)) (y := (-9000000000000000001)) (tgt := 239) hx hb (rfl) dL_refuses_119 dL_refuses_120 (by decide) ?_
  refine lv_aload_n hx hb dL_refuses_123 rfl (lv_at hl 2 rfl) ?_
  refine lv_iconst (v := nI 0) hx hb dL_refuses_124 (by decide) ?_
  refine lv_iconst (v := nI 0) hx hb dL_refuses_125 (by decide) ?_
  refine lv_iconst (v := (-1)) hx hb dL_refuses_126 (by decide) ?_
  have h9 := lw1 (es := [(-9000000000000000001)]) (n := (-9000000000000000001)) (ref_press2 (g := g) (x := nI 0) (y := nI 0) (z := -1) (by decide +kernel)) (by decide) (by decide +kernel)
  refine hk_LZ (wr := []) (v := .long (zL (-9000000000000000001))) (g' := g) (rest := []) (vx_runSW (As := [.ref (b 0), .int (nI 0), .int (nI 0), .int (-1)]) (rest := []) ⟨hx, hb, hml, hown, hts⟩ (c_L_press l hfl D ct sa G0 H.size b d g (nI 0) (nI 0) (-1) hI) (vx_cwSW 4 hts gL_refuses_L_press rfl rfl rfl (by decide +kernel) ⟨Nat.le_of_ble_eq_true rfl, Nat.le_of_ble_eq_true rfl⟩) (hk_prxS hE (hkS_H hH hAG hS) ⟨rfl, hP.right (w1 := []), (hD.right (w1 := [])).weaken (fun _ _ _ h => hAG _ h)⟩) rfl rfl hl.1 rfl (lv_room (Nat.le_of_ble_eq_true rfl)) dL_refuses_127 ⟨by show _ ≤ 80; omega, by show _ ≤ 500; omega⟩) rfl hP hD hS hA (congrArg Value.long h9.1) h9.2 (fun d H locs hP hD hS => ?_)
  refine hk_ldcz (v := (-9000000000000000001)) (n := (-9000000000000000001)) hx hb (by decide +kernel) hown (hts (.constantLong RL 25 (-9000000000000000001)) (by decide +kernel)) dL_refuses_130 ?_
  refine zq_ne (x := (-9000000000000000001)) (y := (-9000000000000000001)) (tgt := 239) hx hb (rfl) dL_refuses_133 dL_refuses_134 (by decide) ?_
  refine lv_aload_n hx hb dL_refuses_137 rfl (lv_at hl 2 rfl) ?_
  refine lv_iconst (v := nI 0) hx hb dL_refuses_138 (by decide) ?_
  refine lv_iconst (v := nI 4) hx hb dL_refuses_139 (by decide) ?_
  refine lv_iconst (v := nI 0) hx hb dL_refuses_140 (by decide) ?_
  have h9 := lw1 (es := [(-9000000000000000001), (-9000000000000000002)]) (n := (-9000000000000000002)) (ref_slips hI h0 (y := nI 4) (z := nI 0) (by decide +kernel)) (by decide) (by decide +kernel)
  refine hk_LZ (wr := []) (v := .long (zL (-9000000000000000002))) (g' := g) (rest := []) (vx_runSW (As := [.ref (b 0), .int (nI 0), .int (nI 4), .int (nI 0)]) (rest := []) ⟨hx, hb, hml, hown, hts⟩ (c_L_slips l hfl D ct sa G0 H.size b d g (nI 0) (nI 4) (nI 0) hI) (vx_cwSW 4 hts gL_refuses_L_slips rfl rfl rfl (by decide +kernel) ⟨Nat.le_of_ble_eq_true rfl, Nat.le_of_ble_eq_true rfl⟩) (hk_prxS hE (hkS_H hH hAG hS) ⟨rfl, hP.right (w1 := []), (hD.right (w1 := [])).weaken (fun _ _ _ h => hAG _ h)⟩) rfl rfl hl.1 rfl (lv_room (Nat.le_of_ble_eq_true rfl)) dL_refuses_141 ⟨by show _ ≤ 80; omega, by show _ ≤ 500; omega⟩) rfl hP hD hS hA (congrArg Value.long h9.1) h9.2 (fun d H locs hP hD hS => ?_)
  refine hk_ldcz (v := (-9000000000000000002)) (n := (-9000000000000000002)) hx hb (by decide +kernel) hown (hts (.constantLong RL 29 (-9000000000000000002)) (by decide +kernel)) dL_refuses_144 ?_
  refine zq_ne (x := (-9000000000000000002)) (y := (-9000000000000000002)) (tgt := 239) hx hb (rfl) dL_refuses_147 dL_refuses_148 (by decide) ?_
  refine lv_aload_n hx hb dL_refuses_151 rfl (lv_at hl 2 rfl) ?_
  refine lv_iconst (v := nI 0) hx hb dL_refuses_152 (by decide) ?_
  refine lv_iconst (v := nI 1) hx hb dL_refuses_153 (by decide) ?_
  refine lv_bipush (v := nI 6) hx hb dL_refuses_154 (by decide) ?_
  have h9 := lw1 (es := [(-9000000000000000001), (-9000000000000000002)]) (n := (-9000000000000000002)) (ref_slips hI h0 (y := nI 1) (z := nI 6) (by decide +kernel)) (by decide) (by decide +kernel)
  refine hk_LZ (wr := []) (v := .long (zL (-9000000000000000002))) (g' := g) (rest := []) (vx_runSW (As := [.ref (b 0), .int (nI 0), .int (nI 1), .int (nI 6)]) (rest := []) ⟨hx, hb, hml, hown, hts⟩ (c_L_slips l hfl D ct sa G0 H.size b d g (nI 0) (nI 1) (nI 6) hI) (vx_cwSW 4 hts gL_refuses_L_slips rfl rfl rfl (by decide +kernel) ⟨Nat.le_of_ble_eq_true rfl, Nat.le_of_ble_eq_true rfl⟩) (hk_prxS hE (hkS_H hH hAG hS) ⟨rfl, hP.right (w1 := []), (hD.right (w1 := [])).weaken (fun _ _ _ h => hAG _ h)⟩) rfl rfl hl.1 rfl (lv_room (Nat.le_of_ble_eq_true rfl)) dL_refuses_156 ⟨by show _ ≤ 80; omega, by show _ ≤ 500; omega⟩) rfl hP hD hS hA (congrArg Value.long h9.1) h9.2 (fun d H locs hP hD hS => ?_)
  refine hk_ldcz (v := (-9000000000000000002)) (n := (-9000000000000000002)) hx hb (by decide +kernel) hown (hts (.constantLong RL 29 (-9000000000000000002)) (by decide +kernel)) dL_refuses_159 ?_
  refine zq_ne (x := (-9000000000000000002)) (y := (-9000000000000000002)) (tgt := 239) hx hb (rfl) dL_refuses_162 dL_refuses_163 (by decide) ?_
  refine lv_aload_n hx hb dL_refuses_166 rfl (lv_at hl 2 rfl) ?_
  refine lv_iconst (v := nI 0) hx hb dL_refuses_167 (by decide) ?_
  refine lv_iconst (v := nI 3) hx hb dL_refuses_168 (by decide) ?_
  refine lv_iconst (v := nI 1) hx hb dL_refuses_169 (by decide) ?_
  have h9 := lw1 (es := [(-9000000000000000001), (-9000000000000000002)]) (n := (-9000000000000000002)) (ref_slips hI h0 (y := nI 3) (z := nI 1) (by decide +kernel)) (by decide) (by decide +kernel)
  refine hk_LZ (wr := []) (v := .long (zL (-9000000000000000002))) (g' := g) (rest := []) (vx_runSW (As := [.ref (b 0), .int (nI 0), .int (nI 3), .int (nI 1)]) (rest := []) ⟨hx, hb, hml, hown, hts⟩ (c_L_slips l hfl D ct sa G0 H.size b d g (nI 0) (nI 3) (nI 1) hI) (vx_cwSW 4 hts gL_refuses_L_slips rfl rfl rfl (by decide +kernel) ⟨Nat.le_of_ble_eq_true rfl, Nat.le_of_ble_eq_true rfl⟩) (hk_prxS hE (hkS_H hH hAG hS) ⟨rfl, hP.right (w1 := []), (hD.right (w1 := [])).weaken (fun _ _ _ h => hAG _ h)⟩) rfl rfl hl.1 rfl (lv_room (Nat.le_of_ble_eq_true rfl)) dL_refuses_170 ⟨by show _ ≤ 80; omega, by show _ ≤ 500; omega⟩) rfl hP hD hS hA (congrArg Value.long h9.1) h9.2 (fun d H locs hP hD hS => ?_)
  refine hk_ldcz (v := (-9000000000000000002)) (n := (-9000000000000000002)) hx hb (by decide +kernel) hown (hts (.constantLong RL 29 (-9000000000000000002)) (by decide +kernel)) dL_refuses_173 ?_
  refine zq_ne (x := (-9000000000000000002)) (y := (-9000000000000000002)) (tgt := 239) hx hb (rfl) dL_refuses_176 dL_refuses_177 (by decide) ?_
  refine lv_aload_n hx hb dL_refuses_180 rfl (lv_at hl 2 rfl) ?_
  refine lv_iconst (v := nI 0) hx hb dL_refuses_181 (by decide) ?_
  refine lv_bipush (v := nI 12) hx hb dL_refuses_182 (by decide) ?_
  refine lv_iconst (v := nI 0) hx hb dL_refuses_184 (by decide) ?_
  have h9 := lw1 (es := [(-9000000000000000001)]) (n := (-9000000000000000001)) (ref_pair (g := g) (x := nI 0) (y := nI 12) (z := nI 0) (by decide +kernel)) (by decide) (by decide +kernel)
  refine hk_LZ (wr := []) (v := .long (zL (-9000000000000000001))) (g' := g) (rest := []) (vx_runSW (As := [.ref (b 0), .int (nI 0), .int (nI 12), .int (nI 0)]) (rest := []) ⟨hx, hb, hml, hown, hts⟩ (c_L_pair l hfl D ct sa G0 H.size b d g (nI 0) (nI 12) (nI 0) hI) (vx_cwSW 4 hts gL_refuses_L_pair rfl rfl rfl (by decide +kernel) ⟨Nat.le_of_ble_eq_true rfl, Nat.le_of_ble_eq_true rfl⟩) (hk_prxS hE (hkS_H hH hAG hS) ⟨rfl, hP.right (w1 := []), (hD.right (w1 := [])).weaken (fun _ _ _ h => hAG _ h)⟩) rfl rfl hl.1 rfl (lv_room (Nat.le_of_ble_eq_true rfl)) dL_refuses_185 ⟨by show _ ≤ 80; omega, by show _ ≤ 500; omega⟩) rfl hP hD hS hA (congrArg Value.long h9.1) h9.2 (fun d H locs hP hD hS => ?_)
  refine hk_ldcz (v := (-9000000000000000001)) (n := (-9000000000000000001)) hx hb (by decide +kernel) hown (hts (.constantLong RL 25 (-9000000000000000001)) (by decide +kernel)) dL_refuses_188 ?_
  refine zq_ne (x := (-9000000000000000001)) (y := (-9000000000000000001)) (tgt := 239) hx hb (rfl) dL_refuses_191 dL_refuses_192 (by decide) ?_
  refine lv_aload_n hx hb dL_refuses_195 rfl (lv_at hl 2 rfl) ?_
  refine lv_iconst (v := nI 0) hx hb dL_refuses_196 (by decide) ?_
  refine lv_iconst (v := (-1)) hx hb dL_refuses_197 (by decide) ?_
  have h9 := lw1 (es := [(-9000000000000000001)]) (n := (-9000000000000000001)) (ref_history (g := g) (x := nI 0) (y := -1) (by decide : (-1 : Int32) < 0)) (by decide) (by decide +kernel)
  refine hk_LZ (wr := []) (v := .long (zL (-9000000000000000001))) (g' := g) (rest := []) (vx_runSW (As := [.ref (b 0), .int (nI 0), .int (-1)]) (rest := []) ⟨hx, hb, hml, hown, hts⟩ (c_L_history l hfl D ct sa G0 H.size b d g (nI 0) (-1) hI) (vx_cwSW 3 hts gL_refuses_L_history rfl rfl rfl (by decide +kernel) ⟨Nat.le_of_ble_eq_true rfl, Nat.le_of_ble_eq_true rfl⟩) (hk_prxS hE (hkS_H hH hAG hS) ⟨rfl, hP.right (w1 := []), (hD.right (w1 := [])).weaken (fun _ _ _ h => hAG _ h)⟩) rfl rfl hl.1 rfl (lv_room (Nat.le_of_ble_eq_true rfl)) dL_refuses_198 ⟨by show _ ≤ 80; omega, by show _ ≤ 500; omega⟩) rfl hP hD hS hA (congrArg Value.long h9.1) h9.2 (fun d H locs hP hD hS => ?_)
  refine hk_ldcz (v := (-9000000000000000001)) (n := (-9000000000000000001)) hx hb (by decide +kernel) hown (hts (.constantLong RL 25 (-9000000000000000001)) (by decide +kernel)) dL_refuses_201 ?_
  refine zq_ne (x := (-9000000000000000001)) (y := (-9000000000000000001)) (tgt := 239) hx hb (rfl) dL_refuses_204 dL_refuses_205 (by decide) ?_
  refine lv_aload_n hx hb dL_refuses_208 rfl (lv_at hl 2 rfl) ?_
  refine lv_iconst (v := nI 0) hx hb dL_refuses_209 (by decide) ?_
  refine lv_iconst (v := (-1)) hx hb dL_refuses_210 (by decide) ?_
  have h9 := lw1 (es := [(-9000000000000000001)]) (n := (-9000000000000000001)) (ref_lesson (g := g) (x := nI 0) (y := -1) (by decide +kernel)) (by decide) (by decide +kernel)
  refine hk_LZ (wr := []) (v := .long (zL (-9000000000000000001))) (g' := g) (rest := []) (vx_runSW (As := [.ref (b 0), .int (nI 0), .int (-1)]) (rest := []) ⟨hx, hb, hml, hown, hts⟩ (c_L_lesson l hfl D ct sa G0 H.size b d g (nI 0) (-1) hI) (vx_cwSW 3 hts gL_refuses_L_lesson rfl rfl rfl (by decide +kernel) ⟨Nat.le_of_ble_eq_true rfl, Nat.le_of_ble_eq_true rfl⟩) (hk_prxS hE (hkS_H hH hAG hS) ⟨rfl, hP.right (w1 := []), (hD.right (w1 := [])).weaken (fun _ _ _ h => hAG _ h)⟩) rfl rfl hl.1 rfl (lv_room (Nat.le_of_ble_eq_true rfl)) dL_refuses_211 ⟨by show _ ≤ 80; omega, by show _ ≤ 500; omega⟩) rfl hP hD hS hA (congrArg Value.long h9.1) h9.2 (fun d H locs hP hD hS => ?_)
  refine hk_ldcz (v := (-9000000000000000001)) (n := (-9000000000000000001)) hx hb (by decide +kernel) hown (hts (.constantLong RL 25 (-9000000000000000001)) (by decide +kernel)) dL_refuses_214 ?_
  refine zq_ne (x := (-9000000000000000001)) (y := (-9000000000000000001)) (tgt := 239) hx hb (rfl) dL_refuses_217 dL_refuses_218 (by decide) ?_
  refine lv_aload_n hx hb dL_refuses_221 rfl (lv_at hl 2 rfl) ?_
  refine lv_iconst (v := nI 0) hx hb dL_refuses_222 (by decide) ?_
  refine lv_iconst (v := nI 1) hx hb dL_refuses_223 (by decide) ?_
  refine lv_iconst (v := nI 1) hx hb dL_refuses_224 (by decide) ?_
  have h9 := lw1 (es := [(-9000000000000000001), (-9000000000000000002)]) (n := (-9000000000000000002)) (ref_saves hI h0 (x := 1) (by omega)) (by decide) (by decide +kernel)
  refine hk_LZ (wr := []) (v := .long (zL (-9000000000000000002))) (g' := g) (rest := []) (vx_runSW (As := [.ref (b 0), .int (nI 0), .int (nI 1), .int (nI 1)]) (rest := []) ⟨hx, hb, hml, hown, hts⟩ (c_L_saves l hfl D ct sa G0 H.size b d g (nI 0) (nI 1) (nI 1) hI) (vx_cwSW 4 hts gL_refuses_L_saves rfl rfl rfl (by decide +kernel) ⟨Nat.le_of_ble_eq_true rfl, Nat.le_of_ble_eq_true rfl⟩) (hk_prxS hE (hkS_H hH hAG hS) ⟨rfl, hP.right (w1 := []), (hD.right (w1 := [])).weaken (fun _ _ _ h => hAG _ h)⟩) rfl rfl hl.1 rfl (lv_room (Nat.le_of_ble_eq_true rfl)) dL_refuses_225 ⟨by show _ ≤ 80; omega, by show _ ≤ 500; omega⟩) rfl hP hD hS hA (congrArg Value.long h9.1) h9.2 (fun d H locs hP hD hS => ?_)
  refine hk_ldcz (v := (-9000000000000000002)) (n := (-9000000000000000002)) hx hb (by decide +kernel) hown (hts (.constantLong RL 29 (-9000000000000000002)) (by decide +kernel)) dL_refuses_228 ?_
  refine zq_ne (x := (-9000000000000000002)) (y := (-9000000000000000002)) (tgt := 239) hx hb (rfl) dL_refuses_231 dL_refuses_232 (by decide) ?_
  refine lv_iconst (v := nI 1) hx hb dL_refuses_235 (by decide) ?_
  refine lv_goto (tgt := 240) hx hb dL_refuses_236 (by decide) ?_
  refine lv_istore (lv' := [(5, .int (nI 1)), (3, .long (zL ((tZ (gS g 0) : Nat) : Int))), (1, .long (zL ((nC (gS g 0) : Nat) : Int))), (0, .ref (b 0))]) hx hb dL_refuses_240 hl (by decide) rfl (fun ls hl => ?_)
  refine lv_iload hx hb dL_refuses_242 (lv_at hl 0 rfl) ?_
  refine hk_eq0N (tgt := 351) hx hb (by omega) dL_refuses_244 (by decide) (fun hq => absurd hq (by decide)) (fun _ => ?_)
  refine lv_aload_n hx hb dL_refuses_247 rfl (lv_at hl 3 rfl) ?_
  refine lv_bipush (v := nI 12) hx hb dL_refuses_248 (by decide) ?_
  have h9 := lw1 (es := [(-9000000000000000001), (-9000000000000000003)]) (n := (-9000000000000000001)) (ref_draft (g := g) (x := nI 12) (by decide +kernel)) (by decide) (by decide +kernel)
  refine hk_LZ (wr := []) (v := .long (zL (-9000000000000000001))) (g' := g) (rest := []) (vx_runSW (As := [.ref (b 0), .int (nI 12)]) (rest := []) ⟨hx, hb, hml, hown, hts⟩ (c_L_draft l hfl D ct sa G0 H.size b d g (nI 12) hI) (vx_cwSW 2 hts gL_refuses_L_draft rfl rfl rfl (by decide +kernel) ⟨Nat.le_of_ble_eq_true rfl, Nat.le_of_ble_eq_true rfl⟩) (hk_prxS hE (hkS_H hH hAG hS) ⟨rfl, hP.right (w1 := []), (hD.right (w1 := [])).weaken (fun _ _ _ h => hAG _ h)⟩) rfl rfl hl.1 rfl (lv_room (Nat.le_of_ble_eq_true rfl)) dL_refuses_250 ⟨by show _ ≤ 80; omega, by show _ ≤ 500; omega⟩) rfl hP hD hS hA (congrArg Value.long h9.1) h9.2 (fun d H locs hP hD hS => ?_)
  refine hk_ldcz (v := (-9000000000000000001)) (n := (-9000000000000000001)) hx hb (by decide +kernel) hown (hts (.constantLong RL 25 (-9000000000000000001)) (by decide +kernel)) dL_refuses_253 ?_
  refine zq_ne (x := (-9000000000000000001)) (y := (-9000000000000000001)) (tgt := 351) hx hb (rfl) dL_refuses_256 dL_refuses_257 (by decide) ?_
  refine lv_aload_n hx hb dL_refuses_260 rfl (lv_at hl 3 rfl) ?_
  refine lv_bipush (v := nI 6) hx hb dL_refuses_261 (by decide) ?_
  refine lv_iconst (v := nI 0) hx hb dL_refuses_263 (by decide) ?_
  refine lv_iconst (v := nI 1) hx hb dL_refuses_264 (by decide) ?_
  have h9 := lw1 (es := [(-9000000000000000001), (-9000000000000000002), (-9000000000000000003)]) (n := (-9000000000000000001)) (ref_result hI (y := nI 0) (z := nI 1)) (by decide) (by decide +kernel)
  refine hk_LZ (wr := []) (v := .long (zL (-9000000000000000001))) (g' := g) (rest := []) (vx_runSW (As := [.ref (b 0), .int (nI 6), .int (nI 0), .int (nI 1)]) (rest := []) ⟨hx, hb, hml, hown, hts⟩ (c_L_result l hfl D ct sa G0 H.size b d g (nI 6) (nI 0) (nI 1) hI) (vx_cwSW 4 hts gL_refuses_L_result rfl rfl rfl (by decide +kernel) ⟨Nat.le_of_ble_eq_true rfl, Nat.le_of_ble_eq_true rfl⟩) (hk_prxS hE (hkS_H hH hAG hS) ⟨rfl, hP.right (w1 := []), (hD.right (w1 := [])).weaken (fun _ _ _ h => hAG _ h)⟩) rfl rfl hl.1 rfl (lv_room (Nat.le_of_ble_eq_true rfl)) dL_refuses_265 ⟨by show _ ≤ 80; omega, by show _ ≤ 500; omega⟩) rfl hP hD hS hA (congrArg Value.long h9.1) h9.2 (fun d H locs hP hD hS => ?_)
  refine hk_ldcz (v := (-9000000000000000001)) (n := (-9000000000000000001)) hx hb (by decide +kernel) hown (hts (.constantLong RL 25 (-9000000000000000001)) (by decide +kernel)) dL_refuses_268 ?_
  refine zq_ne (x := (-9000000000000000001)) (y := (-9000000000000000001)) (tgt := 351) hx hb (rfl) dL_refuses_271 dL_refuses_272 (by decide) ?_
  refine lv_aload_n hx hb dL_refuses_275 rfl (lv_at hl 3 rfl) ?_
  refine lv_iconst (v := (-1)) hx hb dL_refuses_276 (by decide) ?_
  refine lv_iconst (v := nI 0) hx hb dL_refuses_277 (by decide) ?_
  refine lv_iconst (v := nI 0) hx hb dL_refuses_278 (by decide) ?_
  have h9 := lw1 (es := [(-9000000000000000001), (-9000000000000000002)]) (n := (-9000000000000000001)) (ref_of (g := g) (x := -1) (y := nI 0) (z := nI 0) (by decide : (-1 : Int32) < 0)) (by decide) (by decide +kernel)
  refine hk_LZ (wr := []) (v := .long (zL (-9000000000000000001))) (g' := g) (rest := []) (vx_runSW (As := [.ref (b 0), .int (-1), .int (nI 0), .int (nI 0)]) (rest := []) ⟨hx, hb, hml, hown, hts⟩ (c_L_of l hfl D ct sa G0 H.size b d g (-1) (nI 0) (nI 0) hI) (vx_cwSW 4 hts gL_refuses_L_of rfl rfl rfl (by decide +kernel) ⟨Nat.le_of_ble_eq_true rfl, Nat.le_of_ble_eq_true rfl⟩) (hk_prxS hE (hkS_H hH hAG hS) ⟨rfl, hP.right (w1 := []), (hD.right (w1 := [])).weaken (fun _ _ _ h => hAG _ h)⟩) rfl rfl hl.1 rfl (lv_room (Nat.le_of_ble_eq_true rfl)) dL_refuses_279 ⟨by show _ ≤ 80; omega, by show _ ≤ 500; omega⟩) rfl hP hD hS hA (congrArg Value.long h9.1) h9.2 (fun d H locs hP hD hS => ?_)
  refine hk_ldcz (v := (-9000000000000000001)) (n := (-9000000000000000001)) hx hb (by decide +kernel) hown (hts (.constantLong RL 25 (-9000000000000000001)) (by decide +kernel)) dL_refuses_282 ?_
  refine zq_ne (x := (-9000000000000000001)) (y := (-9000000000000000001)) (tgt := 351) hx hb (rfl) dL_refuses_285 dL_refuses_286 (by decide) ?_
  refine lv_aload_n hx hb dL_refuses_289 rfl (lv_at hl 3 rfl) ?_
  refine lv_bipush (v := nI 6) hx hb dL_refuses_290 (by decide) ?_
  refine lv_iconst (v := nI 0) hx hb dL_refuses_292 (by decide) ?_
  have h9 := lw1 (es := [(-9000000000000000001)]) (n := (-9000000000000000001)) (ref_ranked hI (y := nI 0)) (by decide) (by decide +kernel)
  refine hk_LZ (wr := []) (v := .long (zL (-9000000000000000001))) (g' := g) (rest := []) (vx_runSW (As := [.ref (b 0), .int (nI 6), .int (nI 0)]) (rest := []) ⟨hx, hb, hml, hown, hts⟩ (c_L_ranked l hfl D ct sa G0 H.size b d g (nI 6) (nI 0) hI) (vx_cwSW 3 hts gL_refuses_L_ranked rfl rfl rfl (by decide +kernel) ⟨Nat.le_of_ble_eq_true rfl, Nat.le_of_ble_eq_true rfl⟩) (hk_prxS hE (hkS_H hH hAG hS) ⟨rfl, hP.right (w1 := []), (hD.right (w1 := [])).weaken (fun _ _ _ h => hAG _ h)⟩) rfl rfl hl.1 rfl (lv_room (Nat.le_of_ble_eq_true rfl)) dL_refuses_293 ⟨by show _ ≤ 80; omega, by show _ ≤ 500; omega⟩) rfl hP hD hS hA (congrArg Value.long h9.1) h9.2 (fun d H locs hP hD hS => ?_)
  refine hk_ldcz (v := (-9000000000000000001)) (n := (-9000000000000000001)) hx hb (by decide +kernel) hown (hts (.constantLong RL 25 (-9000000000000000001)) (by decide +kernel)) dL_refuses_296 ?_
  refine zq_ne (x := (-9000000000000000001)) (y := (-9000000000000000001)) (tgt := 351) hx hb (rfl) dL_refuses_299 dL_refuses_300 (by decide) ?_
  refine lv_aload_n hx hb dL_refuses_303 rfl (lv_at hl 3 rfl) ?_
  refine lv_iconst (v := nI 5) hx hb dL_refuses_304 (by decide) ?_
  have h9 := lw1 (es := [(-9000000000000000001)]) (n := (-9000000000000000001)) (ref_best hI) (by decide) (by decide +kernel)
  refine hk_LZ (wr := []) (v := .long (zL (-9000000000000000001))) (g' := g) (rest := []) (vx_runSW (As := [.ref (b 0), .int (nI 5)]) (rest := []) ⟨hx, hb, hml, hown, hts⟩ (c_L_best l hfl D ct sa G0 H.size b d g (nI 5) hI) (vx_cwSW 2 hts gL_refuses_L_best rfl rfl rfl (by decide +kernel) ⟨Nat.le_of_ble_eq_true rfl, Nat.le_of_ble_eq_true rfl⟩) (hk_prxS hE (hkS_H hH hAG hS) ⟨rfl, hP.right (w1 := []), (hD.right (w1 := [])).weaken (fun _ _ _ h => hAG _ h)⟩) rfl rfl hl.1 rfl (lv_room (Nat.le_of_ble_eq_true rfl)) dL_refuses_305 ⟨by show _ ≤ 80; omega, by show _ ≤ 500; omega⟩) rfl hP hD hS hA (congrArg Value.long h9.1) h9.2 (fun d H locs hP hD hS => ?_)
  refine hk_ldcz (v := (-9000000000000000001)) (n := (-9000000000000000001)) hx hb (by decide +kernel) hown (hts (.constantLong RL 25 (-9000000000000000001)) (by decide +kernel)) dL_refuses_308 ?_
  refine zq_ne (x := (-9000000000000000001)) (y := (-9000000000000000001)) (tgt := 351) hx hb (rfl) dL_refuses_311 dL_refuses_312 (by decide) ?_
  refine lv_aload_n hx hb dL_refuses_315 rfl (lv_at hl 3 rfl) ?_
  refine lv_iconst (v := (-1)) hx hb dL_refuses_316 (by decide) ?_
  have h9 := lw1 (es := [(-9000000000000000001)]) (n := (-9000000000000000001)) (ref_time (g := g) (x := -1) (by decide : (-1 : Int32) < 0)) (by decide) (by decide +kernel)
  refine hk_LZ (wr := []) (v := .long (zL (-9000000000000000001))) (g' := g) (rest := []) (vx_runSW (As := [.ref (b 0), .int (-1)]) (rest := []) ⟨hx, hb, hml, hown, hts⟩ (c_L_timeAnew l hfl D ct sa G0 H.size b d g (-1) hI) (vx_cwSW 2 hts gL_refuses_L_timeAnew rfl rfl rfl (by decide +kernel) ⟨Nat.le_of_ble_eq_true rfl, Nat.le_of_ble_eq_true rfl⟩) (hk_prxS hE (hkS_H hH hAG hS) ⟨rfl, hP.right (w1 := []), (hD.right (w1 := [])).weaken (fun _ _ _ h => hAG _ h)⟩) rfl rfl hl.1 rfl (lv_room (Nat.le_of_ble_eq_true rfl)) dL_refuses_317 ⟨by show _ ≤ 80; omega, by show _ ≤ 500; omega⟩) rfl hP hD hS hA (congrArg Value.long h9.1) h9.2 (fun d H locs hP hD hS => ?_)
  refine hk_ldcz (v := (-9000000000000000001)) (n := (-9000000000000000001)) hx hb (by decide +kernel) hown (hts (.constantLong RL 25 (-9000000000000000001)) (by decide +kernel)) dL_refuses_320 ?_
  refine zq_ne (x := (-9000000000000000001)) (y := (-9000000000000000001)) (tgt := 351) hx hb (rfl) dL_refuses_323 dL_refuses_324 (by decide) ?_
  refine lv_aload_n hx hb dL_refuses_327 rfl (lv_at hl 3 rfl) ?_
  refine lv_iconst (v := nI 0) hx hb dL_refuses_328 (by decide) ?_
  have h9 := lwN (es := [(-9000000000000000001)]) (e_pressed hI h0 hj) (by omega)
  refine hk_LZ (wr := []) (v := .long (zL ((nC (gS g 0) : Nat) : Int))) (g' := g) (rest := []) (vx_runSW (As := [.ref (b 0), .int (nI 0)]) (rest := []) ⟨hx, hb, hml, hown, hts⟩ (c_L_pressed l hfl D ct sa G0 H.size b d g (nI 0) hI) (vx_cwSW 2 hts gL_refuses_L_pressed rfl rfl rfl (by decide +kernel) ⟨Nat.le_of_ble_eq_true rfl, Nat.le_of_ble_eq_true rfl⟩) (hk_prxS hE (hkS_H hH hAG hS) ⟨rfl, hP.right (w1 := []), (hD.right (w1 := [])).weaken (fun _ _ _ h => hAG _ h)⟩) rfl rfl hl.1 rfl (lv_room (Nat.le_of_ble_eq_true rfl)) dL_refuses_329 ⟨by show _ ≤ 80; omega, by show _ ≤ 500; omega⟩) rfl hP hD hS hA (congrArg Value.long h9.1) h9.2 (fun d H locs hP hD hS => ?_)
  refine lv_lload_n hx hb dL_refuses_332 rfl (lv_at hl 2 rfl) ?_
  refine zq_ne (x := ((nC (gS g 0) : Nat) : Int)) (y := ((nC (gS g 0) : Nat) : Int)) (tgt := 351) hx hb (rfl) dL_refuses_333 dL_refuses_334 (by decide) ?_
  refine lv_aload_n hx hb dL_refuses_337 rfl (lv_at hl 3 rfl) ?_
  refine lv_iconst (v := nI 0) hx hb dL_refuses_338 (by decide) ?_
  have h9 := lwN (es := [(-9000000000000000001)]) (e_time hI h0) (by omega)
  refine hk_LZ (wr := []) (v := .long (zL ((tZ (gS g 0) : Nat) : Int))) (g' := g) (rest := []) (vx_runSW (As := [.ref (b 0), .int (nI 0)]) (rest := []) ⟨hx, hb, hml, hown, hts⟩ (c_L_time l hfl D ct sa G0 H.size b d g (nI 0) hI) (vx_cwSW 2 hts gL_refuses_L_time rfl rfl rfl (by decide +kernel) ⟨Nat.le_of_ble_eq_true rfl, Nat.le_of_ble_eq_true rfl⟩) (hk_prxS hE (hkS_H hH hAG hS) ⟨rfl, hP.right (w1 := []), (hD.right (w1 := [])).weaken (fun _ _ _ h => hAG _ h)⟩) rfl rfl hl.1 rfl (lv_room (Nat.le_of_ble_eq_true rfl)) dL_refuses_339 ⟨by show _ ≤ 80; omega, by show _ ≤ 500; omega⟩) rfl hP hD hS hA (congrArg Value.long h9.1) h9.2 (fun d H locs hP hD hS => ?_)
  refine lv_lload_n hx hb dL_refuses_342 rfl (lv_at hl 1 rfl) ?_
  refine zq_ne (x := ((tZ (gS g 0) : Nat) : Int)) (y := ((tZ (gS g 0) : Nat) : Int)) (tgt := 351) hx hb (rfl) dL_refuses_343 dL_refuses_344 (by decide) ?_
  refine lv_iconst (v := nI 1) hx hb dL_refuses_347 (by decide) ?_
  refine lv_goto (tgt := 352) hx hb dL_refuses_348 (by decide) ?_
  refine W.widen (k := 80) (n := 500) (by omega) (by omega) ?_
  exact W.zret (v := nI 1) hx hb hr rfl (fun t ht hW => ⟨rfl, ⟨d, by rw [ht]; exact hP, hD⟩, hS.F ht⟩) hS.2.2 dL_refuses_352
