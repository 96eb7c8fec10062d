theorem lwT {es : List Int64} {z : Op} {v : Int32} {n : Int} {g : Sg} (e : z = (0, v, g)) (hv : v.toInt = n) : lw es z = zL n ∧ z.2.2 = g := by
  subst hv
  exact lwI e
set_option maxHeartbeats 4000000 in
set_option maxRecDepth 100000 in
theorem c_L_lessonHolds (l : Launch) (hfl : l.flags = flags0) (D : va_G) (ct : Nat → ClassId) (sa : Nat → Nat) (G0 : Nat) (sz : Nat) (b : Nat → Nat) (d : Ad) (g : Sg) (aa : Nat) (hI : Inv g) (hJ : Jg 1000 g) (ha : aa < gN g) : Met l yL_lessonHolds wsL_lessonHolds ({ frames := 9, cells := 100, slots := 600, locals := 152 }) (hkPx D ct sa G0 [.ref (b 0), .int (nI aa)] (hkZP D ct b d g G0 sz)) (hkZQ D ct b (va_A (hkW ct b d g) sz) (.int 1) g) 100 600 (va_A (hkW ct b d g) sz) := by
  refine Met.ofW (cc := cL_lessonHolds) (maxL := 12) (ret := (some .boolean)) (by decide) rfl ?_
  intro p e s m args below meth c s₁ B hml hv
  obtain ⟨rfl, hE, hH, hp⟩ := hv
  have hx := B.exec
  have hb := B.bytes
  have hr := B.returns
  have hts := atoms_spec (ws := wsL_lessonHolds) B.pre
  have hown : s.vm.findClass RL = some m.cls := findClass_of_methodNamed B.named
  have hlocks := B.notSynchronized
  obtain ⟨hsz, hP, hDG⟩ := hp
  subst hsz
  have hD := hDG.self (sz := s.heap.size)
  have hAG := hkA_G (sz := s.heap.size) hDG hH.1
  generalize hAe : va_A (hkW ct b d g) s.heap.size = A at hD hAG ⊢
  have hA : ∀ q : Nat, s.heap.size ≤ q → A q := fun q h => by rw [← hAe]; exact Or.inr h
  have hS : va_S A s.heap s.heap [] := va_S.rf
  have hu : Ist (gS g aa) := hI.2.2.2.1 aa
  have hj : Jst 1000 (gS g aa) := hJ.1 aa
  have hN5 : gN g ≤ 5 := hI.1
  have hall : sm (cS (gS g aa)) 12 ≤ 1000 := Nat.le_trans hj.2.2.2.2.2.1 hj.2.2.2.2.1
  have hcS : ∀ k, k < 12 → cS (gS g aa) k ≤ 1000 := fun k hk => Nat.le_trans (cS_le hj hk) hall
  obtain ⟨-, l0, -⟩ := les_ok (gS g aa) (z := 0) (by omega)
  obtain ⟨-, l1, -⟩ := les_ok (gS g aa) (z := 1) (by omega)
  obtain ⟨-, l2, -⟩ := les_ok (gS g aa) (z := 2) (by omega)
  have n01 := les_ne (gS g aa) (y := 0) (z := 1) (by omega) (by omega) (by omega)
  have n02 := les_ne (gS g aa) (y := 0) (z := 2) (by omega) (by omega) (by omega)
  have n12 := les_ne (gS g aa) (y := 1) (z := 2) (by omega) (by omega) (by omega)
  have le12 := les_le hj (y := 1) (z := 2) (by omega) (by omega)
  have hl := lv_entry ([.ref (b 0), .int (nI aa)]) (n := 12) (Nat.le_of_ble_eq_true rfl)
  rw [lg_entry_eq]
  generalize (lg_sl ([.ref (b 0), .int (nI aa)]) ++ List.replicate (12 - (lg_sl ([.ref (b 0), .int (nI aa)])).length) Slot.unset).toArray = ls at hl ⊢
  have hl : lv_has ls 12 [(0, .ref (b 0)), (1, .int (nI aa))] := hl
  refine lv_aload_n hx hb dL_lessonHolds_0 rfl (lv_at hl 0 rfl) ?_
  refine lv_iload_n hx hb dL_lessonHolds_1 rfl (lv_at hl 1 rfl) ?_
  refine lv_iconst (v := nI 0) hx hb dL_lessonHolds_2 (by decide) ?_
  have h9 := lwN (es := [(-9000000000000000001)]) (e_lesson (p := 0) (z := 0) hI ha (by omega) rfl) (by omega)
  refine hk_LZ (wr := []) (v := .long (zL ((les (gS g aa) 0 : Nat) : Int))) (g' := g) (rest := []) (vx_runSW (As := [.ref (b 0), .int (nI aa), .int (nI 0)]) (rest := []) ⟨hx, hb, hml, hown, hts⟩ (c_L_lesson l hfl D ct sa G0 s.heap.size b d g (nI aa) (nI 0) hI) (vx_cwSW 3 hts gL_lessonHolds_L_lesson rfl rfl rfl (by decide +kernel) ⟨Nat.le_of_ble_eq_true rfl, Nat.le_of_ble_eq_true rfl⟩) (hk_prxS hE (hkS_H hH hAG hS) ⟨rfl, hP.right (w1 := []), (hD.right (w1 := [])).weaken (fun _ _ _ h => hAG _ h)⟩) rfl rfl hl.1 rfl (lv_room (Nat.le_of_ble_eq_true rfl)) dL_lessonHolds_3 ⟨by show _ ≤ 100; omega, by show _ ≤ 600; omega⟩) rfl hP hD hS hA (congrArg Value.long h9.1) h9.2 (fun d H locs hP hD hS => ?_)
  refine lv_lstore_n (lv' := [(2, .long (zL ((les (gS g aa) 0 : Nat) : Int))), (0, .ref (b 0)), (1, .int (nI aa))]) hx hb dL_lessonHolds_6 rfl hl (by decide) rfl (fun ls hl => ?_)
  refine lv_aload_n hx hb dL_lessonHolds_7 rfl (lv_at hl 1 rfl) ?_
  refine lv_iload_n hx hb dL_lessonHolds_8 rfl (lv_at hl 2 rfl) ?_
  refine lv_iconst (v := nI 1) hx hb dL_lessonHolds_9 (by decide) ?_
  have h9 := lwN (es := [(-9000000000000000001)]) (e_lesson (p := 1) (z := 1) hI ha (by omega) rfl) (by omega)
  refine hk_LZ (wr := []) (v := .long (zL ((les (gS g aa) 1 : Nat) : Int))) (g' := g) (rest := []) (vx_runSW (As := [.ref (b 0), .int (nI aa), .int (nI 1)]) (rest := []) ⟨hx, hb, hml, hown, hts⟩ (c_L_lesson l hfl D ct sa G0 H.size b d g (nI aa) (nI 1) hI) (vx_cwSW 3 hts gL_lessonHolds_L_lesson rfl rfl rfl (by decide +kernel) ⟨Nat.le_of_ble_eq_true rfl, Nat.le_of_ble_eq_true rfl⟩) (hk_prxS hE (hkS_H hH hAG hS) ⟨rfl, hP.right (w1 := []), (hD.right (w1 := [])).weaken (fun _ _ _ h => hAG _ h)⟩) rfl rfl hl.1 rfl (lv_room (Nat.le_of_ble_eq_true rfl)) dL_lessonHolds_10 ⟨by show _ ≤ 100; omega, by show _ ≤ 600; omega⟩) rfl hP hD hS hA (congrArg Value.long h9.1) h9.2 (fun d H locs hP hD hS => ?_)
  refine lv_lstore (lv' := [(4, .long (zL ((les (gS g aa) 1 : Nat) : Int))), (2, .long (zL ((les (gS g aa) 0 : Nat) : Int))), (0, .ref (b 0)), (1, .int (nI aa))]) hx hb dL_lessonHolds_13 hl (by decide) rfl (fun ls hl => ?_)
  refine lv_aload_n hx hb dL_lessonHolds_15 rfl (lv_at hl 2 rfl) ?_
  refine lv_iload_n hx hb dL_lessonHolds_16 rfl (lv_at hl 3 rfl) ?_
  refine lv_iconst (v := nI 2) hx hb dL_lessonHolds_17 (by decide) ?_
  have h9 := lwN (es := [(-9000000000000000001)]) (e_lesson (p := 2) (z := 2) hI ha (by omega) rfl) (by omega)
  refine hk_LZ (wr := []) (v := .long (zL ((les (gS g aa) 2 : Nat) : Int))) (g' := g) (rest := []) (vx_runSW (As := [.ref (b 0), .int (nI aa), .int (nI 2)]) (rest := []) ⟨hx, hb, hml, hown, hts⟩ (c_L_lesson l hfl D ct sa G0 H.size b d g (nI aa) (nI 2) hI) (vx_cwSW 3 hts gL_lessonHolds_L_lesson rfl rfl rfl (by decide +kernel) ⟨Nat.le_of_ble_eq_true rfl, Nat.le_of_ble_eq_true rfl⟩) (hk_prxS hE (hkS_H hH hAG hS) ⟨rfl, hP.right (w1 := []), (hD.right (w1 := [])).weaken (fun _ _ _ h => hAG _ h)⟩) rfl rfl hl.1 rfl (lv_room (Nat.le_of_ble_eq_true rfl)) dL_lessonHolds_18 ⟨by show _ ≤ 100; omega, by show _ ≤ 600; omega⟩) rfl hP hD hS hA (congrArg Value.long h9.1) h9.2 (fun d H locs hP hD hS => ?_)
  refine lv_lstore (lv' := [(6, .long (zL ((les (gS g aa) 2 : Nat) : Int))), (4, .long (zL ((les (gS g aa) 1 : Nat) : Int))), (2, .long (zL ((les (gS g aa) 0 : Nat) : Int))), (0, .ref (b 0)), (1, .int (nI aa))]) hx hb dL_lessonHolds_21 hl (by decide) rfl (fun ls hl => ?_)
  refine lv_aload_n hx hb dL_lessonHolds_23 rfl (lv_at hl 3 rfl) ?_
  refine lv_iload_n hx hb dL_lessonHolds_24 rfl (lv_at hl 4 rfl) ?_
  refine lv_iconst (v := nI 0) hx hb dL_lessonHolds_25 (by decide) ?_
  refine lv_aload_n hx hb dL_lessonHolds_26 rfl (lv_at hl 3 rfl) ?_
  refine lv_iload_n hx hb dL_lessonHolds_27 rfl (lv_at hl 4 rfl) ?_
  refine lv_lload hx hb dL_lessonHolds_28 (lv_at hl 0 rfl) ?_
  refine hk_l2iz (n := les (gS g aa) 2) hx hb dL_lessonHolds_30 ?_
  have h9 := lwN (es := [(-9000000000000000001)]) (e_keyOf hI ha l2) (Nat.lt_trans (hu.1 _ l2) (by omega))
  refine hk_LZ (wr := []) (v := .long (zL ((sK (gS g aa) (les (gS g aa) 2) : Nat) : Int))) (g' := g) (rest := [.int (nI 0), .int (nI aa), .ref (b 0)]) (vx_runSW (As := [.ref (b 0), .int (nI aa), .int (nI (les (gS g aa) 2))]) (rest := [.int (nI 0), .int (nI aa), .ref (b 0)]) ⟨hx, hb, hml, hown, hts⟩ (c_L_keyOf l hfl D ct sa G0 H.size b d g (nI aa) (nI (les (gS g aa) 2)) hI) (vx_cwSW 3 hts gL_lessonHolds_L_keyOf rfl rfl rfl (by decide +kernel) ⟨Nat.le_of_ble_eq_true rfl, Nat.le_of_ble_eq_true rfl⟩) (hk_prxS hE (hkS_H hH hAG hS) ⟨rfl, hP.right (w1 := []), (hD.right (w1 := [])).weaken (fun _ _ _ h => hAG _ h)⟩) rfl rfl hl.1 rfl (lv_room (Nat.le_of_ble_eq_true rfl)) dL_lessonHolds_31 ⟨by show _ ≤ 100; omega, by show _ ≤ 600; omega⟩) rfl hP hD hS hA (congrArg Value.long h9.1) h9.2 (fun d H locs hP hD hS => ?_)
  refine hk_l2iz (n := sK (gS g aa) (les (gS g aa) 2)) hx hb dL_lessonHolds_34 ?_
  have hk9 := hcS (sK (gS g aa) (les (gS g aa) 2)) (hu.1 _ l2)
  have h9 := lwN (es := [(-9000000000000000001), (-9000000000000000002)]) (e_slips hI ha (grk_ok (n := 12) (by decide) (hu.1 _ l2) (by omega)) (sl_k hj (hu.1 _ l2))) (by omega)
  refine hk_LZ (wr := []) (v := .long (zL ((cS (gS g aa) (sK (gS g aa) (les (gS g aa) 2)) : Nat) : Int))) (g' := g) (rest := []) (vx_runSW (As := [.ref (b 0), .int (nI aa), .int (nI 0), .int (nI (sK (gS g aa) (les (gS g aa) 2)))]) (rest := []) ⟨hx, hb, hml, hown, hts⟩ (c_L_slips l hfl D ct sa G0 H.size b d g (nI aa) (nI 0) (nI (sK (gS g aa) (les (gS g aa) 2))) hI) (vx_cwSW 4 hts gL_lessonHolds_L_slips rfl rfl rfl (by decide +kernel) ⟨Nat.le_of_ble_eq_true rfl, Nat.le_of_ble_eq_true rfl⟩) (hk_prxS hE (hkS_H hH hAG hS) ⟨rfl, hP.right (w1 := []), (hD.right (w1 := [])).weaken (fun _ _ _ h => hAG _ h)⟩) rfl rfl hl.1 rfl (lv_room (Nat.le_of_ble_eq_true rfl)) dL_lessonHolds_35 ⟨by show _ ≤ 100; omega, by show _ ≤ 600; omega⟩) rfl hP hD hS hA (congrArg Value.long h9.1) h9.2 (fun d H locs hP hD hS => ?_)
  have k2 := hk9
  refine lv_lstore (lv' := [(8, .long (zL ((cS (gS g aa) (sK (gS g aa) (les (gS g aa) 2)) : Nat) : Int))), (6, .long (zL ((les (gS g aa) 2 : Nat) : Int))), (4, .long (zL ((les (gS g aa) 1 : Nat) : Int))), (2, .long (zL ((les (gS g aa) 0 : Nat) : Int))), (0, .ref (b 0)), (1, .int (nI aa))]) hx hb dL_lessonHolds_38 hl (by decide) rfl (fun ls hl => ?_)
  refine lv_lload_n hx hb dL_lessonHolds_40 rfl (lv_at hl 3 rfl) ?_
  refine lv_lload hx hb dL_lessonHolds_41 (lv_at hl 2 rfl) ?_
  refine zc_eq (x := ((les (gS g aa) 0 : Nat) : Int)) (y := ((les (gS g aa) 1 : Nat) : Int)) (tgt := 126) hx hb (by omega) (by omega) (by omega) (by omega) dL_lessonHolds_43 dL_lessonHolds_44 (by decide) (fun hq => absurd hq (by omega)) (fun _ => ?_)
  refine lv_lload_n hx hb dL_lessonHolds_47 rfl (lv_at hl 3 rfl) ?_
  refine lv_lload hx hb dL_lessonHolds_48 (lv_at hl 1 rfl) ?_
  refine zc_eq (x := ((les (gS g aa) 0 : Nat) : Int)) (y := ((les (gS g aa) 2 : Nat) : Int)) (tgt := 126) hx hb (by omega) (by omega) (by omega) (by omega) dL_lessonHolds_50 dL_lessonHolds_51 (by decide) (fun hq => absurd hq (by omega)) (fun _ => ?_)
  refine lv_lload hx hb dL_lessonHolds_54 (lv_at hl 2 rfl) ?_
  refine lv_lload hx hb dL_lessonHolds_56 (lv_at hl 1 rfl) ?_
  refine zc_eq (x := ((les (gS g aa) 1 : Nat) : Int)) (y := ((les (gS g aa) 2 : Nat) : Int)) (tgt := 126) hx hb (by omega) (by omega) (by omega) (by omega) dL_lessonHolds_58 dL_lessonHolds_59 (by decide) (fun hq => absurd hq (by omega)) (fun _ => ?_)
  refine lv_aload_n hx hb dL_lessonHolds_62 rfl (lv_at hl 4 rfl) ?_
  refine lv_iload_n hx hb dL_lessonHolds_63 rfl (lv_at hl 5 rfl) ?_
  refine lv_bipush (v := nI 99) hx hb dL_lessonHolds_64 (by decide) ?_
  have h9 := lwN (es := [(-9000000000000000001)]) (e_lesson (p := 99) (z := 0) hI ha (by omega) rfl) (by omega)
  refine hk_LZ (wr := []) (v := .long (zL ((les (gS g aa) 0 : Nat) : Int))) (g' := g) (rest := []) (vx_runSW (As := [.ref (b 0), .int (nI aa), .int (nI 99)]) (rest := []) ⟨hx, hb, hml, hown, hts⟩ (c_L_lesson l hfl D ct sa G0 H.size b d g (nI aa) (nI 99) hI) (vx_cwSW 3 hts gL_lessonHolds_L_lesson rfl rfl rfl (by decide +kernel) ⟨Nat.le_of_ble_eq_true rfl, Nat.le_of_ble_eq_true rfl⟩) (hk_prxS hE (hkS_H hH hAG hS) ⟨rfl, hP.right (w1 := []), (hD.right (w1 := [])).weaken (fun _ _ _ h => hAG _ h)⟩) rfl rfl hl.1 rfl (lv_room (Nat.le_of_ble_eq_true rfl)) dL_lessonHolds_66 ⟨by show _ ≤ 100; omega, by show _ ≤ 600; omega⟩) rfl hP hD hS hA (congrArg Value.long h9.1) h9.2 (fun d H locs hP hD hS => ?_)
  refine lv_lload_n hx hb dL_lessonHolds_69 rfl (lv_at hl 3 rfl) ?_
  refine zq_ne (x := ((les (gS g aa) 0 : Nat) : Int)) (y := ((les (gS g aa) 0 : Nat) : Int)) (tgt := 126) hx hb (rfl) dL_lessonHolds_70 dL_lessonHolds_71 (by decide) ?_
  refine lv_aload_n hx hb dL_lessonHolds_74 rfl (lv_at hl 4 rfl) ?_
  refine lv_iload_n hx hb dL_lessonHolds_75 rfl (lv_at hl 5 rfl) ?_
  refine lv_bipush (v := nI 40) hx hb dL_lessonHolds_76 (by decide) ?_
  have h9 := lwN (es := [(-9000000000000000001)]) (e_lesson (p := 40) (z := 1) hI ha (by omega) rfl) (by omega)
  refine hk_LZ (wr := []) (v := .long (zL ((les (gS g aa) 1 : Nat) : Int))) (g' := g) (rest := []) (vx_runSW (As := [.ref (b 0), .int (nI aa), .int (nI 40)]) (rest := []) ⟨hx, hb, hml, hown, hts⟩ (c_L_lesson l hfl D ct sa G0 H.size b d g (nI aa) (nI 40) hI) (vx_cwSW 3 hts gL_lessonHolds_L_lesson rfl rfl rfl (by decide +kernel) ⟨Nat.le_of_ble_eq_true rfl, Nat.le_of_ble_eq_true rfl⟩) (hk_prxS hE (hkS_H hH hAG hS) ⟨rfl, hP.right (w1 := []), (hD.right (w1 := [])).weaken (fun _ _ _ h => hAG _ h)⟩) rfl rfl hl.1 rfl (lv_room (Nat.le_of_ble_eq_true rfl)) dL_lessonHolds_78 ⟨by show _ ≤ 100; omega, by show _ ≤ 600; omega⟩) rfl hP hD hS hA (congrArg Value.long h9.1) h9.2 (fun d H locs hP hD hS => ?_)
  refine lv_lload hx hb dL_lessonHolds_81 (lv_at hl 2 rfl) ?_
  refine zq_ne (x := ((les (gS g aa) 1 : Nat) : Int)) (y := ((les (gS g aa) 1 : Nat) : Int)) (tgt := 126) hx hb (rfl) dL_lessonHolds_83 dL_lessonHolds_84 (by decide) ?_
  refine lv_aload_n hx hb dL_lessonHolds_87 rfl (lv_at hl 4 rfl) ?_
  refine lv_iload_n hx hb dL_lessonHolds_88 rfl (lv_at hl 5 rfl) ?_
  refine lv_bipush (v := nI 100) hx hb dL_lessonHolds_89 (by decide) ?_
  have h9 := lw1 (es := [(-9000000000000000001)]) (n := (-9000000000000000001)) (e_lesson100 hI ha) (by decide) (by decide +kernel)
  refine hk_LZ (wr := []) (v := .long (zL (-9000000000000000001))) (g' := g) (rest := []) (vx_runSW (As := [.ref (b 0), .int (nI aa), .int (nI 100)]) (rest := []) ⟨hx, hb, hml, hown, hts⟩ (c_L_lesson l hfl D ct sa G0 H.size b d g (nI aa) (nI 100) hI) (vx_cwSW 3 hts gL_lessonHolds_L_lesson rfl rfl rfl (by decide +kernel) ⟨Nat.le_of_ble_eq_true rfl, Nat.le_of_ble_eq_true rfl⟩) (hk_prxS hE (hkS_H hH hAG hS) ⟨rfl, hP.right (w1 := []), (hD.right (w1 := [])).weaken (fun _ _ _ h => hAG _ h)⟩) rfl rfl hl.1 rfl (lv_room (Nat.le_of_ble_eq_true rfl)) dL_lessonHolds_91 ⟨by show _ ≤ 100; omega, by show _ ≤ 600; omega⟩) rfl hP hD hS hA (congrArg Value.long h9.1) h9.2 (fun d H locs hP hD hS => ?_)
  refine hk_ldcz (v := (-9000000000000000001)) (n := (-9000000000000000001)) hx hb (by decide +kernel) hown (hts (.constantLong RL 25 (-9000000000000000001)) (by decide +kernel)) dL_lessonHolds_94 ?_
  refine zq_ne (x := (-9000000000000000001)) (y := (-9000000000000000001)) (tgt := 126) hx hb (rfl) dL_lessonHolds_97 dL_lessonHolds_98 (by decide) ?_
  refine lv_lload hx hb dL_lessonHolds_101 (lv_at hl 0 rfl) ?_
  refine lv_aload_n hx hb dL_lessonHolds_103 rfl (lv_at hl 4 rfl) ?_
  refine lv_iload_n hx hb dL_lessonHolds_104 rfl (lv_at hl 5 rfl) ?_
  refine lv_iconst (v := nI 0) hx hb dL_lessonHolds_105 (by decide) ?_
  refine lv_aload_n hx hb dL_lessonHolds_106 rfl (lv_at hl 4 rfl) ?_
  refine lv_iload_n hx hb dL_lessonHolds_107 rfl (lv_at hl 5 rfl) ?_
  refine lv_lload hx hb dL_lessonHolds_108 (lv_at hl 2 rfl) ?_
  refine hk_l2iz (n := les (gS g aa) 1) hx hb dL_lessonHolds_110 ?_
  have h9 := lwN (es := [(-9000000000000000001)]) (e_keyOf hI ha l1) (Nat.lt_trans (hu.1 _ l1) (by omega))
  refine hk_LZ (wr := []) (v := .long (zL ((sK (gS g aa) (les (gS g aa) 1) : Nat) : Int))) (g' := g) (rest := [.int (nI 0), .int (nI aa), .ref (b 0), .long (zL ((cS (gS g aa) (sK (gS g aa) (les (gS g aa) 2)) : Nat) : Int))]) (vx_runSW (As := [.ref (b 0), .int (nI aa), .int (nI (les (gS g aa) 1))]) (rest := [.int (nI 0), .int (nI aa), .ref (b 0), .long (zL ((cS (gS g aa) (sK (gS g aa) (les (gS g aa) 2)) : Nat) : Int))]) ⟨hx, hb, hml, hown, hts⟩ (c_L_keyOf l hfl D ct sa G0 H.size b d g (nI aa) (nI (les (gS g aa) 1)) hI) (vx_cwSW 3 hts gL_lessonHolds_L_keyOf rfl rfl rfl (by decide +kernel) ⟨Nat.le_of_ble_eq_true rfl, Nat.le_of_ble_eq_true rfl⟩) (hk_prxS hE (hkS_H hH hAG hS) ⟨rfl, hP.right (w1 := []), (hD.right (w1 := [])).weaken (fun _ _ _ h => hAG _ h)⟩) rfl rfl hl.1 rfl (lv_room (Nat.le_of_ble_eq_true rfl)) dL_lessonHolds_111 ⟨by show _ ≤ 100; omega, by show _ ≤ 600; omega⟩) rfl hP hD hS hA (congrArg Value.long h9.1) h9.2 (fun d H locs hP hD hS => ?_)
  refine hk_l2iz (n := sK (gS g aa) (les (gS g aa) 1)) hx hb dL_lessonHolds_114 ?_
  have hk9 := hcS (sK (gS g aa) (les (gS g aa) 1)) (hu.1 _ l1)
  have h9 := lwN (es := [(-9000000000000000001), (-9000000000000000002)]) (e_slips hI ha (grk_ok (n := 12) (by decide) (hu.1 _ l1) (by omega)) (sl_k hj (hu.1 _ l1))) (by omega)
  refine hk_LZ (wr := []) (v := .long (zL ((cS (gS g aa) (sK (gS g aa) (les (gS g aa) 1)) : Nat) : Int))) (g' := g) (rest := [.long (zL ((cS (gS g aa) (sK (gS g aa) (les (gS g aa) 2)) : Nat) : Int))]) (vx_runSW (As := [.ref (b 0), .int (nI aa), .int (nI 0), .int (nI (sK (gS g aa) (les (gS g aa) 1)))]) (rest := [.long (zL ((cS (gS g aa) (sK (gS g aa) (les (gS g aa) 2)) : Nat) : Int))]) ⟨hx, hb, hml, hown, hts⟩ (c_L_slips l hfl D ct sa G0 H.size b d g (nI aa) (nI 0) (nI (sK (gS g aa) (les (gS g aa) 1))) hI) (vx_cwSW 4 hts gL_lessonHolds_L_slips rfl rfl rfl (by decide +kernel) ⟨Nat.le_of_ble_eq_true rfl, Nat.le_of_ble_eq_true rfl⟩) (hk_prxS hE (hkS_H hH hAG hS) ⟨rfl, hP.right (w1 := []), (hD.right (w1 := [])).weaken (fun _ _ _ h => hAG _ h)⟩) rfl rfl hl.1 rfl (lv_room (Nat.le_of_ble_eq_true rfl)) dL_lessonHolds_115 ⟨by show _ ≤ 100; omega, by show _ ≤ 600; omega⟩) rfl hP hD hS hA (congrArg Value.long h9.1) h9.2 (fun d H locs hP hD hS => ?_)
  refine zc_gt (x := ((cS (gS g aa) (sK (gS g aa) (les (gS g aa) 2)) : Nat) : Int)) (y := ((cS (gS g aa) (sK (gS g aa) (les (gS g aa) 1)) : Nat) : Int)) (tgt := 126) hx hb (by omega) (by omega) (by omega) (by omega) dL_lessonHolds_118 dL_lessonHolds_119 (by decide) (fun hq => absurd hq (by omega)) (fun _ => ?_)
  refine lv_iconst (v := nI 1) hx hb dL_lessonHolds_122 (by decide) ?_
  refine lv_goto (tgt := 127) hx hb dL_lessonHolds_123 (by decide) ?_
  refine lv_istore (lv' := [(10, .int (nI 1)), (8, .long (zL ((cS (gS g aa) (sK (gS g aa) (les (gS g aa) 2)) : Nat) : Int))), (6, .long (zL ((les (gS g aa) 2 : Nat) : Int))), (4, .long (zL ((les (gS g aa) 1 : Nat) : Int))), (2, .long (zL ((les (gS g aa) 0 : Nat) : Int))), (0, .ref (b 0)), (1, .int (nI aa))]) hx hb dL_lessonHolds_127 hl (by decide) rfl (fun ls hl => ?_)
  refine lv_iconst (v := nI 0) hx hb dL_lessonHolds_129 (by decide) ?_
  refine lv_istore (lv' := [(11, .int (nI 0)), (10, .int (nI 1)), (8, .long (zL ((cS (gS g aa) (sK (gS g aa) (les (gS g aa) 2)) : Nat) : Int))), (6, .long (zL ((les (gS g aa) 2 : Nat) : Int))), (4, .long (zL ((les (gS g aa) 1 : Nat) : Int))), (2, .long (zL ((les (gS g aa) 0 : Nat) : Int))), (0, .ref (b 0)), (1, .int (nI aa))]) hx hb dL_lessonHolds_130 hl (by decide) rfl (fun ls hl => ?_)
  have L : ∀ (k : Nat) (d : Ad) (i : Nat), 13 ≤ i + k → i ≤ 12 → ∀ (H : Heap) (locs : List Loc), va_P D vwCl (hkW ct b d g) H → va_D A (hkW ct b d g) → va_S A s.heap H locs → ∀ (ls : Array Slot), lv_has ls 12 [(0, .ref (b 0)), (1, .int (nI aa)), (2, .long (zL ((les (gS g aa) 0 : Nat) : Int))), (4, .long (zL ((les (gS g aa) 1 : Nat) : Int))), (6, .long (zL ((les (gS g aa) 2 : Nat) : Int))), (8, .long (zL ((cS (gS g aa) (sK (gS g aa) (les (gS g aa) 2)) : Nat) : Int))), (10, .int (nI 1)), (11, .int (nI i))] → W p l e (headSpec wsL_lessonHolds ({ frames := 9, cells := 100, slots := 600, locals := 152 })).room s m ([.ref (b 0), .int (nI aa)] : List Value).toArray below meth c H locs (50 + 4 * i) (300 + 24 * i) (MQ below (hkZQ D ct b A (.int 1) g) ([.ref (b 0), .int (nI aa)] : List Value).toArray s 100 600 A) (F0 m 132 ls []) := by
    intro k
    induction k with
    | zero => intro d i hk; intros; exact absurd hk (by omega)
    | succ k ih_L =>
      intro d i hk hi H locs hP hD hS ls hl
      refine lv_iload hx hb dL_lessonHolds_132 (lv_at hl 7 rfl) ?_
      refine lv_bipush (v := nI 12) hx hb dL_lessonHolds_134 (by decide) ?_
      refine hk_geN (tgt := 203) hx hb (by omega) (by omega) dL_lessonHolds_136 (by decide) (fun hc => ?_) (fun hc => ?_)
      · refine lv_iload hx hb dL_lessonHolds_203 (lv_at hl 6 rfl) ?_
        refine W.widen (k := 100) (n := 600) (by omega) (by omega) ?_
        exact W.zret (v := nI 1) hx hb hr rfl (fun t ht hW => ⟨rfl, ⟨d, by rw [ht]; exact hP, hD⟩, hS.F ht⟩) hS.2.2 dL_lessonHolds_205
      · refine lv_iload hx hb dL_lessonHolds_139 (lv_at hl 6 rfl) ?_
        refine hk_eq0N (tgt := 203) hx hb (by omega) dL_lessonHolds_141 (by decide) (fun hq => absurd hq (by decide)) (fun _ => ?_)
        refine lv_iload hx hb dL_lessonHolds_144 (lv_at hl 7 rfl) ?_
        refine hk_i2lz (n := i) hx hb (by omega) dL_lessonHolds_146 ?_
        refine lv_lload_n hx hb dL_lessonHolds_147 rfl (lv_at hl 2 rfl) ?_
        refine zc_eq (x := ((i : Nat) : Int)) (y := ((les (gS g aa) 0 : Nat) : Int)) (tgt := 190) hx hb (by omega) (by omega) (by omega) (by omega) dL_lessonHolds_148 dL_lessonHolds_149 (by decide) (fun hq => ?_) (fun hq => ?_)
        · refine lv_iconst (v := nI 1) hx hb dL_lessonHolds_190 (by decide) ?_
          refine lv_goto (tgt := 195) hx hb dL_lessonHolds_191 (by decide) ?_
          refine lv_istore (lv' := [(10, .int (nI 1)), (0, .ref (b 0)), (1, .int (nI aa)), (2, .long (zL ((les (gS g aa) 0 : Nat) : Int))), (4, .long (zL ((les (gS g aa) 1 : Nat) : Int))), (6, .long (zL ((les (gS g aa) 2 : Nat) : Int))), (8, .long (zL ((cS (gS g aa) (sK (gS g aa) (les (gS g aa) 2)) : Nat) : Int))), (11, .int (nI i))]) hx hb dL_lessonHolds_195 hl (by decide) rfl (fun ls hl => ?_)
          refine lv_iinc (v := nI (i + 1)) (lv' := [(11, .int (nI (i + 1))), (10, .int (nI 1)), (0, .ref (b 0)), (1, .int (nI aa)), (2, .long (zL ((les (gS g aa) 0 : Nat) : Int))), (4, .long (zL ((les (gS g aa) 1 : Nat) : Int))), (6, .long (zL ((les (gS g aa) 2 : Nat) : Int))), (8, .long (zL ((cS (gS g aa) (sK (gS g aa) (les (gS g aa) 2)) : Nat) : Int)))]) hx hb dL_lessonHolds_197 hl (k := 7) rfl (nI_add _ _) (by decide) rfl (fun ls hl => ?_)
          refine lv_goto (tgt := 132) hx hb dL_lessonHolds_200 (by decide) ?_
          refine W.widen (k := 50 + 4 * (i + 1)) (n := 300 + 24 * (i + 1)) (by omega) (by omega) ?_
          exact ih_L d (i + 1) (by omega) (by omega) H locs hP hD hS ls (lv_sub hl [2, 3, 4, 5, 6, 7, 1, 0] rfl)
        · refine lv_iload hx hb dL_lessonHolds_152 (lv_at hl 7 rfl) ?_
          refine hk_i2lz (n := i) hx hb (by omega) dL_lessonHolds_154 ?_
          refine lv_lload hx hb dL_lessonHolds_155 (lv_at hl 3 rfl) ?_
          refine zc_eq (x := ((i : Nat) : Int)) (y := ((les (gS g aa) 1 : Nat) : Int)) (tgt := 190) hx hb (by omega) (by omega) (by omega) (by omega) dL_lessonHolds_157 dL_lessonHolds_158 (by decide) (fun hq => ?_) (fun hq => ?_)
          · refine lv_iconst (v := nI 1) hx hb dL_lessonHolds_190 (by decide) ?_
            refine lv_goto (tgt := 195) hx hb dL_lessonHolds_191 (by decide) ?_
            refine lv_istore (lv' := [(10, .int (nI 1)), (0, .ref (b 0)), (1, .int (nI aa)), (2, .long (zL ((les (gS g aa) 0 : Nat) : Int))), (4, .long (zL ((les (gS g aa) 1 : Nat) : Int))), (6, .long (zL ((les (gS g aa) 2 : Nat) : Int))), (8, .long (zL ((cS (gS g aa) (sK (gS g aa) (les (gS g aa) 2)) : Nat) : Int))), (11, .int (nI i))]) hx hb dL_lessonHolds_195 hl (by decide) rfl (fun ls hl => ?_)
            refine lv_iinc (v := nI (i + 1)) (lv' := [(11, .int (nI (i + 1))), (10, .int (nI 1)), (0, .ref (b 0)), (1, .int (nI aa)), (2, .long (zL ((les (gS g aa) 0 : Nat) : Int))), (4, .long (zL ((les (gS g aa) 1 : Nat) : Int))), (6, .long (zL ((les (gS g aa) 2 : Nat) : Int))), (8, .long (zL ((cS (gS g aa) (sK (gS g aa) (les (gS g aa) 2)) : Nat) : Int)))]) hx hb dL_lessonHolds_197 hl (k := 7) rfl (nI_add _ _) (by decide) rfl (fun ls hl => ?_)
            refine lv_goto (tgt := 132) hx hb dL_lessonHolds_200 (by decide) ?_
            refine W.widen (k := 50 + 4 * (i + 1)) (n := 300 + 24 * (i + 1)) (by omega) (by omega) ?_
            exact ih_L d (i + 1) (by omega) (by omega) H locs hP hD hS ls (lv_sub hl [2, 3, 4, 5, 6, 7, 1, 0] rfl)
          · refine lv_iload hx hb dL_lessonHolds_161 (lv_at hl 7 rfl) ?_
            refine hk_i2lz (n := i) hx hb (by omega) dL_lessonHolds_163 ?_
            refine lv_lload hx hb dL_lessonHolds_164 (lv_at hl 4 rfl) ?_
            refine zc_eq (x := ((i : Nat) : Int)) (y := ((les (gS g aa) 2 : Nat) : Int)) (tgt := 190) hx hb (by omega) (by omega) (by omega) (by omega) dL_lessonHolds_166 dL_lessonHolds_167 (by decide) (fun hq => ?_) (fun hq => ?_)
            · refine lv_iconst (v := nI 1) hx hb dL_lessonHolds_190 (by decide) ?_
              refine lv_goto (tgt := 195) hx hb dL_lessonHolds_191 (by decide) ?_
              refine lv_istore (lv' := [(10, .int (nI 1)), (0, .ref (b 0)), (1, .int (nI aa)), (2, .long (zL ((les (gS g aa) 0 : Nat) : Int))), (4, .long (zL ((les (gS g aa) 1 : Nat) : Int))), (6, .long (zL ((les (gS g aa) 2 : Nat) : Int))), (8, .long (zL ((cS (gS g aa) (sK (gS g aa) (les (gS g aa) 2)) : Nat) : Int))), (11, .int (nI i))]) hx hb dL_lessonHolds_195 hl (by decide) rfl (fun ls hl => ?_)
              refine lv_iinc (v := nI (i + 1)) (lv' := [(11, .int (nI (i + 1))), (10, .int (nI 1)), (0, .ref (b 0)), (1, .int (nI aa)), (2, .long (zL ((les (gS g aa) 0 : Nat) : Int))), (4, .long (zL ((les (gS g aa) 1 : Nat) : Int))), (6, .long (zL ((les (gS g aa) 2 : Nat) : Int))), (8, .long (zL ((cS (gS g aa) (sK (gS g aa) (les (gS g aa) 2)) : Nat) : Int)))]) hx hb dL_lessonHolds_197 hl (k := 7) rfl (nI_add _ _) (by decide) rfl (fun ls hl => ?_)
              refine lv_goto (tgt := 132) hx hb dL_lessonHolds_200 (by decide) ?_
              refine W.widen (k := 50 + 4 * (i + 1)) (n := 300 + 24 * (i + 1)) (by omega) (by omega) ?_
              exact ih_L d (i + 1) (by omega) (by omega) H locs hP hD hS ls (lv_sub hl [2, 3, 4, 5, 6, 7, 1, 0] rfl)
            · refine lv_aload_n hx hb dL_lessonHolds_170 rfl (lv_at hl 0 rfl) ?_
              refine lv_iload_n hx hb dL_lessonHolds_171 rfl (lv_at hl 1 rfl) ?_
              refine lv_iconst (v := nI 0) hx hb dL_lessonHolds_172 (by decide) ?_
              refine lv_aload_n hx hb dL_lessonHolds_173 rfl (lv_at hl 0 rfl) ?_
              refine lv_iload_n hx hb dL_lessonHolds_174 rfl (lv_at hl 1 rfl) ?_
              refine lv_iload hx hb dL_lessonHolds_175 (lv_at hl 7 rfl) ?_
              have h9 := lwN (es := [(-9000000000000000001)]) (e_keyOf hI ha (by omega)) (Nat.lt_trans (hu.1 _ (by omega)) (by omega))
              refine hk_LZ (wr := []) (v := .long (zL ((sK (gS g aa) i : Nat) : Int))) (g' := g) (rest := [.int (nI 0), .int (nI aa), .ref (b 0)]) (vx_runSW (As := [.ref (b 0), .int (nI aa), .int (nI i)]) (rest := [.int (nI 0), .int (nI aa), .ref (b 0)]) ⟨hx, hb, hml, hown, hts⟩ (c_L_keyOf l hfl D ct sa G0 H.size b d g (nI aa) (nI i) hI) (vx_cwSW 3 hts gL_lessonHolds_L_keyOf rfl rfl rfl (by decide +kernel) ⟨Nat.le_of_ble_eq_true rfl, Nat.le_of_ble_eq_true rfl⟩) (hk_prxS hE (hkS_H hH hAG hS) ⟨rfl, hP.right (w1 := []), (hD.right (w1 := [])).weaken (fun _ _ _ h => hAG _ h)⟩) rfl rfl hl.1 rfl (lv_room (Nat.le_of_ble_eq_true rfl)) dL_lessonHolds_177 ⟨by show _ ≤ 100; omega, by show _ ≤ 600; omega⟩) rfl hP hD hS hA (congrArg Value.long h9.1) h9.2 (fun d H locs hP hD hS => ?_)
              refine hk_l2iz (n := sK (gS g aa) i) hx hb dL_lessonHolds_180 ?_
              have hk9 := hcS (sK (gS g aa) i) (hu.1 _ (by omega))
              have h9 := lwN (es := [(-9000000000000000001), (-9000000000000000002)]) (e_slips hI ha (grk_ok (n := 12) (by decide) (hu.1 _ (by omega)) (by omega)) (sl_k hj (hu.1 _ (by omega)))) (by omega)
              refine hk_LZ (wr := []) (v := .long (zL ((cS (gS g aa) (sK (gS g aa) i) : Nat) : Int))) (g' := g) (rest := []) (vx_runSW (As := [.ref (b 0), .int (nI aa), .int (nI 0), .int (nI (sK (gS g aa) i))]) (rest := []) ⟨hx, hb, hml, hown, hts⟩ (c_L_slips l hfl D ct sa G0 H.size b d g (nI aa) (nI 0) (nI (sK (gS g aa) i)) hI) (vx_cwSW 4 hts gL_lessonHolds_L_slips rfl rfl rfl (by decide +kernel) ⟨Nat.le_of_ble_eq_true rfl, Nat.le_of_ble_eq_true rfl⟩) (hk_prxS hE (hkS_H hH hAG hS) ⟨rfl, hP.right (w1 := []), (hD.right (w1 := [])).weaken (fun _ _ _ h => hAG _ h)⟩) rfl rfl hl.1 rfl (lv_room (Nat.le_of_ble_eq_true rfl)) dL_lessonHolds_181 ⟨by show _ ≤ 100; omega, by show _ ≤ 600; omega⟩) rfl hP hD hS hA (congrArg Value.long h9.1) h9.2 (fun d H locs hP hD hS => ?_)
              have hk8 := les_least hj (k := i) (by omega) (by omega) (by omega) (by omega)
              refine lv_lload hx hb dL_lessonHolds_184 (lv_at hl 5 rfl) ?_
              refine zc_gt (x := ((cS (gS g aa) (sK (gS g aa) i) : Nat) : Int)) (y := ((cS (gS g aa) (sK (gS g aa) (les (gS g aa) 2)) : Nat) : Int)) (tgt := 194) hx hb (by omega) (by omega) (by omega) (by omega) dL_lessonHolds_186 dL_lessonHolds_187 (by decide) (fun hq => absurd hq (by omega)) (fun _ => ?_)
              refine lv_iconst (v := nI 1) hx hb dL_lessonHolds_190 (by decide) ?_
              refine lv_goto (tgt := 195) hx hb dL_lessonHolds_191 (by decide) ?_
              refine lv_istore (lv' := [(10, .int (nI 1)), (0, .ref (b 0)), (1, .int (nI aa)), (2, .long (zL ((les (gS g aa) 0 : Nat) : Int))), (4, .long (zL ((les (gS g aa) 1 : Nat) : Int))), (6, .long (zL ((les (gS g aa) 2 : Nat) : Int))), (8, .long (zL ((cS (gS g aa) (sK (gS g aa) (les (gS g aa) 2)) : Nat) : Int))), (11, .int (nI i))]) hx hb dL_lessonHolds_195 hl (by decide) rfl (fun ls hl => ?_)
              refine lv_iinc (v := nI (i + 1)) (lv' := [(11, .int (nI (i + 1))), (10, .int (nI 1)), (0, .ref (b 0)), (1, .int (nI aa)), (2, .long (zL ((les (gS g aa) 0 : Nat) : Int))), (4, .long (zL ((les (gS g aa) 1 : Nat) : Int))), (6, .long (zL ((les (gS g aa) 2 : Nat) : Int))), (8, .long (zL ((cS (gS g aa) (sK (gS g aa) (les (gS g aa) 2)) : Nat) : Int)))]) hx hb dL_lessonHolds_197 hl (k := 7) rfl (nI_add _ _) (by decide) rfl (fun ls hl => ?_)
              refine lv_goto (tgt := 132) hx hb dL_lessonHolds_200 (by decide) ?_
              refine W.widen (k := 50 + 4 * (i + 1)) (n := 300 + 24 * (i + 1)) (by omega) (by omega) ?_
              exact ih_L d (i + 1) (by omega) (by omega) H locs hP hD hS ls (lv_sub hl [2, 3, 4, 5, 6, 7, 1, 0] rfl)
  refine W.widen (k := 50 + 4 * 0) (n := 300 + 24 * 0) (by omega) (by omega) ?_
  exact L 13 d 0 (by omega) (by omega) H locs hP hD hS ls (lv_sub hl [6, 7, 5, 4, 3, 2, 1, 0] rfl)
