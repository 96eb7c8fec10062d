set_option maxHeartbeats 4000000 in
set_option maxRecDepth 100000 in
theorem c_L_studentHolds (l : Launch) (hfl : l.flags = flags0) (D : va_G) (ct : Nat → ClassId) (sa : Nat → Nat) (G0 : Nat) (sz : Nat) (b : Nat → Nat) (d : Ad) (g : Sg) (aa : Nat) (hI : Inv g) (hJ : Jg 1000 g) (ha : aa < gN g) : Met l yL_studentHolds wsL_studentHolds ({ frames := 10, cells := 2100, slots := 12000, locals := 183 }) (hkPx D ct sa G0 [.ref (b 0), .int (nI aa)] (hkZP D ct b d g G0 sz)) (hkZQ D ct b (va_A (hkW ct b d g) sz) (.int 1) g) 2100 12000 (va_A (hkW ct b d g) sz) := by
  refine Met.ofW (cc := cL_studentHolds) (maxL := 14) (ret := (some .boolean)) (by decide) rfl ?_
  intro p e s m args below meth c s₁ B hml hv
  obtain ⟨rfl, hE, hH, hp⟩ := hv
  have hx := B.exec
  have hb := B.bytes
  have hr := B.returns
  have hts := atoms_spec (ws := wsL_studentHolds) B.pre
  have hown : s.vm.findClass RL = some m.cls := findClass_of_methodNamed B.named
  have hlocks := B.notSynchronized
  obtain ⟨hsz, hP, hDG⟩ := hp
  subst hsz
  have hD := hDG.self (sz := s.heap.size)
  have hAG := hkA_G (sz := s.heap.size) hDG hH.1
  generalize hAe : va_A (hkW ct b d g) s.heap.size = A at hD hAG ⊢
  have hA : ∀ q : Nat, s.heap.size ≤ q → A q := fun q h => by rw [← hAe]; exact Or.inr h
  have hS : va_S A s.heap s.heap [] := va_S.rf
  have hu : Ist (gS g aa) := hI.2.2.2.1 aa
  have hj : Jst 1000 (gS g aa) := hJ.1 aa
  have hN5 : gN g ≤ 5 := hI.1
  have hall : sm (cS (gS g aa)) 12 ≤ 1000 := Nat.le_trans hj.2.2.2.2.2.1 hj.2.2.2.2.1
  have hcS : ∀ k, k < 12 → cS (gS g aa) k ≤ 1000 := fun k hk => Nat.le_trans (cS_le hj hk) hall
  have htZ := tZ_le hu
  have hlr := hLR (gS g aa)
  have hn1 : nC (gS g aa) ≤ 1000 := hj.2.2.2.2.1
  have hn2 : sm (cS (gS g aa)) 12 ≤ nC (gS g aa) := hj.2.2.2.2.2.1
  have hn3 : sm (cP (gS g aa)) 144 ≤ sm (cS (gS g aa)) 12 := hj.2.2.2.2.2.2.1
  have hn4 : sm (cS (gS g aa)) 12 ≤ sm (cP (gS g aa)) 144 + 1 := hj.2.2.2.2.2.2.2.1
  have hmb := mI_b hu
  have hbb := bI_b hu
  have hl := lv_entry ([.ref (b 0), .int (nI aa)]) (n := 14) (Nat.le_of_ble_eq_true rfl)
  rw [lg_entry_eq]
  generalize (lg_sl ([.ref (b 0), .int (nI aa)]) ++ List.replicate (14 - (lg_sl ([.ref (b 0), .int (nI aa)])).length) Slot.unset).toArray = ls at hl ⊢
  have hl : lv_has ls 14 [(0, .ref (b 0)), (1, .int (nI aa))] := hl
  refine lv_aload_n hx hb dL_studentHolds_0 rfl (lv_at hl 0 rfl) ?_
  refine lv_iload_n hx hb dL_studentHolds_1 rfl (lv_at hl 1 rfl) ?_
  have h9 := lwN (es := [(-9000000000000000001)]) (e_time hI ha) (by omega)
  refine hk_LZ (wr := []) (v := .long (zL ((tZ (gS g aa) : Nat) : Int))) (g' := g) (rest := []) (vx_runSW (As := [.ref (b 0), .int (nI aa)]) (rest := []) ⟨hx, hb, hml, hown, hts⟩ (c_L_time l hfl D ct sa G0 s.heap.size b d g (nI aa) hI) (vx_cwSW 2 hts gL_studentHolds_L_time rfl rfl rfl (by decide +kernel) ⟨Nat.le_of_ble_eq_true rfl, Nat.le_of_ble_eq_true rfl⟩) (hk_prxS hE (hkS_H hH hAG hS) ⟨rfl, hP.right (w1 := []), (hD.right (w1 := [])).weaken (fun _ _ _ h => hAG _ h)⟩) rfl rfl hl.1 rfl (lv_room (Nat.le_of_ble_eq_true rfl)) dL_studentHolds_2 ⟨by show _ ≤ 2100; omega, by show _ ≤ 12000; omega⟩) rfl hP hD hS hA (congrArg Value.long h9.1) h9.2 (fun d H locs hP hD hS => ?_)
  refine lv_aload_n hx hb dL_studentHolds_5 rfl (lv_at hl 0 rfl) ?_
  refine lv_iload_n hx hb dL_studentHolds_6 rfl (lv_at hl 1 rfl) ?_
  have h9 := lwN (es := [(-9000000000000000001)]) (e_time hI ha) (by omega)
  refine hk_LZ (wr := []) (v := .long (zL ((tZ (gS g aa) : Nat) : Int))) (g' := g) (rest := [.long (zL ((tZ (gS g aa) : Nat) : Int))]) (vx_runSW (As := [.ref (b 0), .int (nI aa)]) (rest := [.long (zL ((tZ (gS g aa) : Nat) : Int))]) ⟨hx, hb, hml, hown, hts⟩ (c_L_timeAnew l hfl D ct sa G0 H.size b d g (nI aa) hI) (vx_cwSW 2 hts gL_studentHolds_L_timeAnew rfl rfl rfl (by decide +kernel) ⟨Nat.le_of_ble_eq_true rfl, Nat.le_of_ble_eq_true rfl⟩) (hk_prxS hE (hkS_H hH hAG hS) ⟨rfl, hP.right (w1 := []), (hD.right (w1 := [])).weaken (fun _ _ _ h => hAG _ h)⟩) rfl rfl hl.1 rfl (lv_room (Nat.le_of_ble_eq_true rfl)) dL_studentHolds_7 ⟨by show _ ≤ 2100; omega, by show _ ≤ 12000; omega⟩) rfl hP hD hS hA (congrArg Value.long h9.1) h9.2 (fun d H locs hP hD hS => ?_)
  refine zq_ne (x := ((tZ (gS g aa) : Nat) : Int)) (y := ((tZ (gS g aa) : Nat) : Int)) (tgt := 18) hx hb (rfl) dL_studentHolds_10 dL_studentHolds_11 (by decide) ?_
  refine lv_iconst (v := nI 1) hx hb dL_studentHolds_14 (by decide) ?_
  refine lv_goto (tgt := 19) hx hb dL_studentHolds_15 (by decide) ?_
  refine lv_istore_n (lv' := [(2, .int (nI 1)), (0, .ref (b 0)), (1, .int (nI aa))]) hx hb dL_studentHolds_19 rfl hl (by decide) rfl (fun ls hl => ?_)
  refine lv_lconst (v := zL 0) hx hb dL_studentHolds_20 rfl ?_
  refine hk_topz (a := 0) (b := ((sm (cS (gS g aa)) 0 : Nat) : Int)) (rfl) ?_
  refine lv_lstore_n (lv' := [(3, .long (zL ((sm (cS (gS g aa)) 0 : Nat) : Int))), (2, .int (nI 1)), (0, .ref (b 0)), (1, .int (nI aa))]) hx hb dL_studentHolds_21 rfl hl (by decide) rfl (fun ls hl => ?_)
  refine lv_iconst (v := nI 0) hx hb dL_studentHolds_22 (by decide) ?_
  refine lv_istore (lv' := [(5, .int (nI 0)), (3, .long (zL ((sm (cS (gS g aa)) 0 : Nat) : Int))), (2, .int (nI 1)), (0, .ref (b 0)), (1, .int (nI aa))]) hx hb dL_studentHolds_23 hl (by decide) rfl (fun ls hl => ?_)
  have L : ∀ (k : Nat) (d : Ad) (i : Nat), 13 ≤ i + k → i ≤ 12 → ∀ (H : Heap) (locs : List Loc), va_P D vwCl (hkW ct b d g) H → va_D A (hkW ct b d g) → va_S A s.heap H locs → ∀ (ls : Array Slot), lv_has ls 14 [(0, .ref (b 0)), (1, .int (nI aa)), (2, .int (nI 1)), (3, .long (zL ((sm (cS (gS g aa)) i : Nat) : Int))), (5, .int (nI i))] → W p l e (headSpec wsL_studentHolds ({ frames := 10, cells := 2100, slots := 12000, locals := 183 })).room s m ([.ref (b 0), .int (nI aa)] : List Value).toArray below meth c H locs (10 + 12 * i) (60 + 72 * i) (MQ below (hkZQ D ct b A (.int 1) g) ([.ref (b 0), .int (nI aa)] : List Value).toArray s 2100 12000 A) (F0 m 25 ls []) := by
    intro k
    induction k with
    | zero => intro d i hk; intros; exact absurd hk (by omega)
    | succ k ih_L =>
      intro d i hk hi H locs hP hD hS ls hl
      refine lv_iload hx hb dL_studentHolds_25 (lv_at hl 4 rfl) ?_
      refine lv_bipush (v := nI 12) hx hb dL_studentHolds_27 (by decide) ?_
      refine hk_geN (tgt := 140) hx hb (by omega) (by omega) dL_studentHolds_29 (by decide) (fun hc => ?_) (fun hc => ?_)
      · obtain rfl : i = 12 := by omega
        refine lv_iload_n hx hb dL_studentHolds_140 rfl (lv_at hl 2 rfl) ?_
        refine hk_eq0N (tgt := 190) hx hb (by omega) dL_studentHolds_141 (by decide) (fun hq => absurd hq (by decide)) (fun _ => ?_)
        refine lv_lload_n hx hb dL_studentHolds_144 rfl (lv_at hl 3 rfl) ?_
        refine lv_aload_n hx hb dL_studentHolds_145 rfl (lv_at hl 0 rfl) ?_
        refine lv_iload_n hx hb dL_studentHolds_146 rfl (lv_at hl 1 rfl) ?_
        refine lv_iconst (v := nI 3) hx hb dL_studentHolds_147 (by decide) ?_
        refine lv_iconst (v := nI 0) hx hb dL_studentHolds_148 (by decide) ?_
        have h9 := lwN (es := [(-9000000000000000001), (-9000000000000000002)]) (e_slips hI ha (grk_ok (n := 1) (by decide) (show 0 < 1 by omega) (by omega)) (sl_a hj)) (by omega)
        refine hk_LZ (wr := []) (v := .long (zL ((sm (cS (gS g aa)) 12 : Nat) : Int))) (g' := g) (rest := [.long (zL ((sm (cS (gS g aa)) 12 : Nat) : Int))]) (vx_runSW (As := [.ref (b 0), .int (nI aa), .int (nI 3), .int (nI 0)]) (rest := [.long (zL ((sm (cS (gS g aa)) 12 : Nat) : Int))]) ⟨hx, hb, hml, hown, hts⟩ (c_L_slips l hfl D ct sa G0 H.size b d g (nI aa) (nI 3) (nI 0) hI) (vx_cwSW 4 hts gL_studentHolds_L_slips rfl rfl rfl (by decide +kernel) ⟨Nat.le_of_ble_eq_true rfl, Nat.le_of_ble_eq_true rfl⟩) (hk_prxS hE (hkS_H hH hAG hS) ⟨rfl, hP.right (w1 := []), (hD.right (w1 := [])).weaken (fun _ _ _ h => hAG _ h)⟩) rfl rfl hl.1 rfl (lv_room (Nat.le_of_ble_eq_true rfl)) dL_studentHolds_149 ⟨by show _ ≤ 2100; omega, by show _ ≤ 12000; omega⟩) rfl hP hD hS hA (congrArg Value.long h9.1) h9.2 (fun d H locs hP hD hS => ?_)
        refine zq_ne (x := ((sm (cS (gS g aa)) 12 : Nat) : Int)) (y := ((sm (cS (gS g aa)) 12 : Nat) : Int)) (tgt := 190) hx hb (rfl) dL_studentHolds_152 dL_studentHolds_153 (by decide) ?_
        refine lv_lload_n hx hb dL_studentHolds_156 rfl (lv_at hl 3 rfl) ?_
        refine lv_aload_n hx hb dL_studentHolds_157 rfl (lv_at hl 0 rfl) ?_
        refine lv_iload_n hx hb dL_studentHolds_158 rfl (lv_at hl 1 rfl) ?_
        refine lv_iconst (v := nI 2) hx hb dL_studentHolds_159 (by decide) ?_
        refine lv_iconst (v := nI 0) hx hb dL_studentHolds_160 (by decide) ?_
        have h9 := lwN (es := [(-9000000000000000001), (-9000000000000000002)]) (e_slips hI ha (grk_ok (n := 2) (by decide) (show 0 < 2 by omega) (by omega)) (sl_h0 hj)) (by omega)
        refine hk_LZ (wr := []) (v := .long (zL ((hL (gS g aa) : Nat) : Int))) (g' := g) (rest := [.long (zL ((sm (cS (gS g aa)) 12 : Nat) : Int))]) (vx_runSW (As := [.ref (b 0), .int (nI aa), .int (nI 2), .int (nI 0)]) (rest := [.long (zL ((sm (cS (gS g aa)) 12 : Nat) : Int))]) ⟨hx, hb, hml, hown, hts⟩ (c_L_slips l hfl D ct sa G0 H.size b d g (nI aa) (nI 2) (nI 0) hI) (vx_cwSW 4 hts gL_studentHolds_L_slips rfl rfl rfl (by decide +kernel) ⟨Nat.le_of_ble_eq_true rfl, Nat.le_of_ble_eq_true rfl⟩) (hk_prxS hE (hkS_H hH hAG hS) ⟨rfl, hP.right (w1 := []), (hD.right (w1 := [])).weaken (fun _ _ _ h => hAG _ h)⟩) rfl rfl hl.1 rfl (lv_room (Nat.le_of_ble_eq_true rfl)) dL_studentHolds_161 ⟨by show _ ≤ 2100; omega, by show _ ≤ 12000; omega⟩) rfl hP hD hS hA (congrArg Value.long h9.1) h9.2 (fun d H locs hP hD hS => ?_)
        refine lv_aload_n hx hb dL_studentHolds_164 rfl (lv_at hl 0 rfl) ?_
        refine lv_iload_n hx hb dL_studentHolds_165 rfl (lv_at hl 1 rfl) ?_
        refine lv_iconst (v := nI 2) hx hb dL_studentHolds_166 (by decide) ?_
        refine lv_iconst (v := nI 1) hx hb dL_studentHolds_167 (by decide) ?_
        have h9 := lwN (es := [(-9000000000000000001), (-9000000000000000002)]) (e_slips hI ha (grk_ok (n := 2) (by decide) (show 1 < 2 by omega) (by omega)) (sl_h1 hj)) (by omega)
        refine hk_LZ (wr := []) (v := .long (zL ((hR (gS g aa) : Nat) : Int))) (g' := g) (rest := [.long (zL ((hL (gS g aa) : Nat) : Int)), .long (zL ((sm (cS (gS g aa)) 12 : Nat) : Int))]) (vx_runSW (As := [.ref (b 0), .int (nI aa), .int (nI 2), .int (nI 1)]) (rest := [.long (zL ((hL (gS g aa) : Nat) : Int)), .long (zL ((sm (cS (gS g aa)) 12 : Nat) : Int))]) ⟨hx, hb, hml, hown, hts⟩ (c_L_slips l hfl D ct sa G0 H.size b d g (nI aa) (nI 2) (nI 1) hI) (vx_cwSW 4 hts gL_studentHolds_L_slips rfl rfl rfl (by decide +kernel) ⟨Nat.le_of_ble_eq_true rfl, Nat.le_of_ble_eq_true rfl⟩) (hk_prxS hE (hkS_H hH hAG hS) ⟨rfl, hP.right (w1 := []), (hD.right (w1 := [])).weaken (fun _ _ _ h => hAG _ h)⟩) rfl rfl hl.1 rfl (lv_room (Nat.le_of_ble_eq_true rfl)) dL_studentHolds_168 ⟨by show _ ≤ 2100; omega, by show _ ≤ 12000; omega⟩) rfl hP hD hS hA (congrArg Value.long h9.1) h9.2 (fun d H locs hP hD hS => ?_)
        refine hk_laddz (x := ((hL (gS g aa) : Nat) : Int)) (y := ((hR (gS g aa) : Nat) : Int)) hx hb dL_studentHolds_171 ?_
        refine zq_ne (x := ((sm (cS (gS g aa)) 12 : Nat) : Int)) (y := (((hL (gS g aa) : Nat) : Int) + ((hR (gS g aa) : Nat) : Int))) (tgt := 190) hx hb (by omega) dL_studentHolds_172 dL_studentHolds_173 (by decide) ?_
        refine lv_lload_n hx hb dL_studentHolds_176 rfl (lv_at hl 3 rfl) ?_
        refine lv_aload_n hx hb dL_studentHolds_177 rfl (lv_at hl 0 rfl) ?_
        refine lv_iload_n hx hb dL_studentHolds_178 rfl (lv_at hl 1 rfl) ?_
        have h9 := lwN (es := [(-9000000000000000001)]) (e_pressed hI ha hj) (by omega)
        refine hk_LZ (wr := []) (v := .long (zL ((nC (gS g aa) : Nat) : Int))) (g' := g) (rest := [.long (zL ((sm (cS (gS g aa)) 12 : Nat) : Int))]) (vx_runSW (As := [.ref (b 0), .int (nI aa)]) (rest := [.long (zL ((sm (cS (gS g aa)) 12 : Nat) : Int))]) ⟨hx, hb, hml, hown, hts⟩ (c_L_pressed l hfl D ct sa G0 H.size b d g (nI aa) hI) (vx_cwSW 2 hts gL_studentHolds_L_pressed rfl rfl rfl (by decide +kernel) ⟨Nat.le_of_ble_eq_true rfl, Nat.le_of_ble_eq_true rfl⟩) (hk_prxS hE (hkS_H hH hAG hS) ⟨rfl, hP.right (w1 := []), (hD.right (w1 := [])).weaken (fun _ _ _ h => hAG _ h)⟩) rfl rfl hl.1 rfl (lv_room (Nat.le_of_ble_eq_true rfl)) dL_studentHolds_179 ⟨by show _ ≤ 2100; omega, by show _ ≤ 12000; omega⟩) rfl hP hD hS hA (congrArg Value.long h9.1) h9.2 (fun d H locs hP hD hS => ?_)
        refine zc_gt (x := ((sm (cS (gS g aa)) 12 : Nat) : Int)) (y := ((nC (gS g aa) : Nat) : Int)) (tgt := 190) hx hb (by omega) (by omega) (by omega) (by omega) dL_studentHolds_182 dL_studentHolds_183 (by decide) (fun hq => absurd hq (by omega)) (fun _ => ?_)
        refine lv_iconst (v := nI 1) hx hb dL_studentHolds_186 (by decide) ?_
        refine lv_goto (tgt := 191) hx hb dL_studentHolds_187 (by decide) ?_
        refine lv_istore_n (lv' := [(2, .int (nI 1)), (0, .ref (b 0)), (1, .int (nI aa)), (3, .long (zL ((sm (cS (gS g aa)) 12 : Nat) : Int))), (5, .int (nI 12))]) hx hb dL_studentHolds_191 rfl hl (by decide) rfl (fun ls hl => ?_)
        refine lv_lconst (v := zL 0) hx hb dL_studentHolds_192 rfl ?_
        refine hk_topz (a := 0) (b := ((sm (cP (gS g aa)) 0 : Nat) : Int)) (rfl) ?_
        refine lv_lstore (lv' := [(5, .long (zL ((sm (cP (gS g aa)) 0 : Nat) : Int))), (2, .int (nI 1)), (0, .ref (b 0)), (1, .int (nI aa)), (3, .long (zL ((sm (cS (gS g aa)) 12 : Nat) : Int)))]) hx hb dL_studentHolds_193 hl (by decide) rfl (fun ls hl => ?_)
        refine lv_iconst (v := nI 0) hx hb dL_studentHolds_195 (by decide) ?_
        refine lv_istore (lv' := [(7, .int (nI 0)), (5, .long (zL ((sm (cP (gS g aa)) 0 : Nat) : Int))), (2, .int (nI 1)), (0, .ref (b 0)), (1, .int (nI aa)), (3, .long (zL ((sm (cS (gS g aa)) 12 : Nat) : Int)))]) hx hb dL_studentHolds_196 hl (by decide) rfl (fun ls hl => ?_)
        have L2 : ∀ (k : Nat) (d : Ad) (j : Nat), 145 ≤ j + k → j ≤ 144 → ∀ (H : Heap) (locs : List Loc), va_P D vwCl (hkW ct b d g) H → va_D A (hkW ct b d g) → va_S A s.heap H locs → ∀ (ls : Array Slot), lv_has ls 14 [(0, .ref (b 0)), (1, .int (nI aa)), (2, .int (nI 1)), (3, .long (zL ((sm (cS (gS g aa)) 12 : Nat) : Int))), (5, .long (zL ((sm (cP (gS g aa)) j : Nat) : Int))), (7, .int (nI j))] → W p l e (headSpec wsL_studentHolds ({ frames := 10, cells := 2100, slots := 12000, locals := 183 })).room s m ([.ref (b 0), .int (nI aa)] : List Value).toArray below meth c H locs (200 + 3 * j) (1000 + 18 * j) (MQ below (hkZQ D ct b A (.int 1) g) ([.ref (b 0), .int (nI aa)] : List Value).toArray s 2100 12000 A) (F0 m 198 ls []) := by
          intro k
          induction k with
          | zero => intro d j hk; intros; exact absurd hk (by omega)
          | succ k ih_L2 =>
            intro d j hk hj4 H locs hP hD hS ls hl
            refine lv_iload hx hb dL_studentHolds_198 (lv_at hl 5 rfl) ?_
            refine lv_sipush (v := nI 144) hx hb dL_studentHolds_200 (by decide) ?_
            refine hk_geN (tgt := 236) hx hb (by omega) (by omega) dL_studentHolds_203 (by decide) (fun hc => ?_) (fun hc => ?_)
            · obtain rfl : j = 144 := by omega
              refine lv_aload_n hx hb dL_studentHolds_236 rfl (lv_at hl 0 rfl) ?_
              refine lv_iload_n hx hb dL_studentHolds_237 rfl (lv_at hl 1 rfl) ?_
              have h9 := lwT (es := [(-9000000000000000001)]) (e_best hI ha) (show _ = bI (gS g aa) from rfl)
              refine hk_LZ (wr := []) (v := .long (zL (bI (gS g aa)))) (g' := g) (rest := []) (vx_runSW (As := [.ref (b 0), .int (nI aa)]) (rest := []) ⟨hx, hb, hml, hown, hts⟩ (c_L_best l hfl D ct sa G0 H.size b d g (nI aa) hI) (vx_cwSW 2 hts gL_studentHolds_L_best rfl rfl rfl (by decide +kernel) ⟨Nat.le_of_ble_eq_true rfl, Nat.le_of_ble_eq_true rfl⟩) (hk_prxS hE (hkS_H hH hAG hS) ⟨rfl, hP.right (w1 := []), (hD.right (w1 := [])).weaken (fun _ _ _ h => hAG _ h)⟩) rfl rfl hl.1 rfl (lv_room (Nat.le_of_ble_eq_true rfl)) dL_studentHolds_238 ⟨by show _ ≤ 2100; omega, by show _ ≤ 12000; omega⟩) rfl hP hD hS hA (congrArg Value.long h9.1) h9.2 (fun d H locs hP hD hS => ?_)
              refine lv_lstore (lv' := [(7, .long (zL (bI (gS g aa)))), (0, .ref (b 0)), (1, .int (nI aa)), (2, .int (nI 1)), (3, .long (zL ((sm (cS (gS g aa)) 12 : Nat) : Int))), (5, .long (zL ((sm (cP (gS g aa)) 144 : Nat) : Int)))]) hx hb dL_studentHolds_241 hl (by decide) rfl (fun ls hl => ?_)
              refine lv_lload hx hb dL_studentHolds_243 (lv_at hl 0 rfl) ?_
              refine lv_lconst (v := zL 0) hx hb dL_studentHolds_245 rfl ?_
              have K1 : ∀ (d : Ad) (H : Heap) (locs : List Loc), va_P D vwCl (hkW ct b d g) H → va_D A (hkW ct b d g) → va_S A s.heap H locs → ∀ (ls : Array Slot), lv_has ls 14 [(7, .long (zL (bI (gS g aa)))), (0, .ref (b 0)), (1, .int (nI aa)), (2, .int (nI 1)), (3, .long (zL ((sm (cS (gS g aa)) 12 : Nat) : Int))), (5, .long (zL ((sm (cP (gS g aa)) 144 : Nat) : Int)))] → W p l e (headSpec wsL_studentHolds ({ frames := 10, cells := 2100, slots := 12000, locals := 183 })).room s m ([.ref (b 0), .int (nI aa)] : List Value).toArray below meth c H locs 650 3700 (MQ below (hkZQ D ct b A (.int 1) g) ([.ref (b 0), .int (nI aa)] : List Value).toArray s 2100 12000 A) (F0 m 271 ls [.long (zL (mI (gS g aa)))]) := by
                intro d H locs hP hD hS ls hl
                refine lv_lstore (lv' := [(9, .long (zL (mI (gS g aa)))), (7, .long (zL (bI (gS g aa)))), (0, .ref (b 0)), (1, .int (nI aa)), (2, .int (nI 1)), (3, .long (zL ((sm (cS (gS g aa)) 12 : Nat) : Int))), (5, .long (zL ((sm (cP (gS g aa)) 144 : Nat) : Int)))]) hx hb dL_studentHolds_271 hl (by decide) rfl (fun ls hl => ?_)
                refine lv_iload_n hx hb dL_studentHolds_273 rfl (lv_at hl 4 rfl) ?_
                refine hk_eq0N (tgt := 327) hx hb (by omega) dL_studentHolds_274 (by decide) (fun hq => absurd hq (by decide)) (fun _ => ?_)
                refine lv_lload hx hb dL_studentHolds_277 (lv_at hl 6 rfl) ?_
                refine lv_lload_n hx hb dL_studentHolds_279 rfl (lv_at hl 5 rfl) ?_
                refine zc_gt (x := ((sm (cP (gS g aa)) 144 : Nat) : Int)) (y := ((sm (cS (gS g aa)) 12 : Nat) : Int)) (tgt := 327) hx hb (by omega) (by omega) (by omega) (by omega) dL_studentHolds_280 dL_studentHolds_281 (by decide) (fun hq => absurd hq (by omega)) (fun _ => ?_)
                refine lv_lload hx hb dL_studentHolds_284 (lv_at hl 6 rfl) ?_
                refine lv_lload_n hx hb dL_studentHolds_286 rfl (lv_at hl 5 rfl) ?_
                refine lv_lconst (v := zL 1) hx hb dL_studentHolds_287 rfl ?_
                refine hk_lsubz (x := ((sm (cS (gS g aa)) 12 : Nat) : Int)) (y := 1) hx hb dL_studentHolds_288 ?_
                refine zc_lt (x := ((sm (cP (gS g aa)) 144 : Nat) : Int)) (y := (((sm (cS (gS g aa)) 12 : Nat) : Int) - 1)) (tgt := 327) hx hb (by omega) (by omega) (by omega) (by omega) dL_studentHolds_289 dL_studentHolds_290 (by decide) (fun hq => absurd hq (by omega)) (fun _ => ?_)
                refine lv_lload hx hb dL_studentHolds_293 (lv_at hl 1 rfl) ?_
                refine lv_lconst (v := zL 0) hx hb dL_studentHolds_295 rfl ?_
                have K2 : ∀ (d : Ad) (H : Heap) (locs : List Loc), va_P D vwCl (hkW ct b d g) H → va_D A (hkW ct b d g) → va_S A s.heap H locs → ∀ (ls : Array Slot), lv_has ls 14 [(9, .long (zL (mI (gS g aa)))), (7, .long (zL (bI (gS g aa)))), (0, .ref (b 0)), (1, .int (nI aa)), (2, .int (nI 1)), (3, .long (zL ((sm (cS (gS g aa)) 12 : Nat) : Int))), (5, .long (zL ((sm (cP (gS g aa)) 144 : Nat) : Int)))] → W p l e (headSpec wsL_studentHolds ({ frames := 10, cells := 2100, slots := 12000, locals := 183 })).room s m ([.ref (b 0), .int (nI aa)] : List Value).toArray below meth c H locs 650 3700 (MQ below (hkZQ D ct b A (.int 1) g) ([.ref (b 0), .int (nI aa)] : List Value).toArray s 2100 12000 A) (F0 m 323 ls []) := by
                  intro d H locs hP hD hS ls hl
                  refine lv_iconst (v := nI 1) hx hb dL_studentHolds_323 (by decide) ?_
                  refine lv_goto (tgt := 328) hx hb dL_studentHolds_324 (by decide) ?_
                  refine lv_istore_n (lv' := [(2, .int (nI 1)), (9, .long (zL (mI (gS g aa)))), (7, .long (zL (bI (gS g aa)))), (0, .ref (b 0)), (1, .int (nI aa)), (3, .long (zL ((sm (cS (gS g aa)) 12 : Nat) : Int))), (5, .long (zL ((sm (cP (gS g aa)) 144 : Nat) : Int)))]) hx hb dL_studentHolds_328 rfl hl (by decide) rfl (fun ls hl => ?_)
                  refine lv_iconst (v := nI 0) hx hb dL_studentHolds_329 (by decide) ?_
                  refine lv_istore (lv' := [(11, .int (nI 0)), (2, .int (nI 1)), (9, .long (zL (mI (gS g aa)))), (7, .long (zL (bI (gS g aa)))), (0, .ref (b 0)), (1, .int (nI aa)), (3, .long (zL ((sm (cS (gS g aa)) 12 : Nat) : Int))), (5, .long (zL ((sm (cP (gS g aa)) 144 : Nat) : Int)))]) hx hb dL_studentHolds_330 hl (by decide) rfl (fun ls hl => ?_)
                  have L3 : ∀ (k : Nat) (d : Ad) (r : Nat), 145 ≤ r + k → r ≤ 144 → ∀ (H : Heap) (locs : List Loc), va_P D vwCl (hkW ct b d g) H → va_D A (hkW ct b d g) → va_S A s.heap H locs → ∀ (ls : Array Slot), lv_has ls 14 [(0, .ref (b 0)), (1, .int (nI aa)), (2, .int (nI 1)), (7, .long (zL (bI (gS g aa)))), (9, .long (zL (mI (gS g aa)))), (11, .int (nI r))] → W p l e (headSpec wsL_studentHolds ({ frames := 10, cells := 2100, slots := 12000, locals := 183 })).room s m ([.ref (b 0), .int (nI aa)] : List Value).toArray below meth c H locs (700 + 8 * r) (4000 + 48 * r) (MQ below (hkZQ D ct b A (.int 1) g) ([.ref (b 0), .int (nI aa)] : List Value).toArray s 2100 12000 A) (F0 m 332 ls []) := by
                    intro k
                    induction k with
                    | zero => intro d r hk; intros; exact absurd hk (by omega)
                    | succ k ih_L3 =>
                      intro d r hk hr4 H locs hP hD hS ls hl
                      refine lv_iload hx hb dL_studentHolds_332 (lv_at hl 5 rfl) ?_
                      refine lv_sipush (v := nI 144) hx hb dL_studentHolds_334 (by decide) ?_
                      refine hk_geN (tgt := 439) hx hb (by omega) (by omega) dL_studentHolds_337 (by decide) (fun hc => ?_) (fun hc => ?_)
                      · refine lv_iload_n hx hb dL_studentHolds_439 rfl (lv_at hl 2 rfl) ?_
                        refine hk_eq0N (tgt := 455) hx hb (by omega) dL_studentHolds_440 (by decide) (fun hq => absurd hq (by decide)) (fun _ => ?_)
                        refine lv_aload_n hx hb dL_studentHolds_443 rfl (lv_at hl 0 rfl) ?_
                        refine lv_iload_n hx hb dL_studentHolds_444 rfl (lv_at hl 1 rfl) ?_
                        refine hk_LZ (wr := []) (v := .int (nI 1)) (g' := g) (rest := []) (va_runS (As := [.ref (b 0), .int (nI aa)]) (rest := []) ⟨hx, hb, hml, hown, hts⟩ (c_L_lessonHolds l hfl D ct sa G0 H.size b d g aa hI hJ ha) (va_cwS 2 hts gL_studentHolds_L_lessonHolds rfl rfl rfl (by decide +kernel) ⟨Nat.le_of_ble_eq_true rfl, Nat.le_of_ble_eq_true rfl⟩) (hk_prxS hE (hkS_H hH hAG hS) ⟨rfl, hP.right (w1 := []), (hD.right (w1 := [])).weaken (fun _ _ _ h => hAG _ h)⟩) rfl rfl hl.1 rfl (lv_room (Nat.le_of_ble_eq_true rfl)) dL_studentHolds_445 ⟨by show _ ≤ 2100; omega, by show _ ≤ 12000; omega⟩) rfl hP hD hS hA rfl rfl (fun d H locs hP hD hS => ?_)
                        refine hk_eq0N (tgt := 455) hx hb (by omega) dL_studentHolds_448 (by decide) (fun hq => absurd hq (by decide)) (fun _ => ?_)
                        refine lv_iconst (v := nI 1) hx hb dL_studentHolds_451 (by decide) ?_
                        refine lv_goto (tgt := 456) hx hb dL_studentHolds_452 (by decide) ?_
                        refine W.widen (k := 2100) (n := 12000) (by omega) (by omega) ?_
                        exact W.zret (v := nI 1) hx hb hr rfl (fun t ht hW => ⟨rfl, ⟨d, by rw [ht]; exact hP, hD⟩, hS.F ht⟩) hS.2.2 dL_studentHolds_456
                      · refine lv_iload_n hx hb dL_studentHolds_340 rfl (lv_at hl 2 rfl) ?_
                        refine hk_eq0N (tgt := 439) hx hb (by omega) dL_studentHolds_341 (by decide) (fun hq => absurd hq (by decide)) (fun _ => ?_)
                        refine lv_iload hx hb dL_studentHolds_344 (lv_at hl 5 rfl) ?_
                        refine lv_bipush (v := nI 12) hx hb dL_studentHolds_346 (by decide) ?_
                        refine hk_divN hx hb (by omega) (by omega) (by omega) dL_studentHolds_348 ?_
                        refine lv_iload hx hb dL_studentHolds_349 (lv_at hl 5 rfl) ?_
                        refine lv_bipush (v := nI 12) hx hb dL_studentHolds_351 (by decide) ?_
                        refine hk_remN hx hb (by omega) (by omega) (by omega) dL_studentHolds_353 ?_
                        refine hk_geN (tgt := 433) hx hb (by omega) (by omega) dL_studentHolds_354 (by decide) (fun hlt => ?_) (fun hlt => ?_)
                        · refine lv_iinc (v := nI (r + 1)) (lv' := [(11, .int (nI (r + 1))), (0, .ref (b 0)), (1, .int (nI aa)), (2, .int (nI 1)), (7, .long (zL (bI (gS g aa)))), (9, .long (zL (mI (gS g aa))))]) hx hb dL_studentHolds_433 hl (k := 5) rfl (nI_add _ _) (by decide) rfl (fun ls hl => ?_)
                          refine lv_goto (tgt := 332) hx hb dL_studentHolds_436 (by decide) ?_
                          refine W.widen (k := 700 + 8 * (r + 1)) (n := 4000 + 48 * (r + 1)) (by omega) (by omega) ?_
                          exact ih_L3 d (r + 1) (by omega) (by omega) H locs hP hD hS ls (lv_sub hl [1, 2, 3, 4, 5, 0] rfl)
                        · refine lv_aload_n hx hb dL_studentHolds_357 rfl (lv_at hl 0 rfl) ?_
                          refine lv_iload_n hx hb dL_studentHolds_358 rfl (lv_at hl 1 rfl) ?_
                          refine lv_iload hx hb dL_studentHolds_359 (lv_at hl 5 rfl) ?_
                          refine lv_bipush (v := nI 12) hx hb dL_studentHolds_361 (by decide) ?_
                          refine hk_divN hx hb (by omega) (by omega) (by omega) dL_studentHolds_363 ?_
                          refine lv_iload hx hb dL_studentHolds_364 (lv_at hl 5 rfl) ?_
                          refine lv_bipush (v := nI 12) hx hb dL_studentHolds_366 (by decide) ?_
                          refine hk_remN hx hb (by omega) (by omega) (by omega) dL_studentHolds_368 ?_
                          have f1 := (best_ok hu).2 r (by omega) hlt
                          have f2 := sZ_b hu (r / 12) (r % 12)
                          have f3 := sZ_comm (gS g aa) (r % 12) (r / 12)
                          have h9 := lwT (es := [(-9000000000000000001), (-9000000000000000002)]) (e_saves hI ha (show r / 12 < 12 by omega) (show r % 12 < 12 by omega) (by omega)) (sv_sZ hu _ _)
                          refine hk_LZ (wr := []) (v := .long (zL (sZ (gS g aa) (r / 12) (r % 12)))) (g' := g) (rest := []) (vx_runSW (As := [.ref (b 0), .int (nI aa), .int (nI (r / 12)), .int (nI (r % 12))]) (rest := []) ⟨hx, hb, hml, hown, hts⟩ (c_L_saves l hfl D ct sa G0 H.size b d g (nI aa) (nI (r / 12)) (nI (r % 12)) hI) (vx_cwSW 4 hts gL_studentHolds_L_saves rfl rfl rfl (by decide +kernel) ⟨Nat.le_of_ble_eq_true rfl, Nat.le_of_ble_eq_true rfl⟩) (hk_prxS hE (hkS_H hH hAG hS) ⟨rfl, hP.right (w1 := []), (hD.right (w1 := [])).weaken (fun _ _ _ h => hAG _ h)⟩) rfl rfl hl.1 rfl (lv_room (Nat.le_of_ble_eq_true rfl)) dL_studentHolds_369 ⟨by show _ ≤ 2100; omega, by show _ ≤ 12000; omega⟩) rfl hP hD hS hA (congrArg Value.long h9.1) h9.2 (fun d H locs hP hD hS => ?_)
                          refine lv_lstore (lv' := [(12, .long (zL (sZ (gS g aa) (r / 12) (r % 12)))), (0, .ref (b 0)), (1, .int (nI aa)), (2, .int (nI 1)), (7, .long (zL (bI (gS g aa)))), (9, .long (zL (mI (gS g aa)))), (11, .int (nI r))]) hx hb dL_studentHolds_372 hl (by decide) rfl (fun ls hl => ?_)
                          refine lv_lload hx hb dL_studentHolds_374 (lv_at hl 0 rfl) ?_
                          refine lv_lload hx hb dL_studentHolds_376 (lv_at hl 5 rfl) ?_
                          refine zc_gt (x := (sZ (gS g aa) (r / 12) (r % 12))) (y := (mI (gS g aa))) (tgt := 431) hx hb (by omega) (by omega) (by omega) (by omega) dL_studentHolds_378 dL_studentHolds_379 (by decide) (fun hq => absurd hq (by omega)) (fun _ => ?_)
                          refine lv_lload hx hb dL_studentHolds_382 (lv_at hl 0 rfl) ?_
                          refine lv_lload hx hb dL_studentHolds_384 (lv_at hl 5 rfl) ?_
                          refine zc_lt (x := (sZ (gS g aa) (r / 12) (r % 12))) (y := (mI (gS g aa))) (tgt := 406) hx hb (by omega) (by omega) (by omega) (by omega) dL_studentHolds_386 dL_studentHolds_387 (by decide) (fun hq => ?_) (fun hq => ?_)
                          · refine lv_lload hx hb dL_studentHolds_406 (lv_at hl 0 rfl) ?_
                            refine lv_aload_n hx hb dL_studentHolds_408 rfl (lv_at hl 1 rfl) ?_
                            refine lv_iload_n hx hb dL_studentHolds_409 rfl (lv_at hl 2 rfl) ?_
                            refine lv_iload hx hb dL_studentHolds_410 (lv_at hl 6 rfl) ?_
                            refine lv_bipush (v := nI 12) hx hb dL_studentHolds_412 (by decide) ?_
                            refine hk_remN hx hb (by omega) (by omega) (by omega) dL_studentHolds_414 ?_
                            refine lv_iload hx hb dL_studentHolds_415 (lv_at hl 6 rfl) ?_
                            refine lv_bipush (v := nI 12) hx hb dL_studentHolds_417 (by decide) ?_
                            refine hk_divN hx hb (by omega) (by omega) (by omega) dL_studentHolds_419 ?_
                            have h9 := lwT (es := [(-9000000000000000001), (-9000000000000000002)]) (e_saves hI ha (show r % 12 < 12 by omega) (show r / 12 < 12 by omega) (by omega)) (sv_sZ hu _ _)
                            refine hk_LZ (wr := []) (v := .long (zL (sZ (gS g aa) (r % 12) (r / 12)))) (g' := g) (rest := [.long (zL (sZ (gS g aa) (r / 12) (r % 12)))]) (vx_runSW (As := [.ref (b 0), .int (nI aa), .int (nI (r % 12)), .int (nI (r / 12))]) (rest := [.long (zL (sZ (gS g aa) (r / 12) (r % 12)))]) ⟨hx, hb, hml, hown, hts⟩ (c_L_saves l hfl D ct sa G0 H.size b d g (nI aa) (nI (r % 12)) (nI (r / 12)) hI) (vx_cwSW 4 hts gL_studentHolds_L_saves rfl rfl rfl (by decide +kernel) ⟨Nat.le_of_ble_eq_true rfl, Nat.le_of_ble_eq_true rfl⟩) (hk_prxS hE (hkS_H hH hAG hS) ⟨rfl, hP.right (w1 := []), (hD.right (w1 := [])).weaken (fun _ _ _ h => hAG _ h)⟩) rfl rfl hl.1 rfl (lv_room (Nat.le_of_ble_eq_true rfl)) dL_studentHolds_420 ⟨by show _ ≤ 2100; omega, by show _ ≤ 12000; omega⟩) rfl hP hD hS hA (congrArg Value.long h9.1) h9.2 (fun d H locs hP hD hS => ?_)
                            refine zq_ne (x := (sZ (gS g aa) (r / 12) (r % 12))) (y := (sZ (gS g aa) (r % 12) (r / 12))) (tgt := 431) hx hb (f3.symm) dL_studentHolds_423 dL_studentHolds_424 (by decide) ?_
                            refine lv_iconst (v := nI 1) hx hb dL_studentHolds_427 (by decide) ?_
                            refine lv_goto (tgt := 432) hx hb dL_studentHolds_428 (by decide) ?_
                            refine lv_istore_n (lv' := [(2, .int (nI 1)), (12, .long (zL (sZ (gS g aa) (r / 12) (r % 12)))), (0, .ref (b 0)), (1, .int (nI aa)), (7, .long (zL (bI (gS g aa)))), (9, .long (zL (mI (gS g aa)))), (11, .int (nI r))]) hx hb dL_studentHolds_432 rfl hl (by decide) rfl (fun ls hl => ?_)
                            refine lv_iinc (v := nI (r + 1)) (lv' := [(11, .int (nI (r + 1))), (2, .int (nI 1)), (12, .long (zL (sZ (gS g aa) (r / 12) (r % 12)))), (0, .ref (b 0)), (1, .int (nI aa)), (7, .long (zL (bI (gS g aa)))), (9, .long (zL (mI (gS g aa))))]) hx hb dL_studentHolds_433 hl (k := 6) rfl (nI_add _ _) (by decide) rfl (fun ls hl => ?_)
                            refine lv_goto (tgt := 332) hx hb dL_studentHolds_436 (by decide) ?_
                            refine W.widen (k := 700 + 8 * (r + 1)) (n := 4000 + 48 * (r + 1)) (by omega) (by omega) ?_
                            exact ih_L3 d (r + 1) (by omega) (by omega) H locs hP hD hS ls (lv_sub hl [3, 4, 1, 5, 6, 0] rfl)
                          · refine lv_lload hx hb dL_studentHolds_390 (lv_at hl 4 rfl) ?_
                            refine lv_lconst (v := zL 0) hx hb dL_studentHolds_392 rfl ?_
                            refine zc_lt (x := (bI (gS g aa))) (y := 0) (tgt := 406) hx hb (by omega) (by omega) (by omega) (by omega) dL_studentHolds_393 dL_studentHolds_394 (by decide) (fun hq8 => ?_) (fun hq8 => ?_)
                            · refine lv_lload hx hb dL_studentHolds_406 (lv_at hl 0 rfl) ?_
                              refine lv_aload_n hx hb dL_studentHolds_408 rfl (lv_at hl 1 rfl) ?_
                              refine lv_iload_n hx hb dL_studentHolds_409 rfl (lv_at hl 2 rfl) ?_
                              refine lv_iload hx hb dL_studentHolds_410 (lv_at hl 6 rfl) ?_
                              refine lv_bipush (v := nI 12) hx hb dL_studentHolds_412 (by decide) ?_
                              refine hk_remN hx hb (by omega) (by omega) (by omega) dL_studentHolds_414 ?_
                              refine lv_iload hx hb dL_studentHolds_415 (lv_at hl 6 rfl) ?_
                              refine lv_bipush (v := nI 12) hx hb dL_studentHolds_417 (by decide) ?_
                              refine hk_divN hx hb (by omega) (by omega) (by omega) dL_studentHolds_419 ?_
                              have h9 := lwT (es := [(-9000000000000000001), (-9000000000000000002)]) (e_saves hI ha (show r % 12 < 12 by omega) (show r / 12 < 12 by omega) (by omega)) (sv_sZ hu _ _)
                              refine hk_LZ (wr := []) (v := .long (zL (sZ (gS g aa) (r % 12) (r / 12)))) (g' := g) (rest := [.long (zL (sZ (gS g aa) (r / 12) (r % 12)))]) (vx_runSW (As := [.ref (b 0), .int (nI aa), .int (nI (r % 12)), .int (nI (r / 12))]) (rest := [.long (zL (sZ (gS g aa) (r / 12) (r % 12)))]) ⟨hx, hb, hml, hown, hts⟩ (c_L_saves l hfl D ct sa G0 H.size b d g (nI aa) (nI (r % 12)) (nI (r / 12)) hI) (vx_cwSW 4 hts gL_studentHolds_L_saves rfl rfl rfl (by decide +kernel) ⟨Nat.le_of_ble_eq_true rfl, Nat.le_of_ble_eq_true rfl⟩) (hk_prxS hE (hkS_H hH hAG hS) ⟨rfl, hP.right (w1 := []), (hD.right (w1 := [])).weaken (fun _ _ _ h => hAG _ h)⟩) rfl rfl hl.1 rfl (lv_room (Nat.le_of_ble_eq_true rfl)) dL_studentHolds_420 ⟨by show _ ≤ 2100; omega, by show _ ≤ 12000; omega⟩) rfl hP hD hS hA (congrArg Value.long h9.1) h9.2 (fun d H locs hP hD hS => ?_)
                              refine zq_ne (x := (sZ (gS g aa) (r / 12) (r % 12))) (y := (sZ (gS g aa) (r % 12) (r / 12))) (tgt := 431) hx hb (f3.symm) dL_studentHolds_423 dL_studentHolds_424 (by decide) ?_
                              refine lv_iconst (v := nI 1) hx hb dL_studentHolds_427 (by decide) ?_
                              refine lv_goto (tgt := 432) hx hb dL_studentHolds_428 (by decide) ?_
                              refine lv_istore_n (lv' := [(2, .int (nI 1)), (12, .long (zL (sZ (gS g aa) (r / 12) (r % 12)))), (0, .ref (b 0)), (1, .int (nI aa)), (7, .long (zL (bI (gS g aa)))), (9, .long (zL (mI (gS g aa)))), (11, .int (nI r))]) hx hb dL_studentHolds_432 rfl hl (by decide) rfl (fun ls hl => ?_)
                              refine lv_iinc (v := nI (r + 1)) (lv' := [(11, .int (nI (r + 1))), (2, .int (nI 1)), (12, .long (zL (sZ (gS g aa) (r / 12) (r % 12)))), (0, .ref (b 0)), (1, .int (nI aa)), (7, .long (zL (bI (gS g aa)))), (9, .long (zL (mI (gS g aa))))]) hx hb dL_studentHolds_433 hl (k := 6) rfl (nI_add _ _) (by decide) rfl (fun ls hl => ?_)
                              refine lv_goto (tgt := 332) hx hb dL_studentHolds_436 (by decide) ?_
                              refine W.widen (k := 700 + 8 * (r + 1)) (n := 4000 + 48 * (r + 1)) (by omega) (by omega) ?_
                              exact ih_L3 d (r + 1) (by omega) (by omega) H locs hP hD hS ls (lv_sub hl [3, 4, 1, 5, 6, 0] rfl)
                            · refine lv_iload hx hb dL_studentHolds_397 (lv_at hl 6 rfl) ?_
                              refine hk_i2lz (n := r) hx hb (by omega) dL_studentHolds_399 ?_
                              refine lv_lload hx hb dL_studentHolds_400 (lv_at hl 4 rfl) ?_
                              refine zc_lt (x := ((r : Nat) : Int)) (y := (bI (gS g aa))) (tgt := 431) hx hb (by omega) (by omega) (by omega) (by omega) dL_studentHolds_402 dL_studentHolds_403 (by decide) (fun hq => absurd hq (by omega)) (fun _ => ?_)
                              refine lv_lload hx hb dL_studentHolds_406 (lv_at hl 0 rfl) ?_
                              refine lv_aload_n hx hb dL_studentHolds_408 rfl (lv_at hl 1 rfl) ?_
                              refine lv_iload_n hx hb dL_studentHolds_409 rfl (lv_at hl 2 rfl) ?_
                              refine lv_iload hx hb dL_studentHolds_410 (lv_at hl 6 rfl) ?_
                              refine lv_bipush (v := nI 12) hx hb dL_studentHolds_412 (by decide) ?_
                              refine hk_remN hx hb (by omega) (by omega) (by omega) dL_studentHolds_414 ?_
                              refine lv_iload hx hb dL_studentHolds_415 (lv_at hl 6 rfl) ?_
                              refine lv_bipush (v := nI 12) hx hb dL_studentHolds_417 (by decide) ?_
                              refine hk_divN hx hb (by omega) (by omega) (by omega) dL_studentHolds_419 ?_
                              have h9 := lwT (es := [(-9000000000000000001), (-9000000000000000002)]) (e_saves hI ha (show r % 12 < 12 by omega) (show r / 12 < 12 by omega) (by omega)) (sv_sZ hu _ _)
                              refine hk_LZ (wr := []) (v := .long (zL (sZ (gS g aa) (r % 12) (r / 12)))) (g' := g) (rest := [.long (zL (sZ (gS g aa) (r / 12) (r % 12)))]) (vx_runSW (As := [.ref (b 0), .int (nI aa), .int (nI (r % 12)), .int (nI (r / 12))]) (rest := [.long (zL (sZ (gS g aa) (r / 12) (r % 12)))]) ⟨hx, hb, hml, hown, hts⟩ (c_L_saves l hfl D ct sa G0 H.size b d g (nI aa) (nI (r % 12)) (nI (r / 12)) hI) (vx_cwSW 4 hts gL_studentHolds_L_saves rfl rfl rfl (by decide +kernel) ⟨Nat.le_of_ble_eq_true rfl, Nat.le_of_ble_eq_true rfl⟩) (hk_prxS hE (hkS_H hH hAG hS) ⟨rfl, hP.right (w1 := []), (hD.right (w1 := [])).weaken (fun _ _ _ h => hAG _ h)⟩) rfl rfl hl.1 rfl (lv_room (Nat.le_of_ble_eq_true rfl)) dL_studentHolds_420 ⟨by show _ ≤ 2100; omega, by show _ ≤ 12000; omega⟩) rfl hP hD hS hA (congrArg Value.long h9.1) h9.2 (fun d H locs hP hD hS => ?_)
                              refine zq_ne (x := (sZ (gS g aa) (r / 12) (r % 12))) (y := (sZ (gS g aa) (r % 12) (r / 12))) (tgt := 431) hx hb (f3.symm) dL_studentHolds_423 dL_studentHolds_424 (by decide) ?_
                              refine lv_iconst (v := nI 1) hx hb dL_studentHolds_427 (by decide) ?_
                              refine lv_goto (tgt := 432) hx hb dL_studentHolds_428 (by decide) ?_
                              refine lv_istore_n (lv' := [(2, .int (nI 1)), (12, .long (zL (sZ (gS g aa) (r / 12) (r % 12)))), (0, .ref (b 0)), (1, .int (nI aa)), (7, .long (zL (bI (gS g aa)))), (9, .long (zL (mI (gS g aa)))), (11, .int (nI r))]) hx hb dL_studentHolds_432 rfl hl (by decide) rfl (fun ls hl => ?_)
                              refine lv_iinc (v := nI (r + 1)) (lv' := [(11, .int (nI (r + 1))), (2, .int (nI 1)), (12, .long (zL (sZ (gS g aa) (r / 12) (r % 12)))), (0, .ref (b 0)), (1, .int (nI aa)), (7, .long (zL (bI (gS g aa)))), (9, .long (zL (mI (gS g aa))))]) hx hb dL_studentHolds_433 hl (k := 6) rfl (nI_add _ _) (by decide) rfl (fun ls hl => ?_)
                              refine lv_goto (tgt := 332) hx hb dL_studentHolds_436 (by decide) ?_
                              refine W.widen (k := 700 + 8 * (r + 1)) (n := 4000 + 48 * (r + 1)) (by omega) (by omega) ?_
                              exact ih_L3 d (r + 1) (by omega) (by omega) H locs hP hD hS ls (lv_sub hl [3, 4, 1, 5, 6, 0] rfl)
                  refine W.widen (k := 700 + 8 * 0) (n := 4000 + 48 * 0) (by omega) (by omega) ?_
                  exact L3 145 d 0 (by omega) (by omega) H locs hP hD hS ls (lv_sub hl [4, 5, 1, 3, 2, 0] rfl)
                refine zc_lt (x := (bI (gS g aa))) (y := 0) (tgt := 323) hx hb (by omega) (by omega) (by omega) (by omega) dL_studentHolds_296 dL_studentHolds_297 (by decide) (fun hq => ?_) (fun hq => ?_)
                · refine W.widen (k := 650) (n := 3700) (by omega) (by omega) ?_
                  exact K2 d H locs hP hD hS ls (lv_sub hl [0, 1, 2, 3, 4, 5, 6] rfl)
                · obtain ⟨j9, j1, j2, b1, b2, b3⟩ := (best_ok hu).1.resolve_left (fun q => hq (by omega))
                  refine lv_lload hx hb dL_studentHolds_300 (lv_at hl 0 rfl) ?_
                  refine lv_lconst (v := zL 0) hx hb dL_studentHolds_302 rfl ?_
                  refine zc_le (x := (mI (gS g aa))) (y := 0) (tgt := 327) hx hb (by omega) (by omega) (by omega) (by omega) dL_studentHolds_303 dL_studentHolds_304 (by decide) (fun hq => absurd hq (by omega)) (fun _ => ?_)
                  refine lv_lload hx hb dL_studentHolds_307 (lv_at hl 1 rfl) ?_
                  refine hk_ldcz (v := 12) (n := 12) hx hb (by decide +kernel) hown (hts (.constantLong RL 101 12) (by decide +kernel)) dL_studentHolds_309 ?_
                  refine hk_ldivz (x := (bI (gS g aa))) (y := 12) hx hb (by omega) (by omega) (by omega) (by omega) dL_studentHolds_312 ?_
                  refine lv_lload hx hb dL_studentHolds_313 (lv_at hl 1 rfl) ?_
                  refine hk_ldcz (v := 12) (n := 12) hx hb (by decide +kernel) hown (hts (.constantLong RL 101 12) (by decide +kernel)) dL_studentHolds_315 ?_
                  refine hk_lremz (x := (bI (gS g aa))) (y := 12) hx hb (by omega) (by omega) (by omega) (by omega) dL_studentHolds_318 ?_
                  refine zc_ge (x := ((bI (gS g aa)) / 12)) (y := ((bI (gS g aa)) % 12)) (tgt := 327) hx hb (by omega) (by omega) (by omega) (by omega) dL_studentHolds_319 dL_studentHolds_320 (by decide) (fun hq => absurd hq (by omega)) (fun _ => ?_)
                  refine W.widen (k := 650) (n := 3700) (by omega) (by omega) ?_
                  exact K2 d H locs hP hD hS ls (lv_sub hl [0, 1, 2, 3, 4, 5, 6] rfl)
              refine zc_ge (x := (bI (gS g aa))) (y := 0) (tgt := 254) hx hb (by omega) (by omega) (by omega) (by omega) dL_studentHolds_246 dL_studentHolds_247 (by decide) (fun hq => ?_) (fun hq => ?_)
              · rcases (best_ok hu).1 with ⟨b1, b2⟩ | ⟨j9, j1, j2, b1, b2, b3⟩
                · exact absurd hq (by omega)
                · refine lv_aload_n hx hb dL_studentHolds_254 rfl (lv_at hl 1 rfl) ?_
                  refine lv_iload_n hx hb dL_studentHolds_255 rfl (lv_at hl 2 rfl) ?_
                  refine lv_lload hx hb dL_studentHolds_256 (lv_at hl 0 rfl) ?_
                  refine hk_topz (a := (bI (gS g aa))) (b := ((j9 : Nat) : Int)) (b1) ?_
                  refine hk_l2iz (n := j9) hx hb dL_studentHolds_258 ?_
                  refine lv_bipush (v := nI 12) hx hb dL_studentHolds_259 (by decide) ?_
                  refine hk_divN hx hb (by omega) (by omega) (by omega) dL_studentHolds_261 ?_
                  refine lv_lload hx hb dL_studentHolds_262 (lv_at hl 0 rfl) ?_
                  refine hk_topz (a := (bI (gS g aa))) (b := ((j9 : Nat) : Int)) (b1) ?_
                  refine hk_l2iz (n := j9) hx hb dL_studentHolds_264 ?_
                  refine lv_bipush (v := nI 12) hx hb dL_studentHolds_265 (by decide) ?_
                  refine hk_remN hx hb (by omega) (by omega) (by omega) dL_studentHolds_267 ?_
                  have h9 := lwT (es := [(-9000000000000000001), (-9000000000000000002)]) (e_saves hI ha (show j9 / 12 < 12 by omega) (show j9 % 12 < 12 by omega) (by omega)) (sv_sZ hu _ _)
                  refine hk_LZ (wr := []) (v := .long (zL (sZ (gS g aa) (j9 / 12) (j9 % 12)))) (g' := g) (rest := []) (vx_runSW (As := [.ref (b 0), .int (nI aa), .int (nI (j9 / 12)), .int (nI (j9 % 12))]) (rest := []) ⟨hx, hb, hml, hown, hts⟩ (c_L_saves l hfl D ct sa G0 H.size b d g (nI aa) (nI (j9 / 12)) (nI (j9 % 12)) hI) (vx_cwSW 4 hts gL_studentHolds_L_saves rfl rfl rfl (by decide +kernel) ⟨Nat.le_of_ble_eq_true rfl, Nat.le_of_ble_eq_true rfl⟩) (hk_prxS hE (hkS_H hH hAG hS) ⟨rfl, hP.right (w1 := []), (hD.right (w1 := [])).weaken (fun _ _ _ h => hAG _ h)⟩) rfl rfl hl.1 rfl (lv_room (Nat.le_of_ble_eq_true rfl)) dL_studentHolds_268 ⟨by show _ ≤ 2100; omega, by show _ ≤ 12000; omega⟩) rfl hP hD hS hA (congrArg Value.long h9.1) h9.2 (fun d H locs hP hD hS => ?_)
                  refine hk_topz (a := (sZ (gS g aa) (j9 / 12) (j9 % 12))) (b := (mI (gS g aa))) (b2.symm) ?_
                  refine W.widen (k := 650) (n := 3700) (by omega) (by omega) ?_
                  exact K1 d H locs hP hD hS ls (lv_sub hl [0, 1, 2, 3, 4, 5] rfl)
              · refine lv_lconst (v := zL 0) hx hb dL_studentHolds_250 rfl ?_
                refine lv_goto (tgt := 271) hx hb dL_studentHolds_251 (by decide) ?_
                refine hk_topz (a := 0) (b := (mI (gS g aa))) (by rcases (best_ok hu).1 with ⟨b1, b2⟩ | ⟨j9, j1, j2, b1, b2, b3⟩ <;> omega) ?_
                refine W.widen (k := 650) (n := 3700) (by omega) (by omega) ?_
                exact K1 d H locs hP hD hS ls (lv_sub hl [0, 1, 2, 3, 4, 5] rfl)
            · refine lv_iload_n hx hb dL_studentHolds_206 rfl (lv_at hl 2 rfl) ?_
              refine hk_eq0N (tgt := 236) hx hb (by omega) dL_studentHolds_207 (by decide) (fun hq => absurd hq (by decide)) (fun _ => ?_)
              refine lv_lload hx hb dL_studentHolds_210 (lv_at hl 4 rfl) ?_
              refine lv_aload_n hx hb dL_studentHolds_212 rfl (lv_at hl 0 rfl) ?_
              refine lv_iload_n hx hb dL_studentHolds_213 rfl (lv_at hl 1 rfl) ?_
              refine lv_iload hx hb dL_studentHolds_214 (lv_at hl 5 rfl) ?_
              refine lv_bipush (v := nI 12) hx hb dL_studentHolds_216 (by decide) ?_
              refine hk_divN hx hb (by omega) (by omega) (by omega) dL_studentHolds_218 ?_
              refine lv_iload hx hb dL_studentHolds_219 (lv_at hl 5 rfl) ?_
              refine lv_bipush (v := nI 12) hx hb dL_studentHolds_221 (by decide) ?_
              refine hk_remN hx hb (by omega) (by omega) (by omega) dL_studentHolds_223 ?_
              have hp9 := Nat.le_trans (cP_le hj (k := j) (by omega)) hj.2.2.2.2.2.2.1
              have h9 := lwN (es := [(-9000000000000000001)]) (e_pair hI ha hj (k := j) (by omega)) (by omega)
              refine hk_LZ (wr := []) (v := .long (zL ((cP (gS g aa) j : Nat) : Int))) (g' := g) (rest := [.long (zL ((sm (cP (gS g aa)) j : Nat) : Int))]) (vx_runSW (As := [.ref (b 0), .int (nI aa), .int (nI (j / 12)), .int (nI (j % 12))]) (rest := [.long (zL ((sm (cP (gS g aa)) j : Nat) : Int))]) ⟨hx, hb, hml, hown, hts⟩ (c_L_pair l hfl D ct sa G0 H.size b d g (nI aa) (nI (j / 12)) (nI (j % 12)) hI) (vx_cwSW 4 hts gL_studentHolds_L_pair rfl rfl rfl (by decide +kernel) ⟨Nat.le_of_ble_eq_true rfl, Nat.le_of_ble_eq_true rfl⟩) (hk_prxS hE (hkS_H hH hAG hS) ⟨rfl, hP.right (w1 := []), (hD.right (w1 := [])).weaken (fun _ _ _ h => hAG _ h)⟩) rfl rfl hl.1 rfl (lv_room (Nat.le_of_ble_eq_true rfl)) dL_studentHolds_224 ⟨by show _ ≤ 2100; omega, by show _ ≤ 12000; omega⟩) rfl hP hD hS hA (congrArg Value.long h9.1) h9.2 (fun d H locs hP hD hS => ?_)
              refine hk_laddz (x := ((sm (cP (gS g aa)) j : Nat) : Int)) (y := ((cP (gS g aa) j : Nat) : Int)) hx hb dL_studentHolds_227 ?_
              refine hk_topz (a := (((sm (cP (gS g aa)) j : Nat) : Int) + ((cP (gS g aa) j : Nat) : Int))) (b := ((sm (cP (gS g aa)) (j + 1) : Nat) : Int)) (by rw [sm]; omega) ?_
              refine lv_lstore (lv' := [(5, .long (zL ((sm (cP (gS g aa)) (j + 1) : Nat) : Int))), (0, .ref (b 0)), (1, .int (nI aa)), (2, .int (nI 1)), (3, .long (zL ((sm (cS (gS g aa)) 12 : Nat) : Int))), (7, .int (nI j))]) hx hb dL_studentHolds_228 hl (by decide) rfl (fun ls hl => ?_)
              refine lv_iinc (v := nI (j + 1)) (lv' := [(7, .int (nI (j + 1))), (5, .long (zL ((sm (cP (gS g aa)) (j + 1) : Nat) : Int))), (0, .ref (b 0)), (1, .int (nI aa)), (2, .int (nI 1)), (3, .long (zL ((sm (cS (gS g aa)) 12 : Nat) : Int)))]) hx hb dL_studentHolds_230 hl (k := 5) rfl (nI_add _ _) (by decide) rfl (fun ls hl => ?_)
              refine lv_goto (tgt := 198) hx hb dL_studentHolds_233 (by decide) ?_
              refine W.widen (k := 200 + 3 * (j + 1)) (n := 1000 + 18 * (j + 1)) (by omega) (by omega) ?_
              exact ih_L2 d (j + 1) (by omega) (by omega) H locs hP hD hS ls (lv_sub hl [2, 3, 4, 5, 1, 0] rfl)
        refine W.widen (k := 200 + 3 * 0) (n := 1000 + 18 * 0) (by omega) (by omega) ?_
        exact L2 145 d 0 (by omega) (by omega) H locs hP hD hS ls (lv_sub hl [3, 4, 2, 5, 1, 0] rfl)
      · refine lv_iload_n hx hb dL_studentHolds_32 rfl (lv_at hl 2 rfl) ?_
        refine hk_eq0N (tgt := 140) hx hb (by omega) dL_studentHolds_33 (by decide) (fun hq => absurd hq (by decide)) (fun _ => ?_)
        refine lv_aload_n hx hb dL_studentHolds_36 rfl (lv_at hl 0 rfl) ?_
        refine lv_iload_n hx hb dL_studentHolds_37 rfl (lv_at hl 1 rfl) ?_
        refine lv_iload hx hb dL_studentHolds_38 (lv_at hl 4 rfl) ?_
        have hK := hu.1 i (by omega)
        have hLK := hj.1 i (by omega)
        have h9 := lwN (es := [(-9000000000000000001)]) (e_keyOf hI ha (by omega : i < 12)) (Nat.lt_trans (hu.1 _ (by omega : i < 12)) (by omega))
        refine hk_LZ (wr := []) (v := .long (zL ((sK (gS g aa) i : Nat) : Int))) (g' := g) (rest := []) (vx_runSW (As := [.ref (b 0), .int (nI aa), .int (nI i)]) (rest := []) ⟨hx, hb, hml, hown, hts⟩ (c_L_keyOf l hfl D ct sa G0 H.size b d g (nI aa) (nI i) hI) (vx_cwSW 3 hts gL_studentHolds_L_keyOf rfl rfl rfl (by decide +kernel) ⟨Nat.le_of_ble_eq_true rfl, Nat.le_of_ble_eq_true rfl⟩) (hk_prxS hE (hkS_H hH hAG hS) ⟨rfl, hP.right (w1 := []), (hD.right (w1 := [])).weaken (fun _ _ _ h => hAG _ h)⟩) rfl rfl hl.1 rfl (lv_room (Nat.le_of_ble_eq_true rfl)) dL_studentHolds_40 ⟨by show _ ≤ 2100; omega, by show _ ≤ 12000; omega⟩) rfl hP hD hS hA (congrArg Value.long h9.1) h9.2 (fun d H locs hP hD hS => ?_)
        refine lv_lstore (lv' := [(6, .long (zL ((sK (gS g aa) i : Nat) : Int))), (0, .ref (b 0)), (1, .int (nI aa)), (2, .int (nI 1)), (3, .long (zL ((sm (cS (gS g aa)) i : Nat) : Int))), (5, .int (nI i))]) hx hb dL_studentHolds_43 hl (by decide) rfl (fun ls hl => ?_)
        refine lv_lload_n hx hb dL_studentHolds_45 rfl (lv_at hl 4 rfl) ?_
        refine lv_aload_n hx hb dL_studentHolds_46 rfl (lv_at hl 1 rfl) ?_
        refine lv_iload_n hx hb dL_studentHolds_47 rfl (lv_at hl 2 rfl) ?_
        refine lv_iconst (v := nI 0) hx hb dL_studentHolds_48 (by decide) ?_
        refine lv_iload hx hb dL_studentHolds_49 (lv_at hl 5 rfl) ?_
        have h9 := lwN (es := [(-9000000000000000001), (-9000000000000000002)]) (e_slips hI ha (grk_ok (n := 12) (by decide) (show i < 12 by omega) (by omega)) (sl_k hj (show i < 12 by omega))) (Nat.lt_of_le_of_lt (hcS i (show i < 12 by omega)) (by omega))
        refine hk_LZ (wr := []) (v := .long (zL ((cS (gS g aa) i : Nat) : Int))) (g' := g) (rest := [.long (zL ((sm (cS (gS g aa)) i : Nat) : Int))]) (vx_runSW (As := [.ref (b 0), .int (nI aa), .int (nI 0), .int (nI i)]) (rest := [.long (zL ((sm (cS (gS g aa)) i : Nat) : Int))]) ⟨hx, hb, hml, hown, hts⟩ (c_L_slips l hfl D ct sa G0 H.size b d g (nI aa) (nI 0) (nI i) hI) (vx_cwSW 4 hts gL_studentHolds_L_slips rfl rfl rfl (by decide +kernel) ⟨Nat.le_of_ble_eq_true rfl, Nat.le_of_ble_eq_true rfl⟩) (hk_prxS hE (hkS_H hH hAG hS) ⟨rfl, hP.right (w1 := []), (hD.right (w1 := [])).weaken (fun _ _ _ h => hAG _ h)⟩) rfl rfl hl.1 rfl (lv_room (Nat.le_of_ble_eq_true rfl)) dL_studentHolds_51 ⟨by show _ ≤ 2100; omega, by show _ ≤ 12000; omega⟩) rfl hP hD hS hA (congrArg Value.long h9.1) h9.2 (fun d H locs hP hD hS => ?_)
        refine hk_laddz (x := ((sm (cS (gS g aa)) i : Nat) : Int)) (y := ((cS (gS g aa) i : Nat) : Int)) hx hb dL_studentHolds_54 ?_
        refine hk_topz (a := (((sm (cS (gS g aa)) i : Nat) : Int) + ((cS (gS g aa) i : Nat) : Int))) (b := ((sm (cS (gS g aa)) (i + 1) : Nat) : Int)) (by rw [sm]; omega) ?_
        refine lv_lstore_n (lv' := [(3, .long (zL ((sm (cS (gS g aa)) (i + 1) : Nat) : Int))), (6, .long (zL ((sK (gS g aa) i : Nat) : Int))), (0, .ref (b 0)), (1, .int (nI aa)), (2, .int (nI 1)), (5, .int (nI i))]) hx hb dL_studentHolds_55 rfl hl (by decide) rfl (fun ls hl => ?_)
        refine lv_lload hx hb dL_studentHolds_56 (lv_at hl 1 rfl) ?_
        refine lv_lconst (v := zL 0) hx hb dL_studentHolds_58 rfl ?_
        refine zc_lt (x := ((sK (gS g aa) i : Nat) : Int)) (y := 0) (tgt := 132) hx hb (by omega) (by omega) (by omega) (by omega) dL_studentHolds_59 dL_studentHolds_60 (by decide) (fun hq => absurd hq (by omega)) (fun _ => ?_)
        refine lv_lload hx hb dL_studentHolds_63 (lv_at hl 1 rfl) ?_
        refine hk_ldcz (v := 12) (n := 12) hx hb (by decide +kernel) hown (hts (.constantLong RL 101 12) (by decide +kernel)) dL_studentHolds_65 ?_
        refine zc_ge (x := ((sK (gS g aa) i : Nat) : Int)) (y := 12) (tgt := 132) hx hb (by omega) (by omega) (by omega) (by omega) dL_studentHolds_68 dL_studentHolds_69 (by decide) (fun hq => absurd hq (by omega)) (fun _ => ?_)
        refine lv_aload_n hx hb dL_studentHolds_72 rfl (lv_at hl 2 rfl) ?_
        refine lv_iload_n hx hb dL_studentHolds_73 rfl (lv_at hl 3 rfl) ?_
        refine lv_lload hx hb dL_studentHolds_74 (lv_at hl 1 rfl) ?_
        refine hk_l2iz (n := sK (gS g aa) i) hx hb dL_studentHolds_76 ?_
        have h9 := lwN (es := [(-9000000000000000001)]) (e_letterOn hI ha hK) (by omega)
        refine hk_LZ (wr := []) (v := .long (zL ((sL (gS g aa) (sK (gS g aa) i) : Nat) : Int))) (g' := g) (rest := []) (vx_runSW (As := [.ref (b 0), .int (nI aa), .int (nI (sK (gS g aa) i))]) (rest := []) ⟨hx, hb, hml, hown, hts⟩ (c_L_letterOn l hfl D ct sa G0 H.size b d g (nI aa) (nI (sK (gS g aa) i)) hI) (vx_cwSW 3 hts gL_studentHolds_L_letterOn rfl rfl rfl (by decide +kernel) ⟨Nat.le_of_ble_eq_true rfl, Nat.le_of_ble_eq_true rfl⟩) (hk_prxS hE (hkS_H hH hAG hS) ⟨rfl, hP.right (w1 := []), (hD.right (w1 := [])).weaken (fun _ _ _ h => hAG _ h)⟩) rfl rfl hl.1 rfl (lv_room (Nat.le_of_ble_eq_true rfl)) dL_studentHolds_77 ⟨by show _ ≤ 2100; omega, by show _ ≤ 12000; omega⟩) rfl hP hD hS hA (congrArg Value.long h9.1) h9.2 (fun d H locs hP hD hS => ?_)
        refine lv_iload hx hb dL_studentHolds_80 (lv_at hl 5 rfl) ?_
        refine hk_i2lz (n := i) hx hb (by omega) dL_studentHolds_82 ?_
        refine zq_ne (x := ((sL (gS g aa) (sK (gS g aa) i) : Nat) : Int)) (y := ((i : Nat) : Int)) (tgt := 132) hx hb (by rw [hLK]) dL_studentHolds_83 dL_studentHolds_84 (by decide) ?_
        refine lv_aload_n hx hb dL_studentHolds_87 rfl (lv_at hl 2 rfl) ?_
        refine lv_iload_n hx hb dL_studentHolds_88 rfl (lv_at hl 3 rfl) ?_
        refine lv_iconst (v := nI 1) hx hb dL_studentHolds_89 (by decide) ?_
        refine lv_iload hx hb dL_studentHolds_90 (lv_at hl 5 rfl) ?_
        refine lv_bipush (v := nI 6) hx hb dL_studentHolds_92 (by decide) ?_
        refine hk_remN hx hb (by omega) (by omega) (by omega) dL_studentHolds_94 ?_
        have hc6 := hcS (i % 6) (by omega)
        have hc7 := hcS (i % 6 + 6) (by omega)
        have h9 := lwN (es := [(-9000000000000000001), (-9000000000000000002)]) (e_slips hI ha (grk_ok (n := 6) (by decide) (show i % 6 < 6 by omega) (by omega)) (sl_f hj (show i % 6 < 6 by omega))) (by omega)
        refine hk_LZ (wr := []) (v := .long (zL ((cS (gS g aa) (i % 6) + cS (gS g aa) (i % 6 + 6) : Nat) : Int))) (g' := g) (rest := []) (vx_runSW (As := [.ref (b 0), .int (nI aa), .int (nI 1), .int (nI (i % 6))]) (rest := []) ⟨hx, hb, hml, hown, hts⟩ (c_L_slips l hfl D ct sa G0 H.size b d g (nI aa) (nI 1) (nI (i % 6)) hI) (vx_cwSW 4 hts gL_studentHolds_L_slips rfl rfl rfl (by decide +kernel) ⟨Nat.le_of_ble_eq_true rfl, Nat.le_of_ble_eq_true rfl⟩) (hk_prxS hE (hkS_H hH hAG hS) ⟨rfl, hP.right (w1 := []), (hD.right (w1 := [])).weaken (fun _ _ _ h => hAG _ h)⟩) rfl rfl hl.1 rfl (lv_room (Nat.le_of_ble_eq_true rfl)) dL_studentHolds_95 ⟨by show _ ≤ 2100; omega, by show _ ≤ 12000; omega⟩) rfl hP hD hS hA (congrArg Value.long h9.1) h9.2 (fun d H locs hP hD hS => ?_)
        refine lv_aload_n hx hb dL_studentHolds_98 rfl (lv_at hl 2 rfl) ?_
        refine lv_iload_n hx hb dL_studentHolds_99 rfl (lv_at hl 3 rfl) ?_
        refine lv_iconst (v := nI 0) hx hb dL_studentHolds_100 (by decide) ?_
        refine lv_iload hx hb dL_studentHolds_101 (lv_at hl 5 rfl) ?_
        refine lv_bipush (v := nI 6) hx hb dL_studentHolds_103 (by decide) ?_
        refine hk_remN hx hb (by omega) (by omega) (by omega) dL_studentHolds_105 ?_
        have h9 := lwN (es := [(-9000000000000000001), (-9000000000000000002)]) (e_slips hI ha (grk_ok (n := 12) (by decide) (show i % 6 < 12 by omega) (by omega)) (sl_k hj (show i % 6 < 12 by omega))) (Nat.lt_of_le_of_lt (hcS (i % 6) (show i % 6 < 12 by omega)) (by omega))
        refine hk_LZ (wr := []) (v := .long (zL ((cS (gS g aa) (i % 6) : Nat) : Int))) (g' := g) (rest := [.long (zL ((cS (gS g aa) (i % 6) + cS (gS g aa) (i % 6 + 6) : Nat) : Int))]) (vx_runSW (As := [.ref (b 0), .int (nI aa), .int (nI 0), .int (nI (i % 6))]) (rest := [.long (zL ((cS (gS g aa) (i % 6) + cS (gS g aa) (i % 6 + 6) : Nat) : Int))]) ⟨hx, hb, hml, hown, hts⟩ (c_L_slips l hfl D ct sa G0 H.size b d g (nI aa) (nI 0) (nI (i % 6)) hI) (vx_cwSW 4 hts gL_studentHolds_L_slips rfl rfl rfl (by decide +kernel) ⟨Nat.le_of_ble_eq_true rfl, Nat.le_of_ble_eq_true rfl⟩) (hk_prxS hE (hkS_H hH hAG hS) ⟨rfl, hP.right (w1 := []), (hD.right (w1 := [])).weaken (fun _ _ _ h => hAG _ h)⟩) rfl rfl hl.1 rfl (lv_room (Nat.le_of_ble_eq_true rfl)) dL_studentHolds_106 ⟨by show _ ≤ 2100; omega, by show _ ≤ 12000; omega⟩) rfl hP hD hS hA (congrArg Value.long h9.1) h9.2 (fun d H locs hP hD hS => ?_)
        refine lv_aload_n hx hb dL_studentHolds_109 rfl (lv_at hl 2 rfl) ?_
        refine lv_iload_n hx hb dL_studentHolds_110 rfl (lv_at hl 3 rfl) ?_
        refine lv_iconst (v := nI 0) hx hb dL_studentHolds_111 (by decide) ?_
        refine lv_iload hx hb dL_studentHolds_112 (lv_at hl 5 rfl) ?_
        refine lv_bipush (v := nI 6) hx hb dL_studentHolds_114 (by decide) ?_
        refine hk_remN hx hb (by omega) (by omega) (by omega) dL_studentHolds_116 ?_
        refine lv_bipush (v := nI 6) hx hb dL_studentHolds_117 (by decide) ?_
        refine hk_addN hx hb dL_studentHolds_119 ?_
        have h9 := lwN (es := [(-9000000000000000001), (-9000000000000000002)]) (e_slips hI ha (grk_ok (n := 12) (by decide) (show i % 6 + 6 < 12 by omega) (by omega)) (sl_k hj (show i % 6 + 6 < 12 by omega))) (Nat.lt_of_le_of_lt (hcS ((i % 6) + 6) (show i % 6 + 6 < 12 by omega)) (by omega))
        refine hk_LZ (wr := []) (v := .long (zL ((cS (gS g aa) ((i % 6) + 6) : Nat) : Int))) (g' := g) (rest := [.long (zL ((cS (gS g aa) (i % 6) : Nat) : Int)), .long (zL ((cS (gS g aa) (i % 6) + cS (gS g aa) (i % 6 + 6) : Nat) : Int))]) (vx_runSW (As := [.ref (b 0), .int (nI aa), .int (nI 0), .int (nI ((i % 6) + 6))]) (rest := [.long (zL ((cS (gS g aa) (i % 6) : Nat) : Int)), .long (zL ((cS (gS g aa) (i % 6) + cS (gS g aa) (i % 6 + 6) : Nat) : Int))]) ⟨hx, hb, hml, hown, hts⟩ (c_L_slips l hfl D ct sa G0 H.size b d g (nI aa) (nI 0) (nI ((i % 6) + 6)) hI) (vx_cwSW 4 hts gL_studentHolds_L_slips rfl rfl rfl (by decide +kernel) ⟨Nat.le_of_ble_eq_true rfl, Nat.le_of_ble_eq_true rfl⟩) (hk_prxS hE (hkS_H hH hAG hS) ⟨rfl, hP.right (w1 := []), (hD.right (w1 := [])).weaken (fun _ _ _ h => hAG _ h)⟩) rfl rfl hl.1 rfl (lv_room (Nat.le_of_ble_eq_true rfl)) dL_studentHolds_120 ⟨by show _ ≤ 2100; omega, by show _ ≤ 12000; omega⟩) rfl hP hD hS hA (congrArg Value.long h9.1) h9.2 (fun d H locs hP hD hS => ?_)
        refine hk_laddz (x := ((cS (gS g aa) (i % 6) : Nat) : Int)) (y := ((cS (gS g aa) ((i % 6) + 6) : Nat) : Int)) hx hb dL_studentHolds_123 ?_
        refine zq_ne (x := ((cS (gS g aa) (i % 6) + cS (gS g aa) (i % 6 + 6) : Nat) : Int)) (y := (((cS (gS g aa) (i % 6) : Nat) : Int) + ((cS (gS g aa) ((i % 6) + 6) : Nat) : Int))) (tgt := 132) hx hb (by omega) dL_studentHolds_124 dL_studentHolds_125 (by decide) ?_
        refine lv_iconst (v := nI 1) hx hb dL_studentHolds_128 (by decide) ?_
        refine lv_goto (tgt := 133) hx hb dL_studentHolds_129 (by decide) ?_
        refine lv_istore_n (lv' := [(2, .int (nI 1)), (3, .long (zL ((sm (cS (gS g aa)) (i + 1) : Nat) : Int))), (6, .long (zL ((sK (gS g aa) i : Nat) : Int))), (0, .ref (b 0)), (1, .int (nI aa)), (5, .int (nI i))]) hx hb dL_studentHolds_133 rfl hl (by decide) rfl (fun ls hl => ?_)
        refine lv_iinc (v := nI (i + 1)) (lv' := [(5, .int (nI (i + 1))), (2, .int (nI 1)), (3, .long (zL ((sm (cS (gS g aa)) (i + 1) : Nat) : Int))), (6, .long (zL ((sK (gS g aa) i : Nat) : Int))), (0, .ref (b 0)), (1, .int (nI aa))]) hx hb dL_studentHolds_134 hl (k := 5) rfl (nI_add _ _) (by decide) rfl (fun ls hl => ?_)
        refine lv_goto (tgt := 25) hx hb dL_studentHolds_137 (by decide) ?_
        refine W.widen (k := 10 + 12 * (i + 1)) (n := 60 + 72 * (i + 1)) (by omega) (by omega) ?_
        exact ih_L d (i + 1) (by omega) (by omega) H locs hP hD hS ls (lv_sub hl [4, 5, 1, 2, 0] rfl)
  refine W.widen (k := 10 + 12 * 0) (n := 60 + 72 * 0) (by omega) (by omega) ?_
  exact L 13 d 0 (by omega) (by omega) H locs hP hD hS ls (lv_sub hl [3, 4, 2, 1, 0] rfl)
