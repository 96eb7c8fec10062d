theorem tol_h {v : Co} {i : Nat} (h : hz v i = true) : tol v i + 1 = tol v (i + 1) := by
  show cnt (hz v) i + 1 = cnt (hz v) (i + 1)
  rw [cnt, if_pos h]
theorem tol_n {v : Co} {i : Nat} (h : ¬ hz v i = true) : tol v i + 0 = tol v (i + 1) := by
  show cnt (hz v) i + 0 = cnt (hz v) (i + 1)
  rw [cnt, if_neg h]; rfl
theorem scZ (v : Co) (i : Nat) : ((sc v i : Nat) : Int) = 1000 * ((cz v i : Nat) : Int) / ((cX v i : Nat) : Int) := by
  unfold sc
  rw [Int.natCast_ediv, Int.natCast_mul]
  rfl
set_option maxHeartbeats 4000000 in
set_option maxRecDepth 100000 in
theorem c_L_contestHolds (l : Launch) (hfl : l.flags = flags0) (D : va_G) (ct : Nat → ClassId) (sa : Nat → Nat) (G0 : Nat) (sz : Nat) (b : Nat → Nat) (d : Ad) (g : Sg) (cn : Nat) (hI : Inv g) (hJ : Jg 1000 g) (hc : cn < gc g) : Met l yL_contestHolds wsL_contestHolds ({ frames := 9, cells := 300, slots := 1500, locals := 153 }) (hkPx D ct sa G0 [.ref (b 0), .int (nI cn), .int (nI (cW (gC g cn)))] (hkZP D ct b d g G0 sz)) (hkZQ D ct b (va_A (hkW ct b d g) sz) (.int 1) g) 300 1500 (va_A (hkW ct b d g) sz) := by
  refine Met.ofW (cc := cL_contestHolds) (maxL := 10) (ret := (some .boolean)) (by decide) rfl ?_
  intro p e s m args below meth c s₁ B hml hv
  obtain ⟨rfl, hE, hH, hp⟩ := hv
  have hx := B.exec
  have hb := B.bytes
  have hr := B.returns
  have hts := atoms_spec (ws := wsL_contestHolds) B.pre
  have hown : s.vm.findClass RL = some m.cls := findClass_of_methodNamed B.named
  have hlocks := B.notSynchronized
  obtain ⟨hsz, hP, hDG⟩ := hp
  subst hsz
  have hD := hDG.self (sz := s.heap.size)
  have hAG := hkA_G (sz := s.heap.size) hDG hH.1
  generalize hAe : va_A (hkW ct b d g) s.heap.size = A at hD hAG ⊢
  have hA : ∀ q : Nat, s.heap.size ≤ q → A q := fun q h => by rw [← hAe]; exact Or.inr h
  have hS : va_S A s.heap s.heap [] := va_S.rf
  have hv : Ico (gC g cn) := hI.2.2.2.2.2.2.2 cn
  have hw5 : cW (gC g cn) ≤ 5 := hv.1
  have hc6 : gc g ≤ 6 := hI.2.2.1
  have hl := lv_entry ([.ref (b 0), .int (nI cn), .int (nI (cW (gC g cn)))]) (n := 10) (Nat.le_of_ble_eq_true rfl)
  rw [lg_entry_eq]
  generalize (lg_sl ([.ref (b 0), .int (nI cn), .int (nI (cW (gC g cn)))]) ++ List.replicate (10 - (lg_sl ([.ref (b 0), .int (nI cn), .int (nI (cW (gC g cn)))])).length) Slot.unset).toArray = ls at hl ⊢
  have hl : lv_has ls 10 [(0, .ref (b 0)), (1, .int (nI cn)), (2, .int (nI (cW (gC g cn))))] := hl
  refine lv_aload_n hx hb dL_contestHolds_0 rfl (lv_at hl 0 rfl) ?_
  refine lv_iload_n hx hb dL_contestHolds_1 rfl (lv_at hl 1 rfl) ?_
  refine lv_iload_n hx hb dL_contestHolds_2 rfl (lv_at hl 2 rfl) ?_
  refine lv_iconst (v := nI 0) hx hb dL_contestHolds_3 (by decide) ?_
  have h9 := lw1 (es := [(-9000000000000000001), (-9000000000000000002)]) (n := (-9000000000000000001)) (e_ofout hI hc) (by decide) (by decide +kernel)
  refine hk_LZ (wr := []) (v := .long (zL (-9000000000000000001))) (g' := g) (rest := []) (vx_runSW (As := [.ref (b 0), .int (nI cn), .int (nI (cW (gC g cn))), .int (nI 0)]) (rest := []) ⟨hx, hb, hml, hown, hts⟩ (c_L_of l hfl D ct sa G0 s.heap.size b d g (nI cn) (nI (cW (gC g cn))) (nI 0) hI) (vx_cwSW 4 hts gL_contestHolds_L_of rfl rfl rfl (by decide +kernel) ⟨Nat.le_of_ble_eq_true rfl, Nat.le_of_ble_eq_true rfl⟩) (hk_prxS hE (hkS_H hH hAG hS) ⟨rfl, hP.right (w1 := []), (hD.right (w1 := [])).weaken (fun _ _ _ h => hAG _ h)⟩) rfl rfl hl.1 rfl (lv_room (Nat.le_of_ble_eq_true rfl)) dL_contestHolds_4 ⟨by show _ ≤ 300; omega, by show _ ≤ 1500; omega⟩) rfl hP hD hS hA (congrArg Value.long h9.1) h9.2 (fun d H locs hP hD hS => ?_)
  refine hk_ldcz (v := (-9000000000000000001)) (n := (-9000000000000000001)) hx hb (by decide +kernel) hown (hts (.constantLong RL 25 (-9000000000000000001)) (by decide +kernel)) dL_contestHolds_7 ?_
  refine zq_ne (x := (-9000000000000000001)) (y := (-9000000000000000001)) (tgt := 18) hx hb (rfl) dL_contestHolds_10 dL_contestHolds_11 (by decide) ?_
  refine lv_iconst (v := nI 1) hx hb dL_contestHolds_14 (by decide) ?_
  refine lv_goto (tgt := 19) hx hb dL_contestHolds_15 (by decide) ?_
  refine lv_istore_n (lv' := [(3, .int (nI 1)), (0, .ref (b 0)), (1, .int (nI cn)), (2, .int (nI (cW (gC g cn))))]) hx hb dL_contestHolds_19 rfl hl (by decide) rfl (fun ls hl => ?_)
  refine lv_iconst (v := nI 0) hx hb dL_contestHolds_20 (by decide) ?_
  refine lv_istore (lv' := [(4, .int (nI 0)), (3, .int (nI 1)), (0, .ref (b 0)), (1, .int (nI cn)), (2, .int (nI (cW (gC g cn))))]) hx hb dL_contestHolds_21 hl (by decide) rfl (fun ls hl => ?_)
  refine lv_iconst (v := nI 0) hx hb dL_contestHolds_23 (by decide) ?_
  refine lv_istore (lv' := [(5, .int (nI 0)), (4, .int (nI 0)), (3, .int (nI 1)), (0, .ref (b 0)), (1, .int (nI cn)), (2, .int (nI (cW (gC g cn))))]) hx hb dL_contestHolds_24 hl (by decide) rfl (fun ls hl => ?_)
  have L : ∀ (k : Nat) (d : Ad) (i : Nat), 7 ≤ i + k → i ≤ cW (gC g cn) → ∀ (H : Heap) (locs : List Loc), va_P D vwCl (hkW ct b d g) H → va_D A (hkW ct b d g) → va_S A s.heap H locs → ∀ (ls : Array Slot), lv_has ls 10 [(0, .ref (b 0)), (1, .int (nI cn)), (2, .int (nI (cW (gC g cn)))), (3, .int (nI 1)), (4, .int (nI (tol (gC g cn) i))), (5, .int (nI i))] → W p l e (headSpec wsL_contestHolds ({ frames := 9, cells := 300, slots := 1500, locals := 153 })).room s m ([.ref (b 0), .int (nI cn), .int (nI (cW (gC g cn)))] : List Value).toArray below meth c H locs (10 + 20 * i) (60 + 120 * i) (MQ below (hkZQ D ct b A (.int 1) g) ([.ref (b 0), .int (nI cn), .int (nI (cW (gC g cn)))] : List Value).toArray s 300 1500 A) (F0 m 26 ls []) := by
    intro k
    induction k with
    | zero => intro d i hk; intros; exact absurd hk (by omega)
    | succ k ih_L =>
      intro d i hk hi H locs hP hD hS ls hl
      refine lv_iload hx hb dL_contestHolds_26 (lv_at hl 5 rfl) ?_
      refine lv_iload_n hx hb dL_contestHolds_28 rfl (lv_at hl 2 rfl) ?_
      refine hk_geN (tgt := 188) hx hb (by omega) (by omega) dL_contestHolds_29 (by decide) (fun hcc => ?_) (fun hcc => ?_)
      · obtain rfl : i = cW (gC g cn) := by omega
        have htl : tol (gC g cn) (cW (gC g cn)) ≤ cW (gC g cn) := cnt_le _ _
        refine lv_iconst (v := nI 0) hx hb dL_contestHolds_188 (by decide) ?_
        refine lv_istore (lv' := [(5, .int (nI 0)), (0, .ref (b 0)), (1, .int (nI cn)), (2, .int (nI (cW (gC g cn)))), (3, .int (nI 1)), (4, .int (nI (tol (gC g cn) (cW (gC g cn)))))]) hx hb dL_contestHolds_189 hl (by decide) rfl (fun ls hl => ?_)
        have L2 : ∀ (k : Nat) (d : Ad) (r : Nat), 7 ≤ r + k → r ≤ 5 → ∀ (H : Heap) (locs : List Loc), va_P D vwCl (hkW ct b d g) H → va_D A (hkW ct b d g) → va_S A s.heap H locs → ∀ (ls : Array Slot), lv_has ls 10 [(0, .ref (b 0)), (1, .int (nI cn)), (2, .int (nI (cW (gC g cn)))), (3, .int (nI 1)), (4, .int (nI (tol (gC g cn) (cW (gC g cn))))), (5, .int (nI r))] → W p l e (headSpec wsL_contestHolds ({ frames := 9, cells := 300, slots := 1500, locals := 153 })).room s m ([.ref (b 0), .int (nI cn), .int (nI (cW (gC g cn)))] : List Value).toArray below meth c H locs (150 + 14 * r) (800 + 84 * r) (MQ below (hkZQ D ct b A (.int 1) g) ([.ref (b 0), .int (nI cn), .int (nI (cW (gC g cn)))] : List Value).toArray s 300 1500 A) (F0 m 191 ls []) := by
          intro k
          induction k with
          | zero => intro d r hk; intros; exact absurd hk (by omega)
          | succ k ih_L2 =>
            intro d r hk hr5 H locs hP hD hS ls hl
            refine lv_iload hx hb dL_contestHolds_191 (lv_at hl 5 rfl) ?_
            refine lv_iconst (v := nI 1) hx hb dL_contestHolds_193 (by decide) ?_
            refine hk_addN hx hb dL_contestHolds_194 ?_
            refine lv_iload hx hb dL_contestHolds_195 (lv_at hl 4 rfl) ?_
            refine hk_geN (tgt := 286) hx hb (by omega) (by omega) dL_contestHolds_197 (by decide) (fun hcc => ?_) (fun hcc => ?_)
            · refine lv_iload_n hx hb dL_contestHolds_286 rfl (lv_at hl 3 rfl) ?_
              refine hk_eq0N (tgt := 308) hx hb (by omega) dL_contestHolds_287 (by decide) (fun hq => absurd hq (by decide)) (fun _ => ?_)
              refine lv_aload_n hx hb dL_contestHolds_290 rfl (lv_at hl 0 rfl) ?_
              refine lv_iload_n hx hb dL_contestHolds_291 rfl (lv_at hl 1 rfl) ?_
              refine lv_iload hx hb dL_contestHolds_292 (lv_at hl 4 rfl) ?_
              have h9 := lwT (es := [(-9000000000000000001)]) (e_rankedN hI hc) (by decide : (-1 : Int32).toInt = -1)
              refine hk_LZ (wr := []) (v := .long (zL (-1))) (g' := g) (rest := []) (vx_runSW (As := [.ref (b 0), .int (nI cn), .int (nI (tol (gC g cn) (cW (gC g cn))))]) (rest := []) ⟨hx, hb, hml, hown, hts⟩ (c_L_ranked l hfl D ct sa G0 H.size b d g (nI cn) (nI (tol (gC g cn) (cW (gC g cn)))) hI) (vx_cwSW 3 hts gL_contestHolds_L_ranked rfl rfl rfl (by decide +kernel) ⟨Nat.le_of_ble_eq_true rfl, Nat.le_of_ble_eq_true rfl⟩) (hk_prxS hE (hkS_H hH hAG hS) ⟨rfl, hP.right (w1 := []), (hD.right (w1 := [])).weaken (fun _ _ _ h => hAG _ h)⟩) rfl rfl hl.1 rfl (lv_room (Nat.le_of_ble_eq_true rfl)) dL_contestHolds_294 ⟨by show _ ≤ 300; omega, by show _ ≤ 1500; omega⟩) rfl hP hD hS hA (congrArg Value.long h9.1) h9.2 (fun d H locs hP hD hS => ?_)
              refine hk_ldcz (v := (-1)) (n := (-1)) hx hb (by decide +kernel) hown (hts (.constantLong RL 127 (-1)) (by decide +kernel)) dL_contestHolds_297 ?_
              refine zq_ne (x := (-1)) (y := (-1)) (tgt := 308) hx hb (rfl) dL_contestHolds_300 dL_contestHolds_301 (by decide) ?_
              refine lv_iconst (v := nI 1) hx hb dL_contestHolds_304 (by decide) ?_
              refine lv_goto (tgt := 309) hx hb dL_contestHolds_305 (by decide) ?_
              refine W.widen (k := 300) (n := 1500) (by omega) (by omega) ?_
              exact W.zret (v := nI 1) hx hb hr rfl (fun t ht hW => ⟨rfl, ⟨d, by rw [ht]; exact hP, hD⟩, hS.F ht⟩) hS.2.2 dL_contestHolds_309
            · refine lv_iload_n hx hb dL_contestHolds_200 rfl (lv_at hl 3 rfl) ?_
              refine hk_eq0N (tgt := 286) hx hb (by omega) dL_contestHolds_201 (by decide) (fun hq => absurd hq (by decide)) (fun _ => ?_)
              obtain ⟨j1, w1, h1, k1⟩ := rk_holder hv (r := r) (by omega)
              obtain ⟨j2, w2, h2, k2⟩ := rk_holder hv (r := r + 1) (by omega)
              have o := rk_ord hv (hJ.2 cn) w1 w2 h1 h2 (by rw [k1, k2]; omega)
              have s1 := sc_le hv (hJ.2 cn) w1
              have s2 := sc_le hv (hJ.2 cn) w2
              refine lv_aload_n hx hb dL_contestHolds_204 rfl (lv_at hl 0 rfl) ?_
              refine lv_iload_n hx hb dL_contestHolds_205 rfl (lv_at hl 1 rfl) ?_
              refine lv_aload_n hx hb dL_contestHolds_206 rfl (lv_at hl 0 rfl) ?_
              refine lv_iload_n hx hb dL_contestHolds_207 rfl (lv_at hl 1 rfl) ?_
              refine lv_iload hx hb dL_contestHolds_208 (lv_at hl 5 rfl) ?_
              have h9 := lwN (es := [(-9000000000000000001)]) (e_ranked hI hc w1 h1 k1) (by omega)
              refine hk_LZ (wr := []) (v := .long (zL ((j1 : Nat) : Int))) (g' := g) (rest := [.int (nI cn), .ref (b 0)]) (vx_runSW (As := [.ref (b 0), .int (nI cn), .int (nI r)]) (rest := [.int (nI cn), .ref (b 0)]) ⟨hx, hb, hml, hown, hts⟩ (c_L_ranked l hfl D ct sa G0 H.size b d g (nI cn) (nI r) hI) (vx_cwSW 3 hts gL_contestHolds_L_ranked rfl rfl rfl (by decide +kernel) ⟨Nat.le_of_ble_eq_true rfl, Nat.le_of_ble_eq_true rfl⟩) (hk_prxS hE (hkS_H hH hAG hS) ⟨rfl, hP.right (w1 := []), (hD.right (w1 := [])).weaken (fun _ _ _ h => hAG _ h)⟩) rfl rfl hl.1 rfl (lv_room (Nat.le_of_ble_eq_true rfl)) dL_contestHolds_210 ⟨by show _ ≤ 300; omega, by show _ ≤ 1500; omega⟩) rfl hP hD hS hA (congrArg Value.long h9.1) h9.2 (fun d H locs hP hD hS => ?_)
              refine hk_l2iz (n := j1) hx hb dL_contestHolds_213 ?_
              refine lv_iconst (v := nI 2) hx hb dL_contestHolds_214 (by decide) ?_
              have h9 := lwN (es := [(-9000000000000000001), (-9000000000000000002)]) (e_of2 hI hJ.2 hc w1 h1) (by omega)
              refine hk_LZ (wr := []) (v := .long (zL ((sc (gC g cn) j1 : Nat) : Int))) (g' := g) (rest := []) (vx_runSW (As := [.ref (b 0), .int (nI cn), .int (nI j1), .int (nI 2)]) (rest := []) ⟨hx, hb, hml, hown, hts⟩ (c_L_of l hfl D ct sa G0 H.size b d g (nI cn) (nI j1) (nI 2) hI) (vx_cwSW 4 hts gL_contestHolds_L_of rfl rfl rfl (by decide +kernel) ⟨Nat.le_of_ble_eq_true rfl, Nat.le_of_ble_eq_true rfl⟩) (hk_prxS hE (hkS_H hH hAG hS) ⟨rfl, hP.right (w1 := []), (hD.right (w1 := [])).weaken (fun _ _ _ h => hAG _ h)⟩) rfl rfl hl.1 rfl (lv_room (Nat.le_of_ble_eq_true rfl)) dL_contestHolds_215 ⟨by show _ ≤ 300; omega, by show _ ≤ 1500; omega⟩) rfl hP hD hS hA (congrArg Value.long h9.1) h9.2 (fun d H locs hP hD hS => ?_)
              refine lv_lstore (lv' := [(6, .long (zL ((sc (gC g cn) j1 : Nat) : Int))), (0, .ref (b 0)), (1, .int (nI cn)), (2, .int (nI (cW (gC g cn)))), (3, .int (nI 1)), (4, .int (nI (tol (gC g cn) (cW (gC g cn))))), (5, .int (nI r))]) hx hb dL_contestHolds_218 hl (by decide) rfl (fun ls hl => ?_)
              refine lv_aload_n hx hb dL_contestHolds_220 rfl (lv_at hl 1 rfl) ?_
              refine lv_iload_n hx hb dL_contestHolds_221 rfl (lv_at hl 2 rfl) ?_
              refine lv_aload_n hx hb dL_contestHolds_222 rfl (lv_at hl 1 rfl) ?_
              refine lv_iload_n hx hb dL_contestHolds_223 rfl (lv_at hl 2 rfl) ?_
              refine lv_iload hx hb dL_contestHolds_224 (lv_at hl 6 rfl) ?_
              refine lv_iconst (v := nI 1) hx hb dL_contestHolds_226 (by decide) ?_
              refine hk_addN hx hb dL_contestHolds_227 ?_
              have h9 := lwN (es := [(-9000000000000000001)]) (e_ranked hI hc w2 h2 k2) (by omega)
              refine hk_LZ (wr := []) (v := .long (zL ((j2 : Nat) : Int))) (g' := g) (rest := [.int (nI cn), .ref (b 0)]) (vx_runSW (As := [.ref (b 0), .int (nI cn), .int (nI (r + 1))]) (rest := [.int (nI cn), .ref (b 0)]) ⟨hx, hb, hml, hown, hts⟩ (c_L_ranked l hfl D ct sa G0 H.size b d g (nI cn) (nI (r + 1)) hI) (vx_cwSW 3 hts gL_contestHolds_L_ranked rfl rfl rfl (by decide +kernel) ⟨Nat.le_of_ble_eq_true rfl, Nat.le_of_ble_eq_true rfl⟩) (hk_prxS hE (hkS_H hH hAG hS) ⟨rfl, hP.right (w1 := []), (hD.right (w1 := [])).weaken (fun _ _ _ h => hAG _ h)⟩) rfl rfl hl.1 rfl (lv_room (Nat.le_of_ble_eq_true rfl)) dL_contestHolds_228 ⟨by show _ ≤ 300; omega, by show _ ≤ 1500; omega⟩) rfl hP hD hS hA (congrArg Value.long h9.1) h9.2 (fun d H locs hP hD hS => ?_)
              refine hk_l2iz (n := j2) hx hb dL_contestHolds_231 ?_
              refine lv_iconst (v := nI 2) hx hb dL_contestHolds_232 (by decide) ?_
              have h9 := lwN (es := [(-9000000000000000001), (-9000000000000000002)]) (e_of2 hI hJ.2 hc w2 h2) (by omega)
              refine hk_LZ (wr := []) (v := .long (zL ((sc (gC g cn) j2 : Nat) : Int))) (g' := g) (rest := []) (vx_runSW (As := [.ref (b 0), .int (nI cn), .int (nI j2), .int (nI 2)]) (rest := []) ⟨hx, hb, hml, hown, hts⟩ (c_L_of l hfl D ct sa G0 H.size b d g (nI cn) (nI j2) (nI 2) hI) (vx_cwSW 4 hts gL_contestHolds_L_of rfl rfl rfl (by decide +kernel) ⟨Nat.le_of_ble_eq_true rfl, Nat.le_of_ble_eq_true rfl⟩) (hk_prxS hE (hkS_H hH hAG hS) ⟨rfl, hP.right (w1 := []), (hD.right (w1 := [])).weaken (fun _ _ _ h => hAG _ h)⟩) rfl rfl hl.1 rfl (lv_room (Nat.le_of_ble_eq_true rfl)) dL_contestHolds_233 ⟨by show _ ≤ 300; omega, by show _ ≤ 1500; omega⟩) rfl hP hD hS hA (congrArg Value.long h9.1) h9.2 (fun d H locs hP hD hS => ?_)
              refine lv_lstore (lv' := [(8, .long (zL ((sc (gC g cn) j2 : Nat) : Int))), (6, .long (zL ((sc (gC g cn) j1 : Nat) : Int))), (0, .ref (b 0)), (1, .int (nI cn)), (2, .int (nI (cW (gC g cn)))), (3, .int (nI 1)), (4, .int (nI (tol (gC g cn) (cW (gC g cn))))), (5, .int (nI r))]) hx hb dL_contestHolds_236 hl (by decide) rfl (fun ls hl => ?_)
              refine lv_lload hx hb dL_contestHolds_238 (lv_at hl 1 rfl) ?_
              refine lv_lload hx hb dL_contestHolds_240 (lv_at hl 0 rfl) ?_
              refine zc_lt (x := ((sc (gC g cn) j1 : Nat) : Int)) (y := ((sc (gC g cn) j2 : Nat) : Int)) (tgt := 274) hx hb (by omega) (by omega) (by omega) (by omega) dL_contestHolds_242 dL_contestHolds_243 (by decide) (fun hq => ?_) (fun hq => ?_)
              · refine lv_iconst (v := nI 1) hx hb dL_contestHolds_274 (by decide) ?_
                refine lv_goto (tgt := 279) hx hb dL_contestHolds_275 (by decide) ?_
                refine lv_istore_n (lv' := [(3, .int (nI 1)), (8, .long (zL ((sc (gC g cn) j2 : Nat) : Int))), (6, .long (zL ((sc (gC g cn) j1 : Nat) : Int))), (0, .ref (b 0)), (1, .int (nI cn)), (2, .int (nI (cW (gC g cn)))), (4, .int (nI (tol (gC g cn) (cW (gC g cn))))), (5, .int (nI r))]) hx hb dL_contestHolds_279 rfl hl (by decide) rfl (fun ls hl => ?_)
                refine lv_iinc (v := nI (r + 1)) (lv' := [(5, .int (nI (r + 1))), (3, .int (nI 1)), (8, .long (zL ((sc (gC g cn) j2 : Nat) : Int))), (6, .long (zL ((sc (gC g cn) j1 : Nat) : Int))), (0, .ref (b 0)), (1, .int (nI cn)), (2, .int (nI (cW (gC g cn)))), (4, .int (nI (tol (gC g cn) (cW (gC g cn)))))]) hx hb dL_contestHolds_280 hl (k := 7) rfl (nI_add _ _) (by decide) rfl (fun ls hl => ?_)
                refine lv_goto (tgt := 191) hx hb dL_contestHolds_283 (by decide) ?_
                refine W.widen (k := 150 + 14 * (r + 1)) (n := 800 + 84 * (r + 1)) (by omega) (by omega) ?_
                exact ih_L2 d (r + 1) (by omega) (by omega) H locs hP hD hS ls (lv_sub hl [4, 5, 6, 1, 7, 0] rfl)
              · refine lv_lload hx hb dL_contestHolds_246 (lv_at hl 1 rfl) ?_
                refine lv_lload hx hb dL_contestHolds_248 (lv_at hl 0 rfl) ?_
                refine zq_ne (x := ((sc (gC g cn) j1 : Nat) : Int)) (y := ((sc (gC g cn) j2 : Nat) : Int)) (tgt := 278) hx hb (by omega) dL_contestHolds_250 dL_contestHolds_251 (by decide) ?_
                refine lv_aload_n hx hb dL_contestHolds_254 rfl (lv_at hl 2 rfl) ?_
                refine lv_iload_n hx hb dL_contestHolds_255 rfl (lv_at hl 3 rfl) ?_
                refine lv_iload hx hb dL_contestHolds_256 (lv_at hl 7 rfl) ?_
                have h9 := lwN (es := [(-9000000000000000001)]) (e_ranked hI hc w1 h1 k1) (by omega)
                refine hk_LZ (wr := []) (v := .long (zL ((j1 : Nat) : Int))) (g' := g) (rest := []) (vx_runSW (As := [.ref (b 0), .int (nI cn), .int (nI r)]) (rest := []) ⟨hx, hb, hml, hown, hts⟩ (c_L_ranked l hfl D ct sa G0 H.size b d g (nI cn) (nI r) hI) (vx_cwSW 3 hts gL_contestHolds_L_ranked rfl rfl rfl (by decide +kernel) ⟨Nat.le_of_ble_eq_true rfl, Nat.le_of_ble_eq_true rfl⟩) (hk_prxS hE (hkS_H hH hAG hS) ⟨rfl, hP.right (w1 := []), (hD.right (w1 := [])).weaken (fun _ _ _ h => hAG _ h)⟩) rfl rfl hl.1 rfl (lv_room (Nat.le_of_ble_eq_true rfl)) dL_contestHolds_258 ⟨by show _ ≤ 300; omega, by show _ ≤ 1500; omega⟩) rfl hP hD hS hA (congrArg Value.long h9.1) h9.2 (fun d H locs hP hD hS => ?_)
                refine lv_aload_n hx hb dL_contestHolds_261 rfl (lv_at hl 2 rfl) ?_
                refine lv_iload_n hx hb dL_contestHolds_262 rfl (lv_at hl 3 rfl) ?_
                refine lv_iload hx hb dL_contestHolds_263 (lv_at hl 7 rfl) ?_
                refine lv_iconst (v := nI 1) hx hb dL_contestHolds_265 (by decide) ?_
                refine hk_addN hx hb dL_contestHolds_266 ?_
                have h9 := lwN (es := [(-9000000000000000001)]) (e_ranked hI hc w2 h2 k2) (by omega)
                refine hk_LZ (wr := []) (v := .long (zL ((j2 : Nat) : Int))) (g' := g) (rest := [.long (zL ((j1 : Nat) : Int))]) (vx_runSW (As := [.ref (b 0), .int (nI cn), .int (nI (r + 1))]) (rest := [.long (zL ((j1 : Nat) : Int))]) ⟨hx, hb, hml, hown, hts⟩ (c_L_ranked l hfl D ct sa G0 H.size b d g (nI cn) (nI (r + 1)) hI) (vx_cwSW 3 hts gL_contestHolds_L_ranked rfl rfl rfl (by decide +kernel) ⟨Nat.le_of_ble_eq_true rfl, Nat.le_of_ble_eq_true rfl⟩) (hk_prxS hE (hkS_H hH hAG hS) ⟨rfl, hP.right (w1 := []), (hD.right (w1 := [])).weaken (fun _ _ _ h => hAG _ h)⟩) rfl rfl hl.1 rfl (lv_room (Nat.le_of_ble_eq_true rfl)) dL_contestHolds_267 ⟨by show _ ≤ 300; omega, by show _ ≤ 1500; omega⟩) rfl hP hD hS hA (congrArg Value.long h9.1) h9.2 (fun d H locs hP hD hS => ?_)
                refine zc_ge (x := ((j1 : Nat) : Int)) (y := ((j2 : Nat) : Int)) (tgt := 278) hx hb (by omega) (by omega) (by omega) (by omega) dL_contestHolds_270 dL_contestHolds_271 (by decide) (fun hq => absurd hq (by omega)) (fun _ => ?_)
                refine lv_iconst (v := nI 1) hx hb dL_contestHolds_274 (by decide) ?_
                refine lv_goto (tgt := 279) hx hb dL_contestHolds_275 (by decide) ?_
                refine lv_istore_n (lv' := [(3, .int (nI 1)), (8, .long (zL ((sc (gC g cn) j2 : Nat) : Int))), (6, .long (zL ((sc (gC g cn) j1 : Nat) : Int))), (0, .ref (b 0)), (1, .int (nI cn)), (2, .int (nI (cW (gC g cn)))), (4, .int (nI (tol (gC g cn) (cW (gC g cn))))), (5, .int (nI r))]) hx hb dL_contestHolds_279 rfl hl (by decide) rfl (fun ls hl => ?_)
                refine lv_iinc (v := nI (r + 1)) (lv' := [(5, .int (nI (r + 1))), (3, .int (nI 1)), (8, .long (zL ((sc (gC g cn) j2 : Nat) : Int))), (6, .long (zL ((sc (gC g cn) j1 : Nat) : Int))), (0, .ref (b 0)), (1, .int (nI cn)), (2, .int (nI (cW (gC g cn)))), (4, .int (nI (tol (gC g cn) (cW (gC g cn)))))]) hx hb dL_contestHolds_280 hl (k := 7) rfl (nI_add _ _) (by decide) rfl (fun ls hl => ?_)
                refine lv_goto (tgt := 191) hx hb dL_contestHolds_283 (by decide) ?_
                refine W.widen (k := 150 + 14 * (r + 1)) (n := 800 + 84 * (r + 1)) (by omega) (by omega) ?_
                exact ih_L2 d (r + 1) (by omega) (by omega) H locs hP hD hS ls (lv_sub hl [4, 5, 6, 1, 7, 0] rfl)
        refine W.widen (k := 150 + 14 * 0) (n := 800 + 84 * 0) (by omega) (by omega) ?_
        exact L2 7 d 0 (by omega) (by omega) H locs hP hD hS ls (lv_sub hl [1, 2, 3, 4, 5, 0] rfl)
      · refine lv_iload_n hx hb dL_contestHolds_32 rfl (lv_at hl 3 rfl) ?_
        refine hk_eq0N (tgt := 188) hx hb (by omega) dL_contestHolds_33 (by decide) (fun hq => absurd hq (by decide)) (fun _ => ?_)
        obtain ⟨x1, x2⟩ := hv.2.1 i hcc
        have hcz : cz (gC g cn) i ≤ 99999 := hJ.2 cn i
        have htl : tol (gC g cn) i ≤ i := cnt_le _ _
        have hsl := sc_le hv (hJ.2 cn) hcc
        have hrk : rkC (gC g cn) i ≤ 5 := rk_le _ _ _ _
        refine lv_aload_n hx hb dL_contestHolds_36 rfl (lv_at hl 0 rfl) ?_
        refine lv_iload_n hx hb dL_contestHolds_37 rfl (lv_at hl 1 rfl) ?_
        refine lv_iload hx hb dL_contestHolds_38 (lv_at hl 5 rfl) ?_
        refine lv_iconst (v := nI 1) hx hb dL_contestHolds_40 (by decide) ?_
        by_cases hh : 0 < cz (gC g cn) i
        · have h9 := lwN (es := [(-9000000000000000001), (-9000000000000000002)]) (e_of1 hI hc hcc hh) (by omega)
          refine hk_LZ (wr := []) (v := .long (zL ((cz (gC g cn) i : Nat) : Int))) (g' := g) (rest := []) (vx_runSW (As := [.ref (b 0), .int (nI cn), .int (nI i), .int (nI 1)]) (rest := []) ⟨hx, hb, hml, hown, hts⟩ (c_L_of l hfl D ct sa G0 H.size b d g (nI cn) (nI i) (nI 1) hI) (vx_cwSW 4 hts gL_contestHolds_L_of rfl rfl rfl (by decide +kernel) ⟨Nat.le_of_ble_eq_true rfl, Nat.le_of_ble_eq_true rfl⟩) (hk_prxS hE (hkS_H hH hAG hS) ⟨rfl, hP.right (w1 := []), (hD.right (w1 := [])).weaken (fun _ _ _ h => hAG _ h)⟩) rfl rfl hl.1 rfl (lv_room (Nat.le_of_ble_eq_true rfl)) dL_contestHolds_41 ⟨by show _ ≤ 300; omega, by show _ ≤ 1500; omega⟩) rfl hP hD hS hA (congrArg Value.long h9.1) h9.2 (fun d H locs hP hD hS => ?_)
          refine lv_lconst (v := zL 0) hx hb dL_contestHolds_44 rfl ?_
          refine zc_le (x := ((cz (gC g cn) i : Nat) : Int)) (y := 0) (tgt := 53) hx hb (by omega) (by omega) (by omega) (by omega) dL_contestHolds_45 dL_contestHolds_46 (by decide) (fun hq => absurd hq (by omega)) (fun _ => ?_)
          refine lv_iconst (v := nI 1) hx hb dL_contestHolds_49 (by decide) ?_
          refine lv_goto (tgt := 54) hx hb dL_contestHolds_50 (by decide) ?_
          refine lv_istore (lv' := [(6, .int (nI 1)), (0, .ref (b 0)), (1, .int (nI cn)), (2, .int (nI (cW (gC g cn)))), (3, .int (nI 1)), (4, .int (nI (tol (gC g cn) i))), (5, .int (nI i))]) hx hb dL_contestHolds_54 hl (by decide) rfl (fun ls hl => ?_)
          refine lv_iload hx hb dL_contestHolds_56 (lv_at hl 5 rfl) ?_
          refine lv_iload hx hb dL_contestHolds_58 (lv_at hl 0 rfl) ?_
          refine hk_eq0N (tgt := 67) hx hb (by omega) dL_contestHolds_60 (by decide) (fun hq => absurd hq (by decide)) (fun _ => ?_)
          refine lv_iconst (v := nI 1) hx hb dL_contestHolds_63 (by decide) ?_
          refine lv_goto (tgt := 68) hx hb dL_contestHolds_64 (by decide) ?_
          refine hk_addN hx hb dL_contestHolds_68 ?_
          refine hk_top (y := nI (tol (gC g cn) (i + 1))) (congrArg nI (tol_h ((hz_iff hv i).mpr hh))) ?_
          refine lv_istore (lv' := [(4, .int (nI (tol (gC g cn) (i + 1)))), (6, .int (nI 1)), (0, .ref (b 0)), (1, .int (nI cn)), (2, .int (nI (cW (gC g cn)))), (3, .int (nI 1)), (5, .int (nI i))]) hx hb dL_contestHolds_69 hl (by decide) rfl (fun ls hl => ?_)
          refine lv_aload_n hx hb dL_contestHolds_71 rfl (lv_at hl 2 rfl) ?_
          refine lv_iload_n hx hb dL_contestHolds_72 rfl (lv_at hl 3 rfl) ?_
          refine lv_iload hx hb dL_contestHolds_73 (lv_at hl 6 rfl) ?_
          refine lv_iconst (v := nI 3) hx hb dL_contestHolds_75 (by decide) ?_
          have h9 := lwN (es := [(-9000000000000000001), (-9000000000000000002)]) (e_of3 hI hc hcc hh) (by omega)
          refine hk_LZ (wr := []) (v := .long (zL ((rkC (gC g cn) i : Nat) : Int))) (g' := g) (rest := []) (vx_runSW (As := [.ref (b 0), .int (nI cn), .int (nI i), .int (nI 3)]) (rest := []) ⟨hx, hb, hml, hown, hts⟩ (c_L_of l hfl D ct sa G0 H.size b d g (nI cn) (nI i) (nI 3) hI) (vx_cwSW 4 hts gL_contestHolds_L_of rfl rfl rfl (by decide +kernel) ⟨Nat.le_of_ble_eq_true rfl, Nat.le_of_ble_eq_true rfl⟩) (hk_prxS hE (hkS_H hH hAG hS) ⟨rfl, hP.right (w1 := []), (hD.right (w1 := [])).weaken (fun _ _ _ h => hAG _ h)⟩) rfl rfl hl.1 rfl (lv_room (Nat.le_of_ble_eq_true rfl)) dL_contestHolds_76 ⟨by show _ ≤ 300; omega, by show _ ≤ 1500; omega⟩) rfl hP hD hS hA (congrArg Value.long h9.1) h9.2 (fun d H locs hP hD hS => ?_)
          refine lv_lstore (lv' := [(7, .long (zL ((rkC (gC g cn) i : Nat) : Int))), (4, .int (nI (tol (gC g cn) (i + 1)))), (6, .int (nI 1)), (0, .ref (b 0)), (1, .int (nI cn)), (2, .int (nI (cW (gC g cn)))), (3, .int (nI 1)), (5, .int (nI i))]) hx hb dL_contestHolds_79 hl (by decide) rfl (fun ls hl => ?_)
          refine lv_aload_n hx hb dL_contestHolds_81 rfl (lv_at hl 3 rfl) ?_
          refine lv_iload_n hx hb dL_contestHolds_82 rfl (lv_at hl 4 rfl) ?_
          refine lv_iload hx hb dL_contestHolds_83 (lv_at hl 7 rfl) ?_
          refine lv_iconst (v := nI 0) hx hb dL_contestHolds_85 (by decide) ?_
          have h9 := lwN (es := [(-9000000000000000001), (-9000000000000000002)]) (e_of0 hI hc hcc) (by omega)
          refine hk_LZ (wr := []) (v := .long (zL ((cX (gC g cn) i : Nat) : Int))) (g' := g) (rest := []) (vx_runSW (As := [.ref (b 0), .int (nI cn), .int (nI i), .int (nI 0)]) (rest := []) ⟨hx, hb, hml, hown, hts⟩ (c_L_of l hfl D ct sa G0 H.size b d g (nI cn) (nI i) (nI 0) hI) (vx_cwSW 4 hts gL_contestHolds_L_of rfl rfl rfl (by decide +kernel) ⟨Nat.le_of_ble_eq_true rfl, Nat.le_of_ble_eq_true rfl⟩) (hk_prxS hE (hkS_H hH hAG hS) ⟨rfl, hP.right (w1 := []), (hD.right (w1 := [])).weaken (fun _ _ _ h => hAG _ h)⟩) rfl rfl hl.1 rfl (lv_room (Nat.le_of_ble_eq_true rfl)) dL_contestHolds_86 ⟨by show _ ≤ 300; omega, by show _ ≤ 1500; omega⟩) rfl hP hD hS hA (congrArg Value.long h9.1) h9.2 (fun d H locs hP hD hS => ?_)
          refine hk_ldcz (v := 2) (n := 2) hx hb (by decide +kernel) hown (hts (.constantLong RL 121 2) (by decide +kernel)) dL_contestHolds_89 ?_
          refine zc_lt (x := ((cX (gC g cn) i : Nat) : Int)) (y := 2) (tgt := 180) hx hb (by omega) (by omega) (by omega) (by omega) dL_contestHolds_92 dL_contestHolds_93 (by decide) (fun hq => absurd hq (by omega)) (fun _ => ?_)
          refine lv_iload hx hb dL_contestHolds_96 (lv_at hl 2 rfl) ?_
          refine hk_eq0N (tgt := 152) hx hb (by omega) dL_contestHolds_98 (by decide) (fun hq => absurd hq (by decide)) (fun _ => ?_)
          refine lv_aload_n hx hb dL_contestHolds_101 rfl (lv_at hl 3 rfl) ?_
          refine lv_iload_n hx hb dL_contestHolds_102 rfl (lv_at hl 4 rfl) ?_
          refine lv_iload hx hb dL_contestHolds_103 (lv_at hl 7 rfl) ?_
          refine lv_iconst (v := nI 2) hx hb dL_contestHolds_105 (by decide) ?_
          have h9 := lwN (es := [(-9000000000000000001), (-9000000000000000002)]) (e_of2 hI hJ.2 hc hcc hh) (by omega)
          refine hk_LZ (wr := []) (v := .long (zL ((sc (gC g cn) i : Nat) : Int))) (g' := g) (rest := []) (vx_runSW (As := [.ref (b 0), .int (nI cn), .int (nI i), .int (nI 2)]) (rest := []) ⟨hx, hb, hml, hown, hts⟩ (c_L_of l hfl D ct sa G0 H.size b d g (nI cn) (nI i) (nI 2) hI) (vx_cwSW 4 hts gL_contestHolds_L_of rfl rfl rfl (by decide +kernel) ⟨Nat.le_of_ble_eq_true rfl, Nat.le_of_ble_eq_true rfl⟩) (hk_prxS hE (hkS_H hH hAG hS) ⟨rfl, hP.right (w1 := []), (hD.right (w1 := [])).weaken (fun _ _ _ h => hAG _ h)⟩) rfl rfl hl.1 rfl (lv_room (Nat.le_of_ble_eq_true rfl)) dL_contestHolds_106 ⟨by show _ ≤ 300; omega, by show _ ≤ 1500; omega⟩) rfl hP hD hS hA (congrArg Value.long h9.1) h9.2 (fun d H locs hP hD hS => ?_)
          refine hk_ldcz (v := 1000) (n := 1000) hx hb (by decide +kernel) hown (hts (.constantLong RL 123 1000) (by decide +kernel)) dL_contestHolds_109 ?_
          refine lv_aload_n hx hb dL_contestHolds_112 rfl (lv_at hl 3 rfl) ?_
          refine lv_iload_n hx hb dL_contestHolds_113 rfl (lv_at hl 4 rfl) ?_
          refine lv_iload hx hb dL_contestHolds_114 (lv_at hl 7 rfl) ?_
          refine lv_iconst (v := nI 1) hx hb dL_contestHolds_116 (by decide) ?_
          have h9 := lwN (es := [(-9000000000000000001), (-9000000000000000002)]) (e_of1 hI hc hcc hh) (by omega)
          refine hk_LZ (wr := []) (v := .long (zL ((cz (gC g cn) i : Nat) : Int))) (g' := g) (rest := [.long (zL 1000), .long (zL ((sc (gC g cn) i : Nat) : Int))]) (vx_runSW (As := [.ref (b 0), .int (nI cn), .int (nI i), .int (nI 1)]) (rest := [.long (zL 1000), .long (zL ((sc (gC g cn) i : Nat) : Int))]) ⟨hx, hb, hml, hown, hts⟩ (c_L_of l hfl D ct sa G0 H.size b d g (nI cn) (nI i) (nI 1) hI) (vx_cwSW 4 hts gL_contestHolds_L_of rfl rfl rfl (by decide +kernel) ⟨Nat.le_of_ble_eq_true rfl, Nat.le_of_ble_eq_true rfl⟩) (hk_prxS hE (hkS_H hH hAG hS) ⟨rfl, hP.right (w1 := []), (hD.right (w1 := [])).weaken (fun _ _ _ h => hAG _ h)⟩) rfl rfl hl.1 rfl (lv_room (Nat.le_of_ble_eq_true rfl)) dL_contestHolds_117 ⟨by show _ ≤ 300; omega, by show _ ≤ 1500; omega⟩) rfl hP hD hS hA (congrArg Value.long h9.1) h9.2 (fun d H locs hP hD hS => ?_)
          refine hk_lmulz (x := 1000) (y := ((cz (gC g cn) i : Nat) : Int)) hx hb dL_contestHolds_120 ?_
          refine lv_aload_n hx hb dL_contestHolds_121 rfl (lv_at hl 3 rfl) ?_
          refine lv_iload_n hx hb dL_contestHolds_122 rfl (lv_at hl 4 rfl) ?_
          refine lv_iload hx hb dL_contestHolds_123 (lv_at hl 7 rfl) ?_
          refine lv_iconst (v := nI 0) hx hb dL_contestHolds_125 (by decide) ?_
          have h9 := lwN (es := [(-9000000000000000001), (-9000000000000000002)]) (e_of0 hI hc hcc) (by omega)
          refine hk_LZ (wr := []) (v := .long (zL ((cX (gC g cn) i : Nat) : Int))) (g' := g) (rest := [.long (zL (1000 * ((cz (gC g cn) i : Nat) : Int))), .long (zL ((sc (gC g cn) i : Nat) : Int))]) (vx_runSW (As := [.ref (b 0), .int (nI cn), .int (nI i), .int (nI 0)]) (rest := [.long (zL (1000 * ((cz (gC g cn) i : Nat) : Int))), .long (zL ((sc (gC g cn) i : Nat) : Int))]) ⟨hx, hb, hml, hown, hts⟩ (c_L_of l hfl D ct sa G0 H.size b d g (nI cn) (nI i) (nI 0) hI) (vx_cwSW 4 hts gL_contestHolds_L_of rfl rfl rfl (by decide +kernel) ⟨Nat.le_of_ble_eq_true rfl, Nat.le_of_ble_eq_true rfl⟩) (hk_prxS hE (hkS_H hH hAG hS) ⟨rfl, hP.right (w1 := []), (hD.right (w1 := [])).weaken (fun _ _ _ h => hAG _ h)⟩) rfl rfl hl.1 rfl (lv_room (Nat.le_of_ble_eq_true rfl)) dL_contestHolds_126 ⟨by show _ ≤ 300; omega, by show _ ≤ 1500; omega⟩) rfl hP hD hS hA (congrArg Value.long h9.1) h9.2 (fun d H locs hP hD hS => ?_)
          refine hk_ldivz (x := (1000 * ((cz (gC g cn) i : Nat) : Int))) (y := ((cX (gC g cn) i : Nat) : Int)) hx hb (by omega) (by omega) (by omega) (by omega) dL_contestHolds_129 ?_
          refine zq_ne (x := ((sc (gC g cn) i : Nat) : Int)) (y := ((1000 * ((cz (gC g cn) i : Nat) : Int)) / ((cX (gC g cn) i : Nat) : Int))) (tgt := 180) hx hb (scZ _ _) dL_contestHolds_130 dL_contestHolds_131 (by decide) ?_
          refine lv_aload_n hx hb dL_contestHolds_134 rfl (lv_at hl 3 rfl) ?_
          refine lv_iload_n hx hb dL_contestHolds_135 rfl (lv_at hl 4 rfl) ?_
          refine lv_lload hx hb dL_contestHolds_136 (lv_at hl 0 rfl) ?_
          refine hk_l2iz (n := rkC (gC g cn) i) hx hb dL_contestHolds_138 ?_
          have h9 := lwN (es := [(-9000000000000000001)]) (e_ranked hI hc hcc hh rfl) (by omega)
          refine hk_LZ (wr := []) (v := .long (zL ((i : Nat) : Int))) (g' := g) (rest := []) (vx_runSW (As := [.ref (b 0), .int (nI cn), .int (nI (rkC (gC g cn) i))]) (rest := []) ⟨hx, hb, hml, hown, hts⟩ (c_L_ranked l hfl D ct sa G0 H.size b d g (nI cn) (nI (rkC (gC g cn) i)) hI) (vx_cwSW 3 hts gL_contestHolds_L_ranked rfl rfl rfl (by decide +kernel) ⟨Nat.le_of_ble_eq_true rfl, Nat.le_of_ble_eq_true rfl⟩) (hk_prxS hE (hkS_H hH hAG hS) ⟨rfl, hP.right (w1 := []), (hD.right (w1 := [])).weaken (fun _ _ _ h => hAG _ h)⟩) rfl rfl hl.1 rfl (lv_room (Nat.le_of_ble_eq_true rfl)) dL_contestHolds_139 ⟨by show _ ≤ 300; omega, by show _ ≤ 1500; omega⟩) rfl hP hD hS hA (congrArg Value.long h9.1) h9.2 (fun d H locs hP hD hS => ?_)
          refine lv_iload hx hb dL_contestHolds_142 (lv_at hl 7 rfl) ?_
          refine hk_i2lz (n := i) hx hb (by omega) dL_contestHolds_144 ?_
          refine zq_ne (x := ((i : Nat) : Int)) (y := ((i : Nat) : Int)) (tgt := 180) hx hb (rfl) dL_contestHolds_145 dL_contestHolds_146 (by decide) ?_
          refine lv_goto (tgt := 176) hx hb dL_contestHolds_149 (by decide) ?_
          refine lv_iconst (v := nI 1) hx hb dL_contestHolds_176 (by decide) ?_
          refine lv_goto (tgt := 181) hx hb dL_contestHolds_177 (by decide) ?_
          refine lv_istore_n (lv' := [(3, .int (nI 1)), (7, .long (zL ((rkC (gC g cn) i : Nat) : Int))), (4, .int (nI (tol (gC g cn) (i + 1)))), (6, .int (nI 1)), (0, .ref (b 0)), (1, .int (nI cn)), (2, .int (nI (cW (gC g cn)))), (5, .int (nI i))]) hx hb dL_contestHolds_181 rfl hl (by decide) rfl (fun ls hl => ?_)
          refine lv_iinc (v := nI (i + 1)) (lv' := [(5, .int (nI (i + 1))), (3, .int (nI 1)), (7, .long (zL ((rkC (gC g cn) i : Nat) : Int))), (4, .int (nI (tol (gC g cn) (i + 1)))), (6, .int (nI 1)), (0, .ref (b 0)), (1, .int (nI cn)), (2, .int (nI (cW (gC g cn))))]) hx hb dL_contestHolds_182 hl (k := 7) rfl (nI_add _ _) (by decide) rfl (fun ls hl => ?_)
          refine lv_goto (tgt := 26) hx hb dL_contestHolds_185 (by decide) ?_
          refine W.widen (k := 10 + 20 * (i + 1)) (n := 60 + 120 * (i + 1)) (by omega) (by omega) ?_
          exact ih_L d (i + 1) (by omega) (by omega) H locs hP hD hS ls (lv_sub hl [5, 6, 7, 1, 3, 0] rfl)
        · have hh0 : cz (gC g cn) i = 0 := by omega
          have h9 := lwT (es := [(-9000000000000000001), (-9000000000000000002)]) (e_ofn hI hc hcc (w := 1) (by omega) (by omega) hh0) (by decide : (-1 : Int32).toInt = -1)
          refine hk_LZ (wr := []) (v := .long (zL (-1))) (g' := g) (rest := []) (vx_runSW (As := [.ref (b 0), .int (nI cn), .int (nI i), .int (nI 1)]) (rest := []) ⟨hx, hb, hml, hown, hts⟩ (c_L_of l hfl D ct sa G0 H.size b d g (nI cn) (nI i) (nI 1) hI) (vx_cwSW 4 hts gL_contestHolds_L_of rfl rfl rfl (by decide +kernel) ⟨Nat.le_of_ble_eq_true rfl, Nat.le_of_ble_eq_true rfl⟩) (hk_prxS hE (hkS_H hH hAG hS) ⟨rfl, hP.right (w1 := []), (hD.right (w1 := [])).weaken (fun _ _ _ h => hAG _ h)⟩) rfl rfl hl.1 rfl (lv_room (Nat.le_of_ble_eq_true rfl)) dL_contestHolds_41 ⟨by show _ ≤ 300; omega, by show _ ≤ 1500; omega⟩) rfl hP hD hS hA (congrArg Value.long h9.1) h9.2 (fun d H locs hP hD hS => ?_)
          refine lv_lconst (v := zL 0) hx hb dL_contestHolds_44 rfl ?_
          refine zc_le (x := (-1)) (y := 0) (tgt := 53) hx hb (by omega) (by omega) (by omega) (by omega) dL_contestHolds_45 dL_contestHolds_46 (by decide) (fun _ => ?_) (fun hq => absurd hq (by omega))
          refine lv_iconst (v := nI 0) hx hb dL_contestHolds_53 (by decide) ?_
          refine lv_istore (lv' := [(6, .int (nI 0)), (0, .ref (b 0)), (1, .int (nI cn)), (2, .int (nI (cW (gC g cn)))), (3, .int (nI 1)), (4, .int (nI (tol (gC g cn) i))), (5, .int (nI i))]) hx hb dL_contestHolds_54 hl (by decide) rfl (fun ls hl => ?_)
          refine lv_iload hx hb dL_contestHolds_56 (lv_at hl 5 rfl) ?_
          refine lv_iload hx hb dL_contestHolds_58 (lv_at hl 0 rfl) ?_
          refine hk_eq0N (tgt := 67) hx hb (by omega) dL_contestHolds_60 (by decide) (fun _ => ?_) (fun hq => absurd hq (by omega))
          refine lv_iconst (v := nI 0) hx hb dL_contestHolds_67 (by decide) ?_
          refine hk_addN hx hb dL_contestHolds_68 ?_
          refine hk_top (y := nI (tol (gC g cn) (i + 1))) (congrArg nI (tol_n (fun q => hh ((hz_iff hv i).mp q)))) ?_
          refine lv_istore (lv' := [(4, .int (nI (tol (gC g cn) (i + 1)))), (6, .int (nI 0)), (0, .ref (b 0)), (1, .int (nI cn)), (2, .int (nI (cW (gC g cn)))), (3, .int (nI 1)), (5, .int (nI i))]) hx hb dL_contestHolds_69 hl (by decide) rfl (fun ls hl => ?_)
          refine lv_aload_n hx hb dL_contestHolds_71 rfl (lv_at hl 2 rfl) ?_
          refine lv_iload_n hx hb dL_contestHolds_72 rfl (lv_at hl 3 rfl) ?_
          refine lv_iload hx hb dL_contestHolds_73 (lv_at hl 6 rfl) ?_
          refine lv_iconst (v := nI 3) hx hb dL_contestHolds_75 (by decide) ?_
          have h9 := lwT (es := [(-9000000000000000001), (-9000000000000000002)]) (e_ofn hI hc hcc (w := 3) (by omega) (by omega) hh0) (by decide : (-1 : Int32).toInt = -1)
          refine hk_LZ (wr := []) (v := .long (zL (-1))) (g' := g) (rest := []) (vx_runSW (As := [.ref (b 0), .int (nI cn), .int (nI i), .int (nI 3)]) (rest := []) ⟨hx, hb, hml, hown, hts⟩ (c_L_of l hfl D ct sa G0 H.size b d g (nI cn) (nI i) (nI 3) hI) (vx_cwSW 4 hts gL_contestHolds_L_of rfl rfl rfl (by decide +kernel) ⟨Nat.le_of_ble_eq_true rfl, Nat.le_of_ble_eq_true rfl⟩) (hk_prxS hE (hkS_H hH hAG hS) ⟨rfl, hP.right (w1 := []), (hD.right (w1 := [])).weaken (fun _ _ _ h => hAG _ h)⟩) rfl rfl hl.1 rfl (lv_room (Nat.le_of_ble_eq_true rfl)) dL_contestHolds_76 ⟨by show _ ≤ 300; omega, by show _ ≤ 1500; omega⟩) rfl hP hD hS hA (congrArg Value.long h9.1) h9.2 (fun d H locs hP hD hS => ?_)
          refine lv_lstore (lv' := [(7, .long (zL (-1))), (4, .int (nI (tol (gC g cn) (i + 1)))), (6, .int (nI 0)), (0, .ref (b 0)), (1, .int (nI cn)), (2, .int (nI (cW (gC g cn)))), (3, .int (nI 1)), (5, .int (nI i))]) hx hb dL_contestHolds_79 hl (by decide) rfl (fun ls hl => ?_)
          refine lv_aload_n hx hb dL_contestHolds_81 rfl (lv_at hl 3 rfl) ?_
          refine lv_iload_n hx hb dL_contestHolds_82 rfl (lv_at hl 4 rfl) ?_
          refine lv_iload hx hb dL_contestHolds_83 (lv_at hl 7 rfl) ?_
          refine lv_iconst (v := nI 0) hx hb dL_contestHolds_85 (by decide) ?_
          have h9 := lwN (es := [(-9000000000000000001), (-9000000000000000002)]) (e_of0 hI hc hcc) (by omega)
          refine hk_LZ (wr := []) (v := .long (zL ((cX (gC g cn) i : Nat) : Int))) (g' := g) (rest := []) (vx_runSW (As := [.ref (b 0), .int (nI cn), .int (nI i), .int (nI 0)]) (rest := []) ⟨hx, hb, hml, hown, hts⟩ (c_L_of l hfl D ct sa G0 H.size b d g (nI cn) (nI i) (nI 0) hI) (vx_cwSW 4 hts gL_contestHolds_L_of rfl rfl rfl (by decide +kernel) ⟨Nat.le_of_ble_eq_true rfl, Nat.le_of_ble_eq_true rfl⟩) (hk_prxS hE (hkS_H hH hAG hS) ⟨rfl, hP.right (w1 := []), (hD.right (w1 := [])).weaken (fun _ _ _ h => hAG _ h)⟩) rfl rfl hl.1 rfl (lv_room (Nat.le_of_ble_eq_true rfl)) dL_contestHolds_86 ⟨by show _ ≤ 300; omega, by show _ ≤ 1500; omega⟩) rfl hP hD hS hA (congrArg Value.long h9.1) h9.2 (fun d H locs hP hD hS => ?_)
          refine hk_ldcz (v := 2) (n := 2) hx hb (by decide +kernel) hown (hts (.constantLong RL 121 2) (by decide +kernel)) dL_contestHolds_89 ?_
          refine zc_lt (x := ((cX (gC g cn) i : Nat) : Int)) (y := 2) (tgt := 180) hx hb (by omega) (by omega) (by omega) (by omega) dL_contestHolds_92 dL_contestHolds_93 (by decide) (fun hq => absurd hq (by omega)) (fun _ => ?_)
          refine lv_iload hx hb dL_contestHolds_96 (lv_at hl 2 rfl) ?_
          refine hk_eq0N (tgt := 152) hx hb (by omega) dL_contestHolds_98 (by decide) (fun _ => ?_) (fun hq => absurd hq (by omega))
          refine lv_lload hx hb dL_contestHolds_152 (lv_at hl 0 rfl) ?_
          refine hk_ldcz (v := (-1)) (n := (-1)) hx hb (by decide +kernel) hown (hts (.constantLong RL 127 (-1)) (by decide +kernel)) dL_contestHolds_154 ?_
          refine zq_ne (x := (-1)) (y := (-1)) (tgt := 180) hx hb (rfl) dL_contestHolds_157 dL_contestHolds_158 (by decide) ?_
          refine lv_aload_n hx hb dL_contestHolds_161 rfl (lv_at hl 3 rfl) ?_
          refine lv_iload_n hx hb dL_contestHolds_162 rfl (lv_at hl 4 rfl) ?_
          refine lv_iload hx hb dL_contestHolds_163 (lv_at hl 7 rfl) ?_
          refine lv_iconst (v := nI 2) hx hb dL_contestHolds_165 (by decide) ?_
          have h9 := lwT (es := [(-9000000000000000001), (-9000000000000000002)]) (e_ofn hI hc hcc (w := 2) (by omega) (by omega) hh0) (by decide : (-1 : Int32).toInt = -1)
          refine hk_LZ (wr := []) (v := .long (zL (-1))) (g' := g) (rest := []) (vx_runSW (As := [.ref (b 0), .int (nI cn), .int (nI i), .int (nI 2)]) (rest := []) ⟨hx, hb, hml, hown, hts⟩ (c_L_of l hfl D ct sa G0 H.size b d g (nI cn) (nI i) (nI 2) hI) (vx_cwSW 4 hts gL_contestHolds_L_of rfl rfl rfl (by decide +kernel) ⟨Nat.le_of_ble_eq_true rfl, Nat.le_of_ble_eq_true rfl⟩) (hk_prxS hE (hkS_H hH hAG hS) ⟨rfl, hP.right (w1 := []), (hD.right (w1 := [])).weaken (fun _ _ _ h => hAG _ h)⟩) rfl rfl hl.1 rfl (lv_room (Nat.le_of_ble_eq_true rfl)) dL_contestHolds_166 ⟨by show _ ≤ 300; omega, by show _ ≤ 1500; omega⟩) rfl hP hD hS hA (congrArg Value.long h9.1) h9.2 (fun d H locs hP hD hS => ?_)
          refine hk_ldcz (v := (-1)) (n := (-1)) hx hb (by decide +kernel) hown (hts (.constantLong RL 127 (-1)) (by decide +kernel)) dL_contestHolds_169 ?_
          refine zq_ne (x := (-1)) (y := (-1)) (tgt := 180) hx hb (rfl) dL_contestHolds_172 dL_contestHolds_173 (by decide) ?_
          refine lv_iconst (v := nI 1) hx hb dL_contestHolds_176 (by decide) ?_
          refine lv_goto (tgt := 181) hx hb dL_contestHolds_177 (by decide) ?_
          refine lv_istore_n (lv' := [(3, .int (nI 1)), (7, .long (zL (-1))), (4, .int (nI (tol (gC g cn) (i + 1)))), (6, .int (nI 0)), (0, .ref (b 0)), (1, .int (nI cn)), (2, .int (nI (cW (gC g cn)))), (5, .int (nI i))]) hx hb dL_contestHolds_181 rfl hl (by decide) rfl (fun ls hl => ?_)
          refine lv_iinc (v := nI (i + 1)) (lv' := [(5, .int (nI (i + 1))), (3, .int (nI 1)), (7, .long (zL (-1))), (4, .int (nI (tol (gC g cn) (i + 1)))), (6, .int (nI 0)), (0, .ref (b 0)), (1, .int (nI cn)), (2, .int (nI (cW (gC g cn))))]) hx hb dL_contestHolds_182 hl (k := 7) rfl (nI_add _ _) (by decide) rfl (fun ls hl => ?_)
          refine lv_goto (tgt := 26) hx hb dL_contestHolds_185 (by decide) ?_
          refine W.widen (k := 10 + 20 * (i + 1)) (n := 60 + 120 * (i + 1)) (by omega) (by omega) ?_
          exact ih_L d (i + 1) (by omega) (by omega) H locs hP hD hS ls (lv_sub hl [5, 6, 7, 1, 3, 0] rfl)
  refine W.widen (k := 10 + 20 * 0) (n := 60 + 120 * 0) (by omega) (by omega) ?_
  exact L 7 d 0 (by omega) (by omega) H locs hP hD hS ls (lv_sub hl [3, 4, 5, 2, 1, 0] rfl)
