theorem wf_new {wf : Nat → Int32} {g : Sg} (h : WF wf g) (h1 : 1 ≤ gN g) : WF (upd wf (gc g) (nI (gN g))) (gB g) := by
  intro c hc
  have hc : c < gc g + 1 := hc
  show (if c = gc g then nI (gN g) else wf c) = nI (cW (va_up (gC g) (gc g) (newCo g) c)) ∧ 1 ≤ cW (va_up (gC g) (gc g) (newCo g) c)
  by_cases e : c = gc g
  · rw [e, va_up_self, if_pos rfl]; exact ⟨rfl, h1⟩
  · rw [va_up_ne _ _ e, if_neg e]; exact h c (by omega)
theorem wf_rs {wf : Nat → Int32} {g : Sg} {cn j : Nat} {z : Int32} (h : WF wf g) : WF wf (gV g cn (rsU (gC g cn) j z)) := by
  intro c hc
  have hc : c < gc g := hc
  show wf c = nI (cW (va_up (gC g) cn (rsU (gC g cn) j z) c)) ∧ 1 ≤ cW (va_up (gC g) cn (rsU (gC g cn) j z) c)
  by_cases e : c = cn
  · rw [e, va_up_self]; rw [e] at hc; exact h cn hc
  · rw [va_up_ne _ _ e]; exact h c hc
theorem cz_rs (v : Co) (j : Nat) {t : Nat} (ht : t < 2 ^ 31) : cz (rsU v j (nI t)) j = t := by
  show ix (if j = j then nI t else cZ v j) = t
  rw [if_pos rfl, ix_nI ht]
set_option maxHeartbeats 4000000 in
set_option maxRecDepth 100000 in
theorem lw_c_D {p : Program} {e : Env} {s : State} {m : MethodId} {below : List Frame} {meth : Method} {c : Code} (l : Launch) (hfl : l.flags = flags0) {D : va_G} {ct : Nat → ClassId} {sa : Nat → Nat} {sb L : Nat} {xs : Nat → Int32} {b : Nat → Nat} {wt : Nat} (hL : L ≤ 260) (C0 : lw_At p s m meth c sb L xs) (hE : hkE D ct sa s) (hH0 : hkH s.heap.size s s.heap) {n cl sl N y aa : Nat} (hcl : cl + 3900 ≤ 600130) (hsl : sl + 29000 ≤ 7301080) (hN : N ≤ 900) (hn : n < 50) (hy : y < 2 ^ 31) {g : Sg} {d : Ad} {wf : Nat → Int32} {H : Heap} {locs : List Loc} {ls : Array Slot} (hI : Inv g) (hJ : Jg N g) (h1 : 1 ≤ gN g) (hW : WF wf g) (ha : aa < gN g) (hP : va_P D vwCl ((wt, .inl (ct 0, 6, .inl wf)) :: hkW ct b d g) H) (hD : va_D (fun q : Nat => s.heap.size ≤ q) ((wt, .inl (ct 0, 6, .inl wf)) :: hkW ct b d g)) (hS : va_S (fun q : Nat => s.heap.size ≤ q) s.heap H locs) (hl : lv_has ls 21 [(0, .ref sb), (1, .ref (b 0)), (2, .int (nI 1)), (3, .int (nI (gN g))), (4, .int (nI (gc g))), (5, .ref wt), (6, .int (nI n)), (8, .int (nI y)), (9, .int (nI aa))]) (kk : ∀ (d' : Ad) (g' : Sg) (wf' : Nat → Int32) (H1 : Heap) (locs1 : List Loc) (ls1 : Array Slot), Inv g' → Jg (N + 3) g' → 1 ≤ gN g' → WF wf' g' → aa < gN g' → va_P D vwCl ((wt, .inl (ct 0, 6, .inl wf')) :: hkW ct b d' g') H1 → va_D (fun q : Nat => s.heap.size ≤ q) ((wt, .inl (ct 0, 6, .inl wf')) :: hkW ct b d' g') → va_S (fun q : Nat => s.heap.size ≤ q) s.heap H1 locs1 → lv_has ls1 21 [(0, .ref sb), (1, .ref (b 0)), (2, .int (nI 1)), (3, .int (nI (gN g'))), (4, .int (nI (gc g'))), (5, .ref wt), (6, .int (nI n)), (8, .int (nI y)), (9, .int (nI aa))] → W p l e room_1 s m #[Value.ref sb] below meth c H1 locs1 (cl + 300) (sl + 2000) (lw_Z below #[Value.ref sb] s) (F0 m 714 ls1 [])) : W p l e room_1 s m #[Value.ref sb] below meth c H locs cl sl (lw_Z below #[Value.ref sb] s) (F0 m 464 ls []) := by
  have C1 := C0
  obtain ⟨hx, hb, hr, hml, hown, hts, hX, hbl, hlocks, hgv⟩ := C0
  have hts : ∀ w ∈ wsL_law, w.before #[Value.ref sb] s = true := fun w h => hts w (wsL_law_in w h)
  have hA : ∀ q : Nat, s.heap.size ≤ q → (fun q : Nat => s.heap.size ≤ q) q := fun _ h => h
  have hAG : ∀ q : Nat, (fun q : Nat => s.heap.size ≤ q) q → s.heap.size ≤ q := fun _ h => h
  have hbA : ¬ (fun q : Nat => s.heap.size ≤ q) sb := Nat.not_le.mpr hbl
  have hH := hH0
  have hb : c.code = cL_law := hb
  have hN5 : gN g ≤ 5 := hI.1
  have hc6 : gc g ≤ 6 := hI.2.2.1
  obtain ⟨g1, e_g1⟩ : ∃ q : Sg, q = gCl g := ⟨_, rfl⟩
  have hI1 : Inv g1 := by rw [e_g1]; exact i_clear hI
  have hJ1 : Jg N g1 := by rw [e_g1]; exact jj_clear hJ
  have gN1 : gN g1 = gN g := by rw [e_g1]; rfl
  have gc1 : gc g1 = gc g := by rw [e_g1]; rfl
  have gC1 : gC g1 = gC g := by rw [e_g1]; rfl
  have gd1 : gd g1 = 0 := by rw [e_g1]; rfl
  refine lv_aload_n hx hb dL_law_464 rfl (lv_at hl 1 rfl) ?_
  refine hk_LF (wr := [(wt, .inl (ct 0, 6, .inl wf))]) (rest := []) (va_runV (As := []) (rest := []) ⟨hx, hb, hml, hown, hts⟩ (c_X2_clear l D ct sa s.heap.size H.size b d g hI) (cwV 0 hts gL_law_X2_clear rfl rfl rfl (by decide +kernel) ⟨Nat.le_of_ble_eq_true rfl, Nat.le_of_ble_eq_true rfl⟩) (hk_preV hE (va_recv hE.1 (hP.right (w1 := [(wt, .inl (ct 0, 6, .inl wf))])) (ci := 2) (q0 := 0) rfl rfl) ⟨rfl, hP.right (w1 := [(wt, .inl (ct 0, 6, .inl wf))]), hD.right (w1 := [(wt, .inl (ct 0, 6, .inl wf))])⟩) rfl rfl hl.1 rfl (lv_room (Nat.le_of_ble_eq_true rfl)) dL_law_465 ⟨by show _ ≤ 600130; omega, by show _ ≤ 7301080; omega⟩) rfl hP hD hS hA (fun d H locs hP hD hS => ?_)
  have hP : va_P D vwCl ((wt, .inl (ct 0, 6, .inl wf)) :: hkW ct b d g1) H := by rw [e_g1]; exact hP
  have hD : va_D (fun q : Nat => s.heap.size ≤ q) ((wt, .inl (ct 0, 6, .inl wf)) :: hkW ct b d g1) := by rw [e_g1]; exact hD
  refine lv_pop hx hb dL_law_468 rfl ?_
  refine lv_iconst (v := nI 1) hx hb dL_law_469 (by decide) ?_
  refine lv_iload hx hb dL_law_470 (lv_at hl 7 rfl) ?_
  refine lv_bipush (v := nI 7) hx hb dL_law_472 (by decide) ?_
  refine hk_remN hx hb (by omega) (by omega) (by omega) dL_law_474 ?_
  refine hk_addN hx hb dL_law_475 ?_
  refine lv_istore (lv' := [(11, .int (nI (1 + (y % 7)))), (0, .ref sb), (1, .ref (b 0)), (2, .int (nI 1)), (3, .int (nI (gN g))), (4, .int (nI (gc g))), (5, .ref wt), (6, .int (nI n)), (8, .int (nI y)), (9, .int (nI aa))]) hx hb dL_law_476 hl (by decide) rfl (fun ls hl => ?_)
  refine lv_iconst (v := nI 0) hx hb dL_law_478 (by decide) ?_
  refine lv_istore (lv' := [(12, .int (nI 0)), (11, .int (nI (1 + (y % 7)))), (0, .ref sb), (1, .ref (b 0)), (2, .int (nI 1)), (3, .int (nI (gN g))), (4, .int (nI (gc g))), (5, .ref wt), (6, .int (nI n)), (8, .int (nI y)), (9, .int (nI aa))]) hx hb dL_law_479 hl (by decide) rfl (fun ls hl => ?_)
  have L : ∀ (k : Nat) (d : Ad) (i : Nat) (g2 : Sg), 9 ≤ i + k → Inv g2 → Jg N g2 → gN g2 = gN g → gc g2 = gc g → gC g2 = gC g → gd g2 = i → i ≤ 1 + (y % 7) → ∀ (H : Heap) (locs : List Loc), va_P D vwCl ((wt, .inl (ct 0, 6, .inl wf)) :: hkW ct b d g2) H → va_D (fun q : Nat => s.heap.size ≤ q) ((wt, .inl (ct 0, 6, .inl wf)) :: hkW ct b d g2) → va_S (fun q : Nat => s.heap.size ≤ q) s.heap H locs → ∀ (ls : Array Slot), lv_has ls 21 [(0, .ref sb), (1, .ref (b 0)), (2, .int (nI 1)), (3, .int (nI (gN g))), (4, .int (nI (gc g))), (5, .ref wt), (6, .int (nI n)), (8, .int (nI y)), (9, .int (nI aa)), (11, .int (nI (1 + (y % 7)))), (12, .int (nI i))] → W p l e room_1 s m #[Value.ref sb] below meth c H locs (cl + 2 * i) (sl + 12 * i) (lw_Z below #[Value.ref sb] s) (F0 m 481 ls []) := by
    intro k
    induction k with
    | zero => intro d i g2 hk; intros; exact absurd hk (by omega)
    | succ k ih_L =>
      intro d i g2 hk hI2 hJ2 hN2 hc2 hC2 hd2 hi H locs hP hD hS ls hl
      refine lv_iload hx hb dL_law_481 (lv_at hl 10 rfl) ?_
      refine lv_iload hx hb dL_law_483 (lv_at hl 9 rfl) ?_
      refine hk_geN (tgt := 528) hx hb (by omega) (by omega) dL_law_485 (by decide) (fun hcc => ?_) (fun hcc => ?_)
      · have hd0 : gd g2 ≠ 0 := by omega
        refine lv_iload_n hx hb dL_law_528 rfl (lv_at hl 2 rfl) ?_
        refine hk_eq0N (tgt := 560) hx hb (by omega) dL_law_529 (by decide) (fun hq => absurd hq (by decide)) (fun _ => ?_)
        refine lv_aload_n hx hb dL_law_532 rfl (lv_at hl 1 rfl) ?_
        by_cases h6 : gc g = 6
        · have h9 := lw1 (es := [(-9000000000000000003)]) (n := (-9000000000000000003)) (e_contest6 (hc2.trans h6)) (by decide) (by decide +kernel)
          refine hk_LZ (wr := [(wt, .inl (ct 0, 6, .inl wf))]) (v := .long (zL (-9000000000000000003))) (g' := g2) (rest := []) (vx_runSW (As := [.ref (b 0)]) (rest := []) ⟨hx, hb, hml, hown, hts⟩ (c_L_contest l hfl D ct sa s.heap.size H.size b d g2  hI2) (vx_cwSW 1 hts gL_law_L_contest rfl rfl rfl (by decide +kernel) ⟨Nat.le_of_ble_eq_true rfl, Nat.le_of_ble_eq_true rfl⟩) (hk_prxS hE (hkS_H hH hAG hS) ⟨rfl, hP.right (w1 := [(wt, .inl (ct 0, 6, .inl wf))]), (hD.right (w1 := [(wt, .inl (ct 0, 6, .inl wf))])).weaken (fun _ _ _ h => hAG _ h)⟩) rfl rfl hl.1 rfl (lv_room (Nat.le_of_ble_eq_true rfl)) dL_law_533 ⟨by show _ ≤ 600130; omega, by show _ ≤ 7301080; omega⟩) rfl hP hD hS hA (congrArg Value.long h9.1) h9.2 (fun d H locs hP hD hS => ?_)
          have hP : va_P D vwCl ((wt, .inl (ct 0, 6, .inl wf)) :: hkW ct b d g2) H := hP
          have hD : va_D (fun q : Nat => s.heap.size ≤ q) ((wt, .inl (ct 0, 6, .inl wf)) :: hkW ct b d g2) := hD
          refine lv_iload hx hb dL_law_536 (lv_at hl 4 rfl) ?_
          refine lv_bipush (v := nI 6) hx hb dL_law_538 (by decide) ?_
          refine hk_neN (tgt := 549) hx hb (by omega) (by omega) dL_law_540 (by decide) (fun hq => absurd hq (by omega)) (fun _ => ?_)
          refine hk_ldcz (v := (-9000000000000000003)) (n := (-9000000000000000003)) hx hb (by decide +kernel) hown (hts (.constantLong RL 17 (-9000000000000000003)) (by decide +kernel)) dL_law_543 ?_
          refine lv_goto (tgt := 552) hx hb dL_law_546 (by decide) ?_
          refine zq_ne (x := (-9000000000000000003)) (y := (-9000000000000000003)) (tgt := 560) hx hb (rfl) dL_law_552 dL_law_553 (by decide) ?_
          refine lv_iconst (v := nI 1) hx hb dL_law_556 (by decide) ?_
          refine lv_goto (tgt := 561) hx hb dL_law_557 (by decide) ?_
          refine lv_istore_n (lv' := [(2, .int (nI 1)), (0, .ref sb), (1, .ref (b 0)), (3, .int (nI (gN g))), (4, .int (nI (gc g))), (5, .ref wt), (6, .int (nI n)), (8, .int (nI y)), (9, .int (nI aa)), (11, .int (nI (1 + (y % 7)))), (12, .int (nI i))]) hx hb dL_law_561 rfl hl (by decide) rfl (fun ls hl => ?_)
          refine lv_iload hx hb dL_law_562 (lv_at hl 4 rfl) ?_
          refine lv_bipush (v := nI 6) hx hb dL_law_564 (by decide) ?_
          refine hk_geN (tgt := 578) hx hb (by omega) (by omega) dL_law_566 (by decide) (fun _ => ?_) (fun hq => absurd hq (by omega))
          refine lv_goto (tgt := 714) hx hb dL_law_578 (by decide) ?_
          refine W.widen (k := cl + 300) (n := sl + 2000) (by omega) (by omega) ?_
          exact kk d g2 wf H locs ls hI2 (hJ2.mono (by omega)) (by rw [hN2]; exact h1) (hW.same hc2 hC2) (by rw [hN2]; exact ha) hP hD hS (by rw [hN2, hc2]; exact lv_sub hl [1, 2, 0, 3, 4, 5, 6, 7, 8] rfl)
        · obtain ⟨g3, e_g3⟩ : ∃ q : Sg, q = gB g2 := ⟨_, rfl⟩
          have hn0 : gN g2 ≠ 0 := by omega
          have hcl6 : gc g2 < 6 := by omega
          have h9 := lwN (es := [(-9000000000000000003)]) (e_contest hd0 hn0 hcl6) (by omega)
          refine hk_LZ (wr := [(wt, .inl (ct 0, 6, .inl wf))]) (v := .long (zL ((gc g2 : Nat) : Int))) (g' := g3) (rest := []) (vx_runSW (As := [.ref (b 0)]) (rest := []) ⟨hx, hb, hml, hown, hts⟩ (c_L_contest l hfl D ct sa s.heap.size H.size b d g2  hI2) (vx_cwSW 1 hts gL_law_L_contest rfl rfl rfl (by decide +kernel) ⟨Nat.le_of_ble_eq_true rfl, Nat.le_of_ble_eq_true rfl⟩) (hk_prxS hE (hkS_H hH hAG hS) ⟨rfl, hP.right (w1 := [(wt, .inl (ct 0, 6, .inl wf))]), (hD.right (w1 := [(wt, .inl (ct 0, 6, .inl wf))])).weaken (fun _ _ _ h => hAG _ h)⟩) rfl rfl hl.1 rfl (lv_room (Nat.le_of_ble_eq_true rfl)) dL_law_533 ⟨by show _ ≤ 600130; omega, by show _ ≤ 7301080; omega⟩) rfl hP hD hS hA (congrArg Value.long h9.1) (h9.2.trans e_g3.symm) (fun d H locs hP hD hS => ?_)
          have hP : va_P D vwCl ((wt, .inl (ct 0, 6, .inl wf)) :: hkW ct b d g3) H := hP
          have hD : va_D (fun q : Nat => s.heap.size ≤ q) ((wt, .inl (ct 0, 6, .inl wf)) :: hkW ct b d g3) := hD
          have hI3 : Inv g3 := by rw [e_g3]; exact i_contest hI2 hd0 hn0 hcl6
          have hJ3 : Jg N g3 := by rw [e_g3]; exact jj_contest hJ2
          have gN3 : gN g3 = gN g := by rw [e_g3, ← hN2]; rfl
          have gc3 : gc g3 = gc g + 1 := by rw [e_g3, ← hc2]; rfl
          refine lv_iload hx hb dL_law_536 (lv_at hl 4 rfl) ?_
          refine lv_bipush (v := nI 6) hx hb dL_law_538 (by decide) ?_
          refine hk_neN (tgt := 549) hx hb (by omega) (by omega) dL_law_540 (by decide) (fun _ => ?_) (fun hq => absurd hq (by omega))
          refine lv_iload hx hb dL_law_549 (lv_at hl 4 rfl) ?_
          refine hk_i2lz (n := gc g) hx hb (by omega) dL_law_551 ?_
          refine zq_ne (x := ((gc g2 : Nat) : Int)) (y := ((gc g : Nat) : Int)) (tgt := 560) hx hb (by rw [hc2]) dL_law_552 dL_law_553 (by decide) ?_
          refine lv_iconst (v := nI 1) hx hb dL_law_556 (by decide) ?_
          refine lv_goto (tgt := 561) hx hb dL_law_557 (by decide) ?_
          refine lv_istore_n (lv' := [(2, .int (nI 1)), (0, .ref sb), (1, .ref (b 0)), (3, .int (nI (gN g))), (4, .int (nI (gc g))), (5, .ref wt), (6, .int (nI n)), (8, .int (nI y)), (9, .int (nI aa)), (11, .int (nI (1 + (y % 7)))), (12, .int (nI i))]) hx hb dL_law_561 rfl hl (by decide) rfl (fun ls hl => ?_)
          refine lv_iload hx hb dL_law_562 (lv_at hl 4 rfl) ?_
          refine lv_bipush (v := nI 6) hx hb dL_law_564 (by decide) ?_
          refine hk_geN (tgt := 578) hx hb (by omega) (by omega) dL_law_566 (by decide) (fun hq => absurd hq (by omega)) (fun _ => ?_)
          refine lv_aload hx hb dL_law_569 (lv_at hl 5 rfl) ?_
          refine lv_iload hx hb dL_law_571 (lv_at hl 4 rfl) ?_
          refine lv_iload_n hx hb dL_law_573 rfl (lv_at hl 3 rfl) ?_
          refine hk_iast hx hb hE hP hD hS 0 rfl (j := gc g) (x := nI (gN g)) (by omega) (by omega) dL_law_574 (fun H locs hP hD hS => ?_)
          have hP : va_P D vwCl ((wt, .inl (ct 0, 6, .inl (upd wf (gc g) (nI (gN g))))) :: hkW ct b d g3) H := hP
          have hD : va_D (fun q : Nat => s.heap.size ≤ q) ((wt, .inl (ct 0, 6, .inl (upd wf (gc g) (nI (gN g))))) :: hkW ct b d g3) := hD
          refine lv_iinc (v := nI (gc g + 1)) (lv' := [(4, .int (nI (gc g + 1))), (2, .int (nI 1)), (0, .ref sb), (1, .ref (b 0)), (3, .int (nI (gN g))), (5, .ref wt), (6, .int (nI n)), (8, .int (nI y)), (9, .int (nI aa)), (11, .int (nI (1 + (y % 7)))), (12, .int (nI i))]) hx hb dL_law_575 hl (k := 4) rfl (nI_add _ _) (by decide) rfl (fun ls hl => ?_)
          refine lv_goto (tgt := 714) hx hb dL_law_578 (by decide) ?_
          have hW3 : WF (upd wf (gc g) (nI (gN g))) g3 := by rw [e_g3, ← hN2, ← hc2]; exact wf_new (hW.same hc2 hC2) (by omega)
          refine W.widen (k := cl + 300) (n := sl + 2000) (by omega) (by omega) ?_
          exact kk d g3 (upd wf (gc g) (nI (gN g))) H locs ls hI3 (hJ3.mono (by omega)) (by rw [gN3]; exact h1) hW3 (by rw [gN3]; exact ha) hP hD hS (by rw [gN3, gc3]; exact lv_sub hl [2, 3, 1, 4, 0, 5, 6, 7, 8] rfl)
      · refine lv_iload_n hx hb dL_law_488 rfl (lv_at hl 2 rfl) ?_
        refine hk_eq0N (tgt := 528) hx hb (by omega) dL_law_489 (by decide) (fun hq => absurd hq (by decide)) (fun _ => ?_)
        have hdv : y / (8 + i) ≤ y := Nat.div_le_self _ _
        have hlt : y / (8 + i) % 12 < 12 := by omega
        refine lv_aload_n hx hb dL_law_492 rfl (lv_at hl 1 rfl) ?_
        refine lv_iload hx hb dL_law_493 (lv_at hl 7 rfl) ?_
        refine lv_bipush (v := nI 8) hx hb dL_law_495 (by decide) ?_
        refine lv_iload hx hb dL_law_497 (lv_at hl 10 rfl) ?_
        refine hk_addN hx hb dL_law_499 ?_
        refine hk_divN hx hb (by omega) (by omega) (by omega) dL_law_500 ?_
        refine lv_bipush (v := nI 12) hx hb dL_law_501 (by decide) ?_
        refine hk_remN hx hb (by omega) (by omega) (by omega) dL_law_503 ?_
        obtain ⟨g3, e_g3⟩ : ∃ q : Sg, q = gDr g2 (y / (8 + i) % 12) := ⟨_, rfl⟩
        have h9 := lwN (es := [(-9000000000000000001), (-9000000000000000003)]) (e_draft (g := g2) hlt (by omega)) (by omega)
        refine hk_LZ (wr := [(wt, .inl (ct 0, 6, .inl wf))]) (v := .long (zL ((gd g2 + 1 : Nat) : Int))) (g' := g3) (rest := []) (vx_runSW (As := [.ref (b 0), .int (nI ((y / (8 + i)) % 12))]) (rest := []) ⟨hx, hb, hml, hown, hts⟩ (c_L_draft l hfl D ct sa s.heap.size H.size b d g2 (nI ((y / (8 + i)) % 12)) hI2) (vx_cwSW 2 hts gL_law_L_draft rfl rfl rfl (by decide +kernel) ⟨Nat.le_of_ble_eq_true rfl, Nat.le_of_ble_eq_true rfl⟩) (hk_prxS hE (hkS_H hH hAG hS) ⟨rfl, hP.right (w1 := [(wt, .inl (ct 0, 6, .inl wf))]), (hD.right (w1 := [(wt, .inl (ct 0, 6, .inl wf))])).weaken (fun _ _ _ h => hAG _ h)⟩) rfl rfl hl.1 rfl (lv_room (Nat.le_of_ble_eq_true rfl)) dL_law_504 ⟨by show _ ≤ 600130; omega, by show _ ≤ 7301080; omega⟩) rfl hP hD hS hA (congrArg Value.long h9.1) (h9.2.trans e_g3.symm) (fun d H locs hP hD hS => ?_)
        have hP : va_P D vwCl ((wt, .inl (ct 0, 6, .inl wf)) :: hkW ct b d g3) H := hP
        have hD : va_D (fun q : Nat => s.heap.size ≤ q) ((wt, .inl (ct 0, 6, .inl wf)) :: hkW ct b d g3) := hD
        refine lv_iload hx hb dL_law_507 (lv_at hl 10 rfl) ?_
        refine lv_iconst (v := nI 1) hx hb dL_law_509 (by decide) ?_
        refine hk_addN hx hb dL_law_510 ?_
        refine hk_i2lz (n := i + 1) hx hb (by omega) dL_law_511 ?_
        refine zq_ne (x := ((gd g2 + 1 : Nat) : Int)) (y := ((i + 1 : Nat) : Int)) (tgt := 520) hx hb (by rw [hd2]) dL_law_512 dL_law_513 (by decide) ?_
        refine lv_iconst (v := nI 1) hx hb dL_law_516 (by decide) ?_
        refine lv_goto (tgt := 521) hx hb dL_law_517 (by decide) ?_
        refine lv_istore_n (lv' := [(2, .int (nI 1)), (0, .ref sb), (1, .ref (b 0)), (3, .int (nI (gN g))), (4, .int (nI (gc g))), (5, .ref wt), (6, .int (nI n)), (8, .int (nI y)), (9, .int (nI aa)), (11, .int (nI (1 + (y % 7)))), (12, .int (nI i))]) hx hb dL_law_521 rfl hl (by decide) rfl (fun ls hl => ?_)
        refine lv_iinc (v := nI (i + 1)) (lv' := [(12, .int (nI (i + 1))), (2, .int (nI 1)), (0, .ref sb), (1, .ref (b 0)), (3, .int (nI (gN g))), (4, .int (nI (gc g))), (5, .ref wt), (6, .int (nI n)), (8, .int (nI y)), (9, .int (nI aa)), (11, .int (nI (1 + (y % 7))))]) hx hb dL_law_522 hl (k := 10) rfl (nI_add _ _) (by decide) rfl (fun ls hl => ?_)
        refine lv_goto (tgt := 481) hx hb dL_law_525 (by decide) ?_
        refine W.widen (k := cl + 2 * (i + 1)) (n := sl + 12 * (i + 1)) (by omega) (by omega) ?_
        exact ih_L d (i + 1) g3 (by omega) (by rw [e_g3]; exact i_draft hI2 hlt (by omega)) (by rw [e_g3]; exact jj_draft hJ2) (by rw [e_g3, ← hN2]; rfl) (by rw [e_g3, ← hc2]; rfl) (by rw [e_g3, ← hC2]; rfl) (by rw [e_g3, ← hd2]; rfl) (by omega) H locs hP hD hS ls (lv_sub hl [2, 3, 1, 4, 5, 6, 7, 8, 9, 10, 0] rfl)
  refine W.widen (k := cl + 2 * 0) (n := sl + 12 * 0) (by omega) (by omega) ?_
  exact L 9 d 0 g1 (by omega) hI1 hJ1 gN1 gc1 gC1 gd1 (by omega) H locs hP hD hS ls (lv_sub hl [2, 3, 4, 5, 6, 7, 8, 9, 10, 1, 0] rfl)
set_option maxHeartbeats 4000000 in
set_option maxRecDepth 100000 in
theorem lw_c_E {p : Program} {e : Env} {s : State} {m : MethodId} {below : List Frame} {meth : Method} {c : Code} (l : Launch) (hfl : l.flags = flags0) {D : va_G} {ct : Nat → ClassId} {sa : Nat → Nat} {sb L : Nat} {xs : Nat → Int32} {b : Nat → Nat} {wt : Nat} (hL : L ≤ 260) (C0 : lw_At p s m meth c sb L xs) (hE : hkE D ct sa s) (hH0 : hkH s.heap.size s s.heap) {n cl sl N y aa : Nat} (hcl : cl + 3900 ≤ 600130) (hsl : sl + 29000 ≤ 7301080) (hN : N ≤ 900) (hn : n < 50) (hy : y < 2 ^ 31) {g : Sg} {d : Ad} {wf : Nat → Int32} {H : Heap} {locs : List Loc} {ls : Array Slot} (hI : Inv g) (hJ : Jg N g) (h1 : 1 ≤ gN g) (hW : WF wf g) (ha : aa < gN g) (hP : va_P D vwCl ((wt, .inl (ct 0, 6, .inl wf)) :: hkW ct b d g) H) (hD : va_D (fun q : Nat => s.heap.size ≤ q) ((wt, .inl (ct 0, 6, .inl wf)) :: hkW ct b d g)) (hS : va_S (fun q : Nat => s.heap.size ≤ q) s.heap H locs) (hl : lv_has ls 21 [(0, .ref sb), (1, .ref (b 0)), (2, .int (nI 1)), (3, .int (nI (gN g))), (4, .int (nI (gc g))), (5, .ref wt), (6, .int (nI n)), (8, .int (nI y)), (9, .int (nI aa))]) (kk : ∀ (d' : Ad) (g' : Sg) (wf' : Nat → Int32) (H1 : Heap) (locs1 : List Loc) (ls1 : Array Slot), Inv g' → Jg (N + 3) g' → 1 ≤ gN g' → WF wf' g' → aa < gN g' → va_P D vwCl ((wt, .inl (ct 0, 6, .inl wf')) :: hkW ct b d' g') H1 → va_D (fun q : Nat => s.heap.size ≤ q) ((wt, .inl (ct 0, 6, .inl wf')) :: hkW ct b d' g') → va_S (fun q : Nat => s.heap.size ≤ q) s.heap H1 locs1 → lv_has ls1 21 [(0, .ref sb), (1, .ref (b 0)), (2, .int (nI 1)), (3, .int (nI (gN g'))), (4, .int (nI (gc g'))), (5, .ref wt), (6, .int (nI n)), (8, .int (nI y)), (9, .int (nI aa))] → W p l e room_1 s m #[Value.ref sb] below meth c H1 locs1 (cl + 300) (sl + 2000) (lw_Z below #[Value.ref sb] s) (F0 m 714 ls1 [])) : W p l e room_1 s m #[Value.ref sb] below meth c H locs cl sl (lw_Z below #[Value.ref sb] s) (F0 m 581 ls []) := by
  have C1 := C0
  obtain ⟨hx, hb, hr, hml, hown, hts, hX, hbl, hlocks, hgv⟩ := C0
  have hts : ∀ w ∈ wsL_law, w.before #[Value.ref sb] s = true := fun w h => hts w (wsL_law_in w h)
  have hA : ∀ q : Nat, s.heap.size ≤ q → (fun q : Nat => s.heap.size ≤ q) q := fun _ h => h
  have hAG : ∀ q : Nat, (fun q : Nat => s.heap.size ≤ q) q → s.heap.size ≤ q := fun _ h => h
  have hbA : ¬ (fun q : Nat => s.heap.size ≤ q) sb := Nat.not_le.mpr hbl
  have hH := hH0
  have hb : c.code = cL_law := hb
  have hN5 : gN g ≤ 5 := hI.1
  have hc6 : gc g ≤ 6 := hI.2.2.1
  refine lv_iload hx hb dL_law_581 (lv_at hl 4 rfl) ?_
  refine hk_le0N (tgt := 714) hx hb (by omega) dL_law_583 (by decide) (fun hq0 => ?_) (fun hq0 => ?_)
  · refine W.widen (k := cl + 300) (n := sl + 2000) (by omega) (by omega) ?_
    exact kk d g wf H locs ls hI (hJ.mono (by omega)) h1 hW ha hP hD hS (lv_sub hl [0, 1, 2, 3, 4, 5, 6, 7, 8] rfl)
  · obtain ⟨cn, e_cn⟩ : ∃ q : Nat, q = y % gc g := ⟨_, rfl⟩
    have hc : cn < gc g := by rw [e_cn]; exact Nat.mod_lt _ hq0
    obtain ⟨hw1, hw2⟩ := hW cn hc
    have hv : Ico (gC g cn) := hI.2.2.2.2.2.2.2 cn
    have hw5 : cW (gC g cn) ≤ 5 := hv.1
    refine lv_iload hx hb dL_law_586 (lv_at hl 7 rfl) ?_
    refine lv_iload hx hb dL_law_588 (lv_at hl 4 rfl) ?_
    refine hk_remN hx hb (by omega) (by omega) (by omega) dL_law_590 ?_
    refine hk_top (y := nI cn) (congrArg nI e_cn.symm) ?_
    refine lv_istore (lv' := [(11, .int (nI cn)), (0, .ref sb), (1, .ref (b 0)), (2, .int (nI 1)), (3, .int (nI (gN g))), (4, .int (nI (gc g))), (5, .ref wt), (6, .int (nI n)), (8, .int (nI y)), (9, .int (nI aa))]) hx hb dL_law_591 hl (by decide) rfl (fun ls hl => ?_)
    refine lv_iload hx hb dL_law_593 (lv_at hl 8 rfl) ?_
    refine lv_bipush (v := nI 8) hx hb dL_law_595 (by decide) ?_
    refine hk_divN hx hb (by omega) (by omega) (by omega) dL_law_597 ?_
    refine lv_aload hx hb dL_law_598 (lv_at hl 6 rfl) ?_
    refine lv_iload hx hb dL_law_600 (lv_at hl 0 rfl) ?_
    refine hk_iald hx hb hE hP 0 rfl (j := cn) (by omega) (by omega) dL_law_602 ?_
    refine hk_top (y := nI (cW (gC g cn))) hw1 ?_
    obtain ⟨j, e_j⟩ : ∃ q : Nat, q = y / 8 % cW (gC g cn) := ⟨_, rfl⟩
    have hj : j < cW (gC g cn) := by rw [e_j]; exact Nat.mod_lt _ (by omega)
    refine hk_remN hx hb (by omega) (by omega) (by omega) dL_law_603 ?_
    refine hk_top (y := nI j) (congrArg nI e_j.symm) ?_
    obtain ⟨t, e_t⟩ : ∃ q : Nat, q = 1 + y / 64 % 99999 := ⟨_, rfl⟩
    have ht1 : 1 ≤ t := by omega
    have ht2 : t ≤ 99999 := by omega
    have hcz : cz (gC g cn) j ≤ 99999 := hJ.2 cn j
    refine lv_istore (lv' := [(12, .int (nI j)), (11, .int (nI cn)), (0, .ref sb), (1, .ref (b 0)), (2, .int (nI 1)), (3, .int (nI (gN g))), (4, .int (nI (gc g))), (5, .ref wt), (6, .int (nI n)), (8, .int (nI y)), (9, .int (nI aa))]) hx hb dL_law_604 hl (by decide) rfl (fun ls hl => ?_)
    refine lv_aload_n hx hb dL_law_606 rfl (lv_at hl 3 rfl) ?_
    refine lv_iload hx hb dL_law_607 (lv_at hl 1 rfl) ?_
    refine lv_iload hx hb dL_law_609 (lv_at hl 0 rfl) ?_
    refine lv_iconst (v := nI 1) hx hb dL_law_611 (by decide) ?_
    by_cases hh : 0 < cz (gC g cn) j
    · have h9 := lwN (es := [(-9000000000000000001), (-9000000000000000002)]) (e_of1 hI hc hj hh) (by omega)
      refine hk_LZ (wr := [(wt, .inl (ct 0, 6, .inl wf))]) (v := .long (zL ((cz (gC g cn) j : Nat) : Int))) (g' := g) (rest := []) (vx_runSW (As := [.ref (b 0), .int (nI cn), .int (nI j), .int (nI 1)]) (rest := []) ⟨hx, hb, hml, hown, hts⟩ (c_L_of l hfl D ct sa s.heap.size H.size b d g (nI cn) (nI j) (nI 1) hI) (vx_cwSW 4 hts gL_law_L_of rfl rfl rfl (by decide +kernel) ⟨Nat.le_of_ble_eq_true rfl, Nat.le_of_ble_eq_true rfl⟩) (hk_prxS hE (hkS_H hH hAG hS) ⟨rfl, hP.right (w1 := [(wt, .inl (ct 0, 6, .inl wf))]), (hD.right (w1 := [(wt, .inl (ct 0, 6, .inl wf))])).weaken (fun _ _ _ h => hAG _ h)⟩) rfl rfl hl.1 rfl (lv_room (Nat.le_of_ble_eq_true rfl)) dL_law_612 ⟨by show _ ≤ 600130; omega, by show _ ≤ 7301080; omega⟩) rfl hP hD hS hA (congrArg Value.long h9.1) h9.2 (fun d H locs hP hD hS => ?_)
      have hP : va_P D vwCl ((wt, .inl (ct 0, 6, .inl wf)) :: hkW ct b d g) H := hP
      have hD : va_D (fun q : Nat => s.heap.size ≤ q) ((wt, .inl (ct 0, 6, .inl wf)) :: hkW ct b d g) := hD
      refine lv_lconst (v := zL 0) hx hb dL_law_615 rfl ?_
      refine zc_le (x := ((cz (gC g cn) j : Nat) : Int)) (y := 0) (tgt := 624) hx hb (by omega) (by omega) (by omega) (by omega) dL_law_616 dL_law_617 (by decide) (fun hq => absurd hq (by omega)) (fun _ => ?_)
      refine lv_iconst (v := nI 1) hx hb dL_law_620 (by decide) ?_
      refine lv_goto (tgt := 625) hx hb dL_law_621 (by decide) ?_
      refine lv_istore (lv' := [(13, .int (nI 1)), (12, .int (nI j)), (11, .int (nI cn)), (0, .ref sb), (1, .ref (b 0)), (2, .int (nI 1)), (3, .int (nI (gN g))), (4, .int (nI (gc g))), (5, .ref wt), (6, .int (nI n)), (8, .int (nI y)), (9, .int (nI aa))]) hx hb dL_law_625 hl (by decide) rfl (fun ls hl => ?_)
      refine lv_aload_n hx hb dL_law_627 rfl (lv_at hl 4 rfl) ?_
      refine lv_iload hx hb dL_law_628 (lv_at hl 2 rfl) ?_
      refine lv_iload hx hb dL_law_630 (lv_at hl 1 rfl) ?_
      refine lv_iconst (v := nI 1) hx hb dL_law_632 (by decide) ?_
      refine lv_iload hx hb dL_law_633 (lv_at hl 10 rfl) ?_
      refine lv_bipush (v := nI 64) hx hb dL_law_635 (by decide) ?_
      refine hk_divN hx hb (by omega) (by omega) (by omega) dL_law_637 ?_
      refine lv_ldc (v := nI 99999) hx hb hown (hts (.constant RL 154 99999) (by decide +kernel)) dL_law_638 ?_
      refine hk_remN hx hb (by omega) (by omega) (by omega) dL_law_640 ?_
      refine hk_addN hx hb dL_law_641 ?_
      refine hk_top (y := nI t) (congrArg nI e_t.symm) ?_
      have h9 := lw1 (es := [(-9000000000000000001), (-9000000000000000002), (-9000000000000000003)]) (n := (-9000000000000000003)) (e_resultR hI hc hj ht1 ht2 hh) (by decide) (by decide +kernel)
      refine hk_LZ (wr := [(wt, .inl (ct 0, 6, .inl wf))]) (v := .long (zL (-9000000000000000003))) (g' := g) (rest := []) (vx_runSW (As := [.ref (b 0), .int (nI cn), .int (nI j), .int (nI t)]) (rest := []) ⟨hx, hb, hml, hown, hts⟩ (c_L_result l hfl D ct sa s.heap.size H.size b d g (nI cn) (nI j) (nI t) hI) (vx_cwSW 4 hts gL_law_L_result rfl rfl rfl (by decide +kernel) ⟨Nat.le_of_ble_eq_true rfl, Nat.le_of_ble_eq_true rfl⟩) (hk_prxS hE (hkS_H hH hAG hS) ⟨rfl, hP.right (w1 := [(wt, .inl (ct 0, 6, .inl wf))]), (hD.right (w1 := [(wt, .inl (ct 0, 6, .inl wf))])).weaken (fun _ _ _ h => hAG _ h)⟩) rfl rfl hl.1 rfl (lv_room (Nat.le_of_ble_eq_true rfl)) dL_law_642 ⟨by show _ ≤ 600130; omega, by show _ ≤ 7301080; omega⟩) rfl hP hD hS hA (congrArg Value.long h9.1) h9.2 (fun d H locs hP hD hS => ?_)
      have hP : va_P D vwCl ((wt, .inl (ct 0, 6, .inl wf)) :: hkW ct b d g) H := hP
      have hD : va_D (fun q : Nat => s.heap.size ≤ q) ((wt, .inl (ct 0, 6, .inl wf)) :: hkW ct b d g) := hD
      refine lv_lstore (lv' := [(14, .long (zL (-9000000000000000003))), (13, .int (nI 1)), (12, .int (nI j)), (11, .int (nI cn)), (0, .ref sb), (1, .ref (b 0)), (2, .int (nI 1)), (3, .int (nI (gN g))), (4, .int (nI (gc g))), (5, .ref wt), (6, .int (nI n)), (8, .int (nI y)), (9, .int (nI aa))]) hx hb dL_law_645 hl (by decide) rfl (fun ls hl => ?_)
      refine lv_iload hx hb dL_law_647 (lv_at hl 1 rfl) ?_
      refine hk_eq0N (tgt := 669) hx hb (by omega) dL_law_649 (by decide) (fun hq => absurd hq (by omega)) (fun _ => ?_)
      refine lv_lload hx hb dL_law_652 (lv_at hl 0 rfl) ?_
      refine hk_ldcz (v := (-9000000000000000003)) (n := (-9000000000000000003)) hx hb (by decide +kernel) hown (hts (.constantLong RL 17 (-9000000000000000003)) (by decide +kernel)) dL_law_654 ?_
      refine zq_ne (x := (-9000000000000000003)) (y := (-9000000000000000003)) (tgt := 665) hx hb (rfl) dL_law_657 dL_law_658 (by decide) ?_
      refine lv_iconst (v := nI 1) hx hb dL_law_661 (by decide) ?_
      refine lv_goto (tgt := 713) hx hb dL_law_662 (by decide) ?_
      refine lv_istore_n (lv' := [(2, .int (nI 1)), (14, .long (zL (-9000000000000000003))), (13, .int (nI 1)), (12, .int (nI j)), (11, .int (nI cn)), (0, .ref sb), (1, .ref (b 0)), (3, .int (nI (gN g))), (4, .int (nI (gc g))), (5, .ref wt), (6, .int (nI n)), (8, .int (nI y)), (9, .int (nI aa))]) hx hb dL_law_713 rfl hl (by decide) rfl (fun ls hl => ?_)
      refine W.widen (k := cl + 300) (n := sl + 2000) (by omega) (by omega) ?_
      exact kk d g wf H locs ls hI (hJ.mono (by omega)) h1 hW ha hP hD hS (lv_sub hl [5, 6, 0, 7, 8, 9, 10, 11, 12] rfl)
    · have hh0 : cz (gC g cn) j = 0 := by omega
      obtain ⟨g1, e_g1⟩ : ∃ q : Sg, q = gV g cn (rsU (gC g cn) j (nI t)) := ⟨_, rfl⟩
      have hI1 : Inv g1 := by rw [e_g1]; exact i_result hI hJ.2 hc hj ht1 ht2 hh0
      have hJ1 : Jg N g1 := by rw [e_g1]; exact jj_result hJ ht2
      have gN1 : gN g1 = gN g := by rw [e_g1]; rfl
      have gc1 : gc g1 = gc g := by rw [e_g1]; rfl
      have gC1 : gC g1 cn = rsU (gC g cn) j (nI t) := by rw [e_g1]; exact va_up_self _ _ _
      have hc1 : cn < gc g1 := by rw [gc1]; exact hc
      have hj1 : j < cW (gC g1 cn) := by rw [gC1]; exact hj
      have hz1 : cz (gC g1 cn) j = t := by rw [gC1]; exact cz_rs _ _ (by omega)
      have hsc : sc (rsU (gC g cn) j (nI t)) j = sc (gC g1 cn) j := by rw [gC1]
      have hsl := sc_le (hI1.2.2.2.2.2.2.2 cn) (hJ1.2 cn) hj1
      have hW1 : WF wf g1 := by rw [e_g1]; exact wf_rs hW
      have h9 := lwT (es := [(-9000000000000000001), (-9000000000000000002)]) (e_ofn hI hc hj (w := 1) (by omega) (by omega) hh0) (by decide : (-1 : Int32).toInt = -1)
      refine hk_LZ (wr := [(wt, .inl (ct 0, 6, .inl wf))]) (v := .long (zL (-1))) (g' := g) (rest := []) (vx_runSW (As := [.ref (b 0), .int (nI cn), .int (nI j), .int (nI 1)]) (rest := []) ⟨hx, hb, hml, hown, hts⟩ (c_L_of l hfl D ct sa s.heap.size H.size b d g (nI cn) (nI j) (nI 1) hI) (vx_cwSW 4 hts gL_law_L_of rfl rfl rfl (by decide +kernel) ⟨Nat.le_of_ble_eq_true rfl, Nat.le_of_ble_eq_true rfl⟩) (hk_prxS hE (hkS_H hH hAG hS) ⟨rfl, hP.right (w1 := [(wt, .inl (ct 0, 6, .inl wf))]), (hD.right (w1 := [(wt, .inl (ct 0, 6, .inl wf))])).weaken (fun _ _ _ h => hAG _ h)⟩) rfl rfl hl.1 rfl (lv_room (Nat.le_of_ble_eq_true rfl)) dL_law_612 ⟨by show _ ≤ 600130; omega, by show _ ≤ 7301080; omega⟩) rfl hP hD hS hA (congrArg Value.long h9.1) h9.2 (fun d H locs hP hD hS => ?_)
      have hP : va_P D vwCl ((wt, .inl (ct 0, 6, .inl wf)) :: hkW ct b d g) H := hP
      have hD : va_D (fun q : Nat => s.heap.size ≤ q) ((wt, .inl (ct 0, 6, .inl wf)) :: hkW ct b d g) := hD
      refine lv_lconst (v := zL 0) hx hb dL_law_615 rfl ?_
      refine zc_le (x := (-1)) (y := 0) (tgt := 624) hx hb (by omega) (by omega) (by omega) (by omega) dL_law_616 dL_law_617 (by decide) (fun _ => ?_) (fun hq => absurd hq (by omega))
      refine lv_iconst (v := nI 0) hx hb dL_law_624 (by decide) ?_
      refine lv_istore (lv' := [(13, .int (nI 0)), (12, .int (nI j)), (11, .int (nI cn)), (0, .ref sb), (1, .ref (b 0)), (2, .int (nI 1)), (3, .int (nI (gN g))), (4, .int (nI (gc g))), (5, .ref wt), (6, .int (nI n)), (8, .int (nI y)), (9, .int (nI aa))]) hx hb dL_law_625 hl (by decide) rfl (fun ls hl => ?_)
      refine lv_aload_n hx hb dL_law_627 rfl (lv_at hl 4 rfl) ?_
      refine lv_iload hx hb dL_law_628 (lv_at hl 2 rfl) ?_
      refine lv_iload hx hb dL_law_630 (lv_at hl 1 rfl) ?_
      refine lv_iconst (v := nI 1) hx hb dL_law_632 (by decide) ?_
      refine lv_iload hx hb dL_law_633 (lv_at hl 10 rfl) ?_
      refine lv_bipush (v := nI 64) hx hb dL_law_635 (by decide) ?_
      refine hk_divN hx hb (by omega) (by omega) (by omega) dL_law_637 ?_
      refine lv_ldc (v := nI 99999) hx hb hown (hts (.constant RL 154 99999) (by decide +kernel)) dL_law_638 ?_
      refine hk_remN hx hb (by omega) (by omega) (by omega) dL_law_640 ?_
      refine hk_addN hx hb dL_law_641 ?_
      refine hk_top (y := nI t) (congrArg nI e_t.symm) ?_
      have h9 := lwN (es := [(-9000000000000000001), (-9000000000000000002), (-9000000000000000003)]) (e_result hI hJ.2 hc hj ht1 ht2 hh0) (by omega)
      refine hk_LZ (wr := [(wt, .inl (ct 0, 6, .inl wf))]) (v := .long (zL ((sc (rsU (gC g cn) j (nI t)) j : Nat) : Int))) (g' := g1) (rest := []) (vx_runSW (As := [.ref (b 0), .int (nI cn), .int (nI j), .int (nI t)]) (rest := []) ⟨hx, hb, hml, hown, hts⟩ (c_L_result l hfl D ct sa s.heap.size H.size b d g (nI cn) (nI j) (nI t) hI) (vx_cwSW 4 hts gL_law_L_result rfl rfl rfl (by decide +kernel) ⟨Nat.le_of_ble_eq_true rfl, Nat.le_of_ble_eq_true rfl⟩) (hk_prxS hE (hkS_H hH hAG hS) ⟨rfl, hP.right (w1 := [(wt, .inl (ct 0, 6, .inl wf))]), (hD.right (w1 := [(wt, .inl (ct 0, 6, .inl wf))])).weaken (fun _ _ _ h => hAG _ h)⟩) rfl rfl hl.1 rfl (lv_room (Nat.le_of_ble_eq_true rfl)) dL_law_642 ⟨by show _ ≤ 600130; omega, by show _ ≤ 7301080; omega⟩) rfl hP hD hS hA (congrArg Value.long h9.1) (h9.2.trans e_g1.symm) (fun d H locs hP hD hS => ?_)
      have hP : va_P D vwCl ((wt, .inl (ct 0, 6, .inl wf)) :: hkW ct b d g1) H := hP
      have hD : va_D (fun q : Nat => s.heap.size ≤ q) ((wt, .inl (ct 0, 6, .inl wf)) :: hkW ct b d g1) := hD
      refine lv_lstore (lv' := [(14, .long (zL ((sc (rsU (gC g cn) j (nI t)) j : Nat) : Int))), (13, .int (nI 0)), (12, .int (nI j)), (11, .int (nI cn)), (0, .ref sb), (1, .ref (b 0)), (2, .int (nI 1)), (3, .int (nI (gN g))), (4, .int (nI (gc g))), (5, .ref wt), (6, .int (nI n)), (8, .int (nI y)), (9, .int (nI aa))]) hx hb dL_law_645 hl (by decide) rfl (fun ls hl => ?_)
      refine lv_iload hx hb dL_law_647 (lv_at hl 1 rfl) ?_
      refine hk_eq0N (tgt := 669) hx hb (by omega) dL_law_649 (by decide) (fun _ => ?_) (fun hq => absurd hq (by omega))
      refine lv_lload hx hb dL_law_669 (lv_at hl 0 rfl) ?_
      refine lv_aload_n hx hb dL_law_671 rfl (lv_at hl 5 rfl) ?_
      refine lv_iload hx hb dL_law_672 (lv_at hl 3 rfl) ?_
      refine lv_iload hx hb dL_law_674 (lv_at hl 2 rfl) ?_
      refine lv_iconst (v := nI 2) hx hb dL_law_676 (by decide) ?_
      have h9 := lwN (es := [(-9000000000000000001), (-9000000000000000002)]) (e_of2 hI1 hJ1.2 hc1 hj1 (by omega)) (by omega)
      refine hk_LZ (wr := [(wt, .inl (ct 0, 6, .inl wf))]) (v := .long (zL ((sc (gC g1 cn) j : Nat) : Int))) (g' := g1) (rest := [.long (zL ((sc (rsU (gC g cn) j (nI t)) j : Nat) : Int))]) (vx_runSW (As := [.ref (b 0), .int (nI cn), .int (nI j), .int (nI 2)]) (rest := [.long (zL ((sc (rsU (gC g cn) j (nI t)) j : Nat) : Int))]) ⟨hx, hb, hml, hown, hts⟩ (c_L_of l hfl D ct sa s.heap.size H.size b d g1 (nI cn) (nI j) (nI 2) hI1) (vx_cwSW 4 hts gL_law_L_of rfl rfl rfl (by decide +kernel) ⟨Nat.le_of_ble_eq_true rfl, Nat.le_of_ble_eq_true rfl⟩) (hk_prxS hE (hkS_H hH hAG hS) ⟨rfl, hP.right (w1 := [(wt, .inl (ct 0, 6, .inl wf))]), (hD.right (w1 := [(wt, .inl (ct 0, 6, .inl wf))])).weaken (fun _ _ _ h => hAG _ h)⟩) rfl rfl hl.1 rfl (lv_room (Nat.le_of_ble_eq_true rfl)) dL_law_677 ⟨by show _ ≤ 600130; omega, by show _ ≤ 7301080; omega⟩) rfl hP hD hS hA (congrArg Value.long h9.1) h9.2 (fun d H locs hP hD hS => ?_)
      have hP : va_P D vwCl ((wt, .inl (ct 0, 6, .inl wf)) :: hkW ct b d g1) H := hP
      have hD : va_D (fun q : Nat => s.heap.size ≤ q) ((wt, .inl (ct 0, 6, .inl wf)) :: hkW ct b d g1) := hD
      refine zq_ne (x := ((sc (rsU (gC g cn) j (nI t)) j : Nat) : Int)) (y := ((sc (gC g1 cn) j : Nat) : Int)) (tgt := 712) hx hb (by rw [hsc]) dL_law_680 dL_law_681 (by decide) ?_
      refine lv_aload_n hx hb dL_law_684 rfl (lv_at hl 5 rfl) ?_
      refine lv_iload hx hb dL_law_685 (lv_at hl 3 rfl) ?_
      refine lv_iload hx hb dL_law_687 (lv_at hl 2 rfl) ?_
      refine lv_iconst (v := nI 1) hx hb dL_law_689 (by decide) ?_
      have h9 := lwN (es := [(-9000000000000000001), (-9000000000000000002)]) (e_of1 hI1 hc1 hj1 (by omega)) (by omega)
      refine hk_LZ (wr := [(wt, .inl (ct 0, 6, .inl wf))]) (v := .long (zL ((cz (gC g1 cn) j : Nat) : Int))) (g' := g1) (rest := []) (vx_runSW (As := [.ref (b 0), .int (nI cn), .int (nI j), .int (nI 1)]) (rest := []) ⟨hx, hb, hml, hown, hts⟩ (c_L_of l hfl D ct sa s.heap.size H.size b d g1 (nI cn) (nI j) (nI 1) hI1) (vx_cwSW 4 hts gL_law_L_of rfl rfl rfl (by decide +kernel) ⟨Nat.le_of_ble_eq_true rfl, Nat.le_of_ble_eq_true rfl⟩) (hk_prxS hE (hkS_H hH hAG hS) ⟨rfl, hP.right (w1 := [(wt, .inl (ct 0, 6, .inl wf))]), (hD.right (w1 := [(wt, .inl (ct 0, 6, .inl wf))])).weaken (fun _ _ _ h => hAG _ h)⟩) rfl rfl hl.1 rfl (lv_room (Nat.le_of_ble_eq_true rfl)) dL_law_690 ⟨by show _ ≤ 600130; omega, by show _ ≤ 7301080; omega⟩) rfl hP hD hS hA (congrArg Value.long h9.1) h9.2 (fun d H locs hP hD hS => ?_)
      have hP : va_P D vwCl ((wt, .inl (ct 0, 6, .inl wf)) :: hkW ct b d g1) H := hP
      have hD : va_D (fun q : Nat => s.heap.size ≤ q) ((wt, .inl (ct 0, 6, .inl wf)) :: hkW ct b d g1) := hD
      refine lv_iconst (v := nI 1) hx hb dL_law_693 (by decide) ?_
      refine lv_iload hx hb dL_law_694 (lv_at hl 11 rfl) ?_
      refine lv_bipush (v := nI 64) hx hb dL_law_696 (by decide) ?_
      refine hk_divN hx hb (by omega) (by omega) (by omega) dL_law_698 ?_
      refine lv_ldc (v := nI 99999) hx hb hown (hts (.constant RL 154 99999) (by decide +kernel)) dL_law_699 ?_
      refine hk_remN hx hb (by omega) (by omega) (by omega) dL_law_701 ?_
      refine hk_addN hx hb dL_law_702 ?_
      refine hk_top (y := nI t) (congrArg nI e_t.symm) ?_
      refine hk_i2lz (n := t) hx hb (by omega) dL_law_703 ?_
      refine zq_ne (x := ((cz (gC g1 cn) j : Nat) : Int)) (y := ((t : Nat) : Int)) (tgt := 712) hx hb (by rw [hz1]) dL_law_704 dL_law_705 (by decide) ?_
      refine lv_iconst (v := nI 1) hx hb dL_law_708 (by decide) ?_
      refine lv_goto (tgt := 713) hx hb dL_law_709 (by decide) ?_
      refine lv_istore_n (lv' := [(2, .int (nI 1)), (14, .long (zL ((sc (rsU (gC g cn) j (nI t)) j : Nat) : Int))), (13, .int (nI 0)), (12, .int (nI j)), (11, .int (nI cn)), (0, .ref sb), (1, .ref (b 0)), (3, .int (nI (gN g))), (4, .int (nI (gc g))), (5, .ref wt), (6, .int (nI n)), (8, .int (nI y)), (9, .int (nI aa))]) hx hb dL_law_713 rfl hl (by decide) rfl (fun ls hl => ?_)
      refine W.widen (k := cl + 300) (n := sl + 2000) (by omega) (by omega) ?_
      exact kk d g1 wf H locs ls hI1 (hJ1.mono (by omega)) (by rw [gN1]; exact h1) hW1 (by rw [gN1]; exact ha) hP hD hS (by rw [gN1, gc1]; exact lv_sub hl [5, 6, 0, 7, 8, 9, 10, 11, 12] rfl)
