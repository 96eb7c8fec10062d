theorem ex_at {u : St} (h : Ist u) {a b : Nat} (ha : a < 12) (hb : b < 12) (hab : a ≠ b) : sK (exU u a b) (sL u a) = b := by
  show (if sL u a = sL u b then a else if sL u a = sL u a then b else sK u (sL u a)) = b
  rw [if_neg (KL_inj h ha hb hab), if_pos rfl]
set_option maxHeartbeats 4000000 in
set_option maxRecDepth 100000 in
theorem lw_c_B {p : Program} {e : Env} {s : State} {m : MethodId} {below : List Frame} {meth : Method} {c : Code} (l : Launch) (hfl : l.flags = flags0) {D : va_G} {ct : Nat → ClassId} {sa : Nat → Nat} {sb L : Nat} {xs : Nat → Int32} {b : Nat → Nat} {wt : Nat} (hL : L ≤ 260) (C0 : lw_At p s m meth c sb L xs) (hE : hkE D ct sa s) (hH0 : hkH s.heap.size s s.heap) {n cl sl N y aa : Nat} (hcl : cl + 3900 ≤ 600130) (hsl : sl + 29000 ≤ 7301080) (hN : N ≤ 900) (hn : n < 50) (hy : y < 2 ^ 31) {g : Sg} {d : Ad} {wf : Nat → Int32} {H : Heap} {locs : List Loc} {ls : Array Slot} (hI : Inv g) (hJ : Jg N g) (h1 : 1 ≤ gN g) (hW : WF wf g) (ha : aa < gN g) (hP : va_P D vwCl ((wt, .inl (ct 0, 6, .inl wf)) :: hkW ct b d g) H) (hD : va_D (fun q : Nat => s.heap.size ≤ q) ((wt, .inl (ct 0, 6, .inl wf)) :: hkW ct b d g)) (hS : va_S (fun q : Nat => s.heap.size ≤ q) s.heap H locs) (hl : lv_has ls 21 [(0, .ref sb), (1, .ref (b 0)), (2, .int (nI 1)), (3, .int (nI (gN g))), (4, .int (nI (gc g))), (5, .ref wt), (6, .int (nI n)), (8, .int (nI y)), (9, .int (nI aa))]) (kk : ∀ (d' : Ad) (g' : Sg) (wf' : Nat → Int32) (H1 : Heap) (locs1 : List Loc) (ls1 : Array Slot), Inv g' → Jg (N + 3) g' → 1 ≤ gN g' → WF wf' g' → aa < gN g' → va_P D vwCl ((wt, .inl (ct 0, 6, .inl wf')) :: hkW ct b d' g') H1 → va_D (fun q : Nat => s.heap.size ≤ q) ((wt, .inl (ct 0, 6, .inl wf')) :: hkW ct b d' g') → va_S (fun q : Nat => s.heap.size ≤ q) s.heap H1 locs1 → lv_has ls1 21 [(0, .ref sb), (1, .ref (b 0)), (2, .int (nI 1)), (3, .int (nI (gN g'))), (4, .int (nI (gc g'))), (5, .ref wt), (6, .int (nI n)), (8, .int (nI y)), (9, .int (nI aa))] → W p l e room_1 s m #[Value.ref sb] below meth c H1 locs1 (cl + 300) (sl + 2000) (lw_Z below #[Value.ref sb] s) (F0 m 714 ls1 [])) : W p l e room_1 s m #[Value.ref sb] below meth c H locs cl sl (lw_Z below #[Value.ref sb] s) (F0 m 234 ls []) := by
  have C1 := C0
  obtain ⟨hx, hb, hr, hml, hown, hts, hX, hbl, hlocks, hgv⟩ := C0
  have hts : ∀ w ∈ wsL_law, w.before #[Value.ref sb] s = true := fun w h => hts w (wsL_law_in w h)
  have hA : ∀ q : Nat, s.heap.size ≤ q → (fun q : Nat => s.heap.size ≤ q) q := fun _ h => h
  have hAG : ∀ q : Nat, (fun q : Nat => s.heap.size ≤ q) q → s.heap.size ≤ q := fun _ h => h
  have hbA : ¬ (fun q : Nat => s.heap.size ≤ q) sb := Nat.not_le.mpr hbl
  have hH := hH0
  have hb : c.code = cL_law := hb
  have hN5 : gN g ≤ 5 := hI.1
  have hc6 : gc g ≤ 6 := hI.2.2.1
  have hu : Ist (gS g aa) := hI.2.2.2.1 aa
  have hj : Jst N (gS g aa) := hJ.1 aa
  have htZ := tZ_le hu
  have hall : sm (cS (gS g aa)) 12 ≤ 1000 := Nat.le_trans hj.2.2.2.2.2.1 (Nat.le_trans hj.2.2.2.2.1 (by omega))
  refine lv_iload hx hb dL_law_234 (lv_at hl 7 rfl) ?_
  refine lv_bipush (v := nI 12) hx hb dL_law_236 (by decide) ?_
  refine hk_remN hx hb (by omega) (by omega) (by omega) dL_law_238 ?_
  refine lv_istore (lv' := [(11, .int (nI (y % 12))), (0, .ref sb), (1, .ref (b 0)), (2, .int (nI 1)), (3, .int (nI (gN g))), (4, .int (nI (gc g))), (5, .ref wt), (6, .int (nI n)), (8, .int (nI y)), (9, .int (nI aa))]) hx hb dL_law_239 hl (by decide) rfl (fun ls hl => ?_)
  refine lv_iload hx hb dL_law_241 (lv_at hl 0 rfl) ?_
  refine lv_iconst (v := nI 1) hx hb dL_law_243 (by decide) ?_
  refine hk_addN hx hb dL_law_244 ?_
  refine lv_iload hx hb dL_law_245 (lv_at hl 8 rfl) ?_
  refine lv_bipush (v := nI 16) hx hb dL_law_247 (by decide) ?_
  refine hk_divN hx hb (by omega) (by omega) (by omega) dL_law_249 ?_
  refine lv_bipush (v := nI 11) hx hb dL_law_250 (by decide) ?_
  refine hk_remN hx hb (by omega) (by omega) (by omega) dL_law_252 ?_
  refine hk_addN hx hb dL_law_253 ?_
  refine lv_bipush (v := nI 12) hx hb dL_law_254 (by decide) ?_
  refine hk_remN hx hb (by omega) (by omega) (by omega) dL_law_256 ?_
  refine lv_istore (lv' := [(12, .int (nI ((((y % 12) + 1) + ((y / 16) % 11)) % 12))), (11, .int (nI (y % 12))), (0, .ref sb), (1, .ref (b 0)), (2, .int (nI 1)), (3, .int (nI (gN g))), (4, .int (nI (gc g))), (5, .ref wt), (6, .int (nI n)), (8, .int (nI y)), (9, .int (nI aa))]) hx hb dL_law_257 hl (by decide) rfl (fun ls hl => ?_)
  have hk9 : y % 12 < 12 := by omega
  have ho9 : (((y % 12) + 1) + ((y / 16) % 11)) % 12 < 12 := by omega
  have hko : y % 12 ≠ (((y % 12) + 1) + ((y / 16) % 11)) % 12 := by omega
  have hL9 : sL (gS g aa) (y % 12) < 12 := hu.2.1 _ hk9
  refine lv_aload_n hx hb dL_law_259 rfl (lv_at hl 3 rfl) ?_
  refine lv_iload hx hb dL_law_260 (lv_at hl 10 rfl) ?_
  have h9 := lwN (es := [(-9000000000000000001)]) (e_time hI ha) (by omega)
  refine hk_LZ (wr := [(wt, .inl (ct 0, 6, .inl wf))]) (v := .long (zL ((tZ (gS g aa) : Nat) : Int))) (g' := g) (rest := []) (vx_runSW (As := [.ref (b 0), .int (nI aa)]) (rest := []) ⟨hx, hb, hml, hown, hts⟩ (c_L_time l hfl D ct sa s.heap.size H.size b d g (nI aa) hI) (vx_cwSW 2 hts gL_law_L_time rfl rfl rfl (by decide +kernel) ⟨Nat.le_of_ble_eq_true rfl, Nat.le_of_ble_eq_true rfl⟩) (hk_prxS hE (hkS_H hH hAG hS) ⟨rfl, hP.right (w1 := [(wt, .inl (ct 0, 6, .inl wf))]), (hD.right (w1 := [(wt, .inl (ct 0, 6, .inl wf))])).weaken (fun _ _ _ h => hAG _ h)⟩) rfl rfl hl.1 rfl (lv_room (Nat.le_of_ble_eq_true rfl)) dL_law_262 ⟨by show _ ≤ 600130; omega, by show _ ≤ 7301080; omega⟩) rfl hP hD hS hA (congrArg Value.long h9.1) h9.2 (fun d H locs hP hD hS => ?_)
  have hP : va_P D vwCl ((wt, .inl (ct 0, 6, .inl wf)) :: hkW ct b d g) H := hP
  have hD : va_D (fun q : Nat => s.heap.size ≤ q) ((wt, .inl (ct 0, 6, .inl wf)) :: hkW ct b d g) := hD
  refine lv_lstore (lv' := [(13, .long (zL ((tZ (gS g aa) : Nat) : Int))), (12, .int (nI ((((y % 12) + 1) + ((y / 16) % 11)) % 12))), (11, .int (nI (y % 12))), (0, .ref sb), (1, .ref (b 0)), (2, .int (nI 1)), (3, .int (nI (gN g))), (4, .int (nI (gc g))), (5, .ref wt), (6, .int (nI n)), (8, .int (nI y)), (9, .int (nI aa))]) hx hb dL_law_265 hl (by decide) rfl (fun ls hl => ?_)
  refine lv_aload_n hx hb dL_law_267 rfl (lv_at hl 4 rfl) ?_
  refine lv_iload hx hb dL_law_268 (lv_at hl 11 rfl) ?_
  refine lv_iload hx hb dL_law_270 (lv_at hl 2 rfl) ?_
  have h9 := lwN (es := [(-9000000000000000001)]) (e_letterOn hI ha hk9) (by omega)
  refine hk_LZ (wr := [(wt, .inl (ct 0, 6, .inl wf))]) (v := .long (zL ((sL (gS g aa) (y % 12) : Nat) : Int))) (g' := g) (rest := []) (vx_runSW (As := [.ref (b 0), .int (nI aa), .int (nI (y % 12))]) (rest := []) ⟨hx, hb, hml, hown, hts⟩ (c_L_letterOn l hfl D ct sa s.heap.size H.size b d g (nI aa) (nI (y % 12)) hI) (vx_cwSW 3 hts gL_law_L_letterOn rfl rfl rfl (by decide +kernel) ⟨Nat.le_of_ble_eq_true rfl, Nat.le_of_ble_eq_true rfl⟩) (hk_prxS hE (hkS_H hH hAG hS) ⟨rfl, hP.right (w1 := [(wt, .inl (ct 0, 6, .inl wf))]), (hD.right (w1 := [(wt, .inl (ct 0, 6, .inl wf))])).weaken (fun _ _ _ h => hAG _ h)⟩) rfl rfl hl.1 rfl (lv_room (Nat.le_of_ble_eq_true rfl)) dL_law_272 ⟨by show _ ≤ 600130; omega, by show _ ≤ 7301080; omega⟩) rfl hP hD hS hA (congrArg Value.long h9.1) h9.2 (fun d H locs hP hD hS => ?_)
  have hP : va_P D vwCl ((wt, .inl (ct 0, 6, .inl wf)) :: hkW ct b d g) H := hP
  have hD : va_D (fun q : Nat => s.heap.size ≤ q) ((wt, .inl (ct 0, 6, .inl wf)) :: hkW ct b d g) := hD
  refine lv_lstore (lv' := [(15, .long (zL ((sL (gS g aa) (y % 12) : Nat) : Int))), (13, .long (zL ((tZ (gS g aa) : Nat) : Int))), (12, .int (nI ((((y % 12) + 1) + ((y / 16) % 11)) % 12))), (11, .int (nI (y % 12))), (0, .ref sb), (1, .ref (b 0)), (2, .int (nI 1)), (3, .int (nI (gN g))), (4, .int (nI (gc g))), (5, .ref wt), (6, .int (nI n)), (8, .int (nI y)), (9, .int (nI aa))]) hx hb dL_law_275 hl (by decide) rfl (fun ls hl => ?_)
  refine lv_aload_n hx hb dL_law_277 rfl (lv_at hl 5 rfl) ?_
  refine lv_iload hx hb dL_law_278 (lv_at hl 12 rfl) ?_
  refine lv_iconst (v := nI 3) hx hb dL_law_280 (by decide) ?_
  refine lv_iconst (v := nI 0) hx hb dL_law_281 (by decide) ?_
  have h9 := lwN (es := [(-9000000000000000001), (-9000000000000000002)]) (e_slips hI ha (grk_ok (n := 1) (by decide) (show 0 < 1 by omega) (by omega)) (sl_a hj)) (by omega)
  refine hk_LZ (wr := [(wt, .inl (ct 0, 6, .inl wf))]) (v := .long (zL ((sm (cS (gS g aa)) 12 : Nat) : Int))) (g' := g) (rest := []) (vx_runSW (As := [.ref (b 0), .int (nI aa), .int (nI 3), .int (nI 0)]) (rest := []) ⟨hx, hb, hml, hown, hts⟩ (c_L_slips l hfl D ct sa s.heap.size H.size b d g (nI aa) (nI 3) (nI 0) hI) (vx_cwSW 4 hts gL_law_L_slips rfl rfl rfl (by decide +kernel) ⟨Nat.le_of_ble_eq_true rfl, Nat.le_of_ble_eq_true rfl⟩) (hk_prxS hE (hkS_H hH hAG hS) ⟨rfl, hP.right (w1 := [(wt, .inl (ct 0, 6, .inl wf))]), (hD.right (w1 := [(wt, .inl (ct 0, 6, .inl wf))])).weaken (fun _ _ _ h => hAG _ h)⟩) rfl rfl hl.1 rfl (lv_room (Nat.le_of_ble_eq_true rfl)) dL_law_282 ⟨by show _ ≤ 600130; omega, by show _ ≤ 7301080; omega⟩) rfl hP hD hS hA (congrArg Value.long h9.1) h9.2 (fun d H locs hP hD hS => ?_)
  have hP : va_P D vwCl ((wt, .inl (ct 0, 6, .inl wf)) :: hkW ct b d g) H := hP
  have hD : va_D (fun q : Nat => s.heap.size ≤ q) ((wt, .inl (ct 0, 6, .inl wf)) :: hkW ct b d g) := hD
  refine lv_lstore (lv' := [(17, .long (zL ((sm (cS (gS g aa)) 12 : Nat) : Int))), (15, .long (zL ((sL (gS g aa) (y % 12) : Nat) : Int))), (13, .long (zL ((tZ (gS g aa) : Nat) : Int))), (12, .int (nI ((((y % 12) + 1) + ((y / 16) % 11)) % 12))), (11, .int (nI (y % 12))), (0, .ref sb), (1, .ref (b 0)), (2, .int (nI 1)), (3, .int (nI (gN g))), (4, .int (nI (gc g))), (5, .ref wt), (6, .int (nI n)), (8, .int (nI y)), (9, .int (nI aa))]) hx hb dL_law_285 hl (by decide) rfl (fun ls hl => ?_)
  refine lv_aload_n hx hb dL_law_287 rfl (lv_at hl 6 rfl) ?_
  refine lv_iload hx hb dL_law_288 (lv_at hl 13 rfl) ?_
  refine lv_iload hx hb dL_law_290 (lv_at hl 4 rfl) ?_
  refine lv_iload hx hb dL_law_292 (lv_at hl 3 rfl) ?_
  have h9 := lwT (es := [(-9000000000000000001), (-9000000000000000002)]) (e_saves hI ha hk9 ho9 hko) (sv_sZ hu _ _)
  refine hk_LZ (wr := [(wt, .inl (ct 0, 6, .inl wf))]) (v := .long (zL (sZ (gS g aa) (y % 12) ((((y % 12) + 1) + ((y / 16) % 11)) % 12)))) (g' := g) (rest := []) (vx_runSW (As := [.ref (b 0), .int (nI aa), .int (nI (y % 12)), .int (nI ((((y % 12) + 1) + ((y / 16) % 11)) % 12))]) (rest := []) ⟨hx, hb, hml, hown, hts⟩ (c_L_saves l hfl D ct sa s.heap.size H.size b d g (nI aa) (nI (y % 12)) (nI ((((y % 12) + 1) + ((y / 16) % 11)) % 12)) hI) (vx_cwSW 4 hts gL_law_L_saves rfl rfl rfl (by decide +kernel) ⟨Nat.le_of_ble_eq_true rfl, Nat.le_of_ble_eq_true rfl⟩) (hk_prxS hE (hkS_H hH hAG hS) ⟨rfl, hP.right (w1 := [(wt, .inl (ct 0, 6, .inl wf))]), (hD.right (w1 := [(wt, .inl (ct 0, 6, .inl wf))])).weaken (fun _ _ _ h => hAG _ h)⟩) rfl rfl hl.1 rfl (lv_room (Nat.le_of_ble_eq_true rfl)) dL_law_294 ⟨by show _ ≤ 600130; omega, by show _ ≤ 7301080; omega⟩) rfl hP hD hS hA (congrArg Value.long h9.1) h9.2 (fun d H locs hP hD hS => ?_)
  have hP : va_P D vwCl ((wt, .inl (ct 0, 6, .inl wf)) :: hkW ct b d g) H := hP
  have hD : va_D (fun q : Nat => s.heap.size ≤ q) ((wt, .inl (ct 0, 6, .inl wf)) :: hkW ct b d g) := hD
  obtain ⟨g1, e_g1⟩ : ∃ q : Sg, q = gU g aa (exU (gS g aa) (y % 12) ((((y % 12) + 1) + ((y / 16) % 11)) % 12)) := ⟨_, rfl⟩
  refine lv_lstore (lv' := [(19, .long (zL (sZ (gS g aa) (y % 12) ((((y % 12) + 1) + ((y / 16) % 11)) % 12)))), (17, .long (zL ((sm (cS (gS g aa)) 12 : Nat) : Int))), (15, .long (zL ((sL (gS g aa) (y % 12) : Nat) : Int))), (13, .long (zL ((tZ (gS g aa) : Nat) : Int))), (12, .int (nI ((((y % 12) + 1) + ((y / 16) % 11)) % 12))), (11, .int (nI (y % 12))), (0, .ref sb), (1, .ref (b 0)), (2, .int (nI 1)), (3, .int (nI (gN g))), (4, .int (nI (gc g))), (5, .ref wt), (6, .int (nI n)), (8, .int (nI y)), (9, .int (nI aa))]) hx hb dL_law_297 hl (by decide) rfl (fun ls hl => ?_)
  refine lv_aload_n hx hb dL_law_299 rfl (lv_at hl 7 rfl) ?_
  refine lv_iload hx hb dL_law_300 (lv_at hl 14 rfl) ?_
  refine lv_iload hx hb dL_law_302 (lv_at hl 5 rfl) ?_
  refine lv_iload hx hb dL_law_304 (lv_at hl 4 rfl) ?_
  have h9 := lwT (es := [(-9000000000000000001), (-9000000000000000002)]) (e_swap hI ha hk9 ho9 hko) (sv_sZ hu _ _)
  refine hk_LZ (wr := [(wt, .inl (ct 0, 6, .inl wf))]) (v := .long (zL (sZ (gS g aa) (y % 12) ((((y % 12) + 1) + ((y / 16) % 11)) % 12)))) (g' := g1) (rest := []) (vx_runSW (As := [.ref (b 0), .int (nI aa), .int (nI (y % 12)), .int (nI ((((y % 12) + 1) + ((y / 16) % 11)) % 12))]) (rest := []) ⟨hx, hb, hml, hown, hts⟩ (c_L_swap l hfl D ct sa s.heap.size H.size b d g (nI aa) (nI (y % 12)) (nI ((((y % 12) + 1) + ((y / 16) % 11)) % 12)) hI) (vx_cwSW 4 hts gL_law_L_swap rfl rfl rfl (by decide +kernel) ⟨Nat.le_of_ble_eq_true rfl, Nat.le_of_ble_eq_true rfl⟩) (hk_prxS hE (hkS_H hH hAG hS) ⟨rfl, hP.right (w1 := [(wt, .inl (ct 0, 6, .inl wf))]), (hD.right (w1 := [(wt, .inl (ct 0, 6, .inl wf))])).weaken (fun _ _ _ h => hAG _ h)⟩) rfl rfl hl.1 rfl (lv_room (Nat.le_of_ble_eq_true rfl)) dL_law_306 ⟨by show _ ≤ 600130; omega, by show _ ≤ 7301080; omega⟩) rfl hP hD hS hA (congrArg Value.long h9.1) (h9.2.trans e_g1.symm) (fun d H locs hP hD hS => ?_)
  have hP : va_P D vwCl ((wt, .inl (ct 0, 6, .inl wf)) :: hkW ct b d g1) H := hP
  have hD : va_D (fun q : Nat => s.heap.size ≤ q) ((wt, .inl (ct 0, 6, .inl wf)) :: hkW ct b d g1) := hD
  have hI1 : Inv g1 := by rw [e_g1]; exact i_swap hI ha hk9 ho9 hko
  have hJ1 : Jg N g1 := by rw [e_g1]; exact jj_swap hI hJ hk9 ho9 hko
  have gN1 : gN g1 = gN g := by rw [e_g1]; rfl
  have gc1 : gc g1 = gc g := by rw [e_g1]; rfl
  have gC1 : gC g1 = gC g := by rw [e_g1]; rfl
  have ha1 : aa < gN g1 := by rw [gN1]; exact ha
  have eu : (gS g1 aa) = exU (gS g aa) (y % 12) ((((y % 12) + 1) + ((y / 16) % 11)) % 12) := by rw [e_g1]; exact va_up_self _ _ _
  have ht1 : (tZ (gS g1 aa) : Int) = (tZ (gS g aa) : Int) - sZ (gS g aa) (y % 12) ((((y % 12) + 1) + ((y / 16) % 11)) % 12) := by rw [eu]; exact tZ_ex hu hj hk9 ho9 hko
  have htZ1 := tZ_le (hI1.2.2.2.1 aa)
  have hs1 : sm (cS (gS g1 aa)) 12 = sm (cS (gS g aa)) 12 := by rw [eu]; exact (exS_sm hj hk9 ho9 hko).2
  have hk1 : sK (gS g1 aa) (sL (gS g aa) (y % 12)) = (((y % 12) + 1) + ((y / 16) % 11)) % 12 := by rw [eu]; exact ex_at hu hk9 ho9 hko
  refine lv_lload hx hb dL_law_309 (lv_at hl 0 rfl) ?_
  refine zq_ne (x := (sZ (gS g aa) (y % 12) ((((y % 12) + 1) + ((y / 16) % 11)) % 12))) (y := (sZ (gS g aa) (y % 12) ((((y % 12) + 1) + ((y / 16) % 11)) % 12))) (tgt := 364) hx hb (rfl) dL_law_311 dL_law_312 (by decide) ?_
  refine lv_aload_n hx hb dL_law_315 rfl (lv_at hl 7 rfl) ?_
  refine lv_iload hx hb dL_law_316 (lv_at hl 14 rfl) ?_
  have h9 := lwN (es := [(-9000000000000000001)]) (e_time hI1 ha1) (by omega)
  refine hk_LZ (wr := [(wt, .inl (ct 0, 6, .inl wf))]) (v := .long (zL ((tZ (gS g1 aa) : Nat) : Int))) (g' := g1) (rest := []) (vx_runSW (As := [.ref (b 0), .int (nI aa)]) (rest := []) ⟨hx, hb, hml, hown, hts⟩ (c_L_time l hfl D ct sa s.heap.size H.size b d g1 (nI aa) hI1) (vx_cwSW 2 hts gL_law_L_time rfl rfl rfl (by decide +kernel) ⟨Nat.le_of_ble_eq_true rfl, Nat.le_of_ble_eq_true rfl⟩) (hk_prxS hE (hkS_H hH hAG hS) ⟨rfl, hP.right (w1 := [(wt, .inl (ct 0, 6, .inl wf))]), (hD.right (w1 := [(wt, .inl (ct 0, 6, .inl wf))])).weaken (fun _ _ _ h => hAG _ h)⟩) rfl rfl hl.1 rfl (lv_room (Nat.le_of_ble_eq_true rfl)) dL_law_318 ⟨by show _ ≤ 600130; omega, by show _ ≤ 7301080; omega⟩) rfl hP hD hS hA (congrArg Value.long h9.1) h9.2 (fun d H locs hP hD hS => ?_)
  have hP : va_P D vwCl ((wt, .inl (ct 0, 6, .inl wf)) :: hkW ct b d g1) H := hP
  have hD : va_D (fun q : Nat => s.heap.size ≤ q) ((wt, .inl (ct 0, 6, .inl wf)) :: hkW ct b d g1) := hD
  refine lv_lload hx hb dL_law_321 (lv_at hl 3 rfl) ?_
  refine lv_lload hx hb dL_law_323 (lv_at hl 0 rfl) ?_
  refine hk_lsubz (x := ((tZ (gS g aa) : Nat) : Int)) (y := (sZ (gS g aa) (y % 12) ((((y % 12) + 1) + ((y / 16) % 11)) % 12))) hx hb dL_law_325 ?_
  refine zq_ne (x := ((tZ (gS g1 aa) : Nat) : Int)) (y := (((tZ (gS g aa) : Nat) : Int) - (sZ (gS g aa) (y % 12) ((((y % 12) + 1) + ((y / 16) % 11)) % 12)))) (tgt := 364) hx hb (ht1) dL_law_326 dL_law_327 (by decide) ?_
  refine lv_aload_n hx hb dL_law_330 rfl (lv_at hl 7 rfl) ?_
  refine lv_iload hx hb dL_law_331 (lv_at hl 14 rfl) ?_
  refine lv_lload hx hb dL_law_333 (lv_at hl 2 rfl) ?_
  refine hk_l2iz (n := sL (gS g aa) (y % 12)) hx hb dL_law_335 ?_
  have h9 := lwN (es := [(-9000000000000000001)]) (e_keyOf hI1 ha1 hL9) (by omega)
  refine hk_LZ (wr := [(wt, .inl (ct 0, 6, .inl wf))]) (v := .long (zL ((sK (gS g1 aa) (sL (gS g aa) (y % 12)) : Nat) : Int))) (g' := g1) (rest := []) (vx_runSW (As := [.ref (b 0), .int (nI aa), .int (nI (sL (gS g aa) (y % 12)))]) (rest := []) ⟨hx, hb, hml, hown, hts⟩ (c_L_keyOf l hfl D ct sa s.heap.size H.size b d g1 (nI aa) (nI (sL (gS g aa) (y % 12))) hI1) (vx_cwSW 3 hts gL_law_L_keyOf rfl rfl rfl (by decide +kernel) ⟨Nat.le_of_ble_eq_true rfl, Nat.le_of_ble_eq_true rfl⟩) (hk_prxS hE (hkS_H hH hAG hS) ⟨rfl, hP.right (w1 := [(wt, .inl (ct 0, 6, .inl wf))]), (hD.right (w1 := [(wt, .inl (ct 0, 6, .inl wf))])).weaken (fun _ _ _ h => hAG _ h)⟩) rfl rfl hl.1 rfl (lv_room (Nat.le_of_ble_eq_true rfl)) dL_law_336 ⟨by show _ ≤ 600130; omega, by show _ ≤ 7301080; omega⟩) rfl hP hD hS hA (congrArg Value.long h9.1) h9.2 (fun d H locs hP hD hS => ?_)
  have hP : va_P D vwCl ((wt, .inl (ct 0, 6, .inl wf)) :: hkW ct b d g1) H := hP
  have hD : va_D (fun q : Nat => s.heap.size ≤ q) ((wt, .inl (ct 0, 6, .inl wf)) :: hkW ct b d g1) := hD
  refine lv_iload hx hb dL_law_339 (lv_at hl 4 rfl) ?_
  refine hk_i2lz (n := (((y % 12) + 1) + ((y / 16) % 11)) % 12) hx hb (by omega) dL_law_341 ?_
  refine zq_ne (x := ((sK (gS g1 aa) (sL (gS g aa) (y % 12)) : Nat) : Int)) (y := (((((y % 12) + 1) + ((y / 16) % 11)) % 12 : Nat) : Int)) (tgt := 364) hx hb (by rw [hk1]) dL_law_342 dL_law_343 (by decide) ?_
  refine lv_aload_n hx hb dL_law_346 rfl (lv_at hl 7 rfl) ?_
  refine lv_iload hx hb dL_law_347 (lv_at hl 14 rfl) ?_
  refine lv_iconst (v := nI 3) hx hb dL_law_349 (by decide) ?_
  refine lv_iconst (v := nI 0) hx hb dL_law_350 (by decide) ?_
  have h9 := lwN (es := [(-9000000000000000001), (-9000000000000000002)]) (e_slips hI1 ha1 (grk_ok (n := 1) (by decide) (show 0 < 1 by omega) (by omega)) (sl_a (hJ1.1 aa))) (by omega)
  refine hk_LZ (wr := [(wt, .inl (ct 0, 6, .inl wf))]) (v := .long (zL ((sm (cS (gS g1 aa)) 12 : Nat) : Int))) (g' := g1) (rest := []) (vx_runSW (As := [.ref (b 0), .int (nI aa), .int (nI 3), .int (nI 0)]) (rest := []) ⟨hx, hb, hml, hown, hts⟩ (c_L_slips l hfl D ct sa s.heap.size H.size b d g1 (nI aa) (nI 3) (nI 0) hI1) (vx_cwSW 4 hts gL_law_L_slips rfl rfl rfl (by decide +kernel) ⟨Nat.le_of_ble_eq_true rfl, Nat.le_of_ble_eq_true rfl⟩) (hk_prxS hE (hkS_H hH hAG hS) ⟨rfl, hP.right (w1 := [(wt, .inl (ct 0, 6, .inl wf))]), (hD.right (w1 := [(wt, .inl (ct 0, 6, .inl wf))])).weaken (fun _ _ _ h => hAG _ h)⟩) rfl rfl hl.1 rfl (lv_room (Nat.le_of_ble_eq_true rfl)) dL_law_351 ⟨by show _ ≤ 600130; omega, by show _ ≤ 7301080; omega⟩) rfl hP hD hS hA (congrArg Value.long h9.1) h9.2 (fun d H locs hP hD hS => ?_)
  have hP : va_P D vwCl ((wt, .inl (ct 0, 6, .inl wf)) :: hkW ct b d g1) H := hP
  have hD : va_D (fun q : Nat => s.heap.size ≤ q) ((wt, .inl (ct 0, 6, .inl wf)) :: hkW ct b d g1) := hD
  refine lv_lload hx hb dL_law_354 (lv_at hl 1 rfl) ?_
  refine zq_ne (x := ((sm (cS (gS g1 aa)) 12 : Nat) : Int)) (y := ((sm (cS (gS g aa)) 12 : Nat) : Int)) (tgt := 364) hx hb (by rw [hs1]) dL_law_356 dL_law_357 (by decide) ?_
  refine lv_iconst (v := nI 1) hx hb dL_law_360 (by decide) ?_
  refine lv_goto (tgt := 365) hx hb dL_law_361 (by decide) ?_
  refine lv_istore_n (lv' := [(2, .int (nI 1)), (19, .long (zL (sZ (gS g aa) (y % 12) ((((y % 12) + 1) + ((y / 16) % 11)) % 12)))), (17, .long (zL ((sm (cS (gS g aa)) 12 : Nat) : Int))), (15, .long (zL ((sL (gS g aa) (y % 12) : Nat) : Int))), (13, .long (zL ((tZ (gS g aa) : Nat) : Int))), (12, .int (nI ((((y % 12) + 1) + ((y / 16) % 11)) % 12))), (11, .int (nI (y % 12))), (0, .ref sb), (1, .ref (b 0)), (3, .int (nI (gN g))), (4, .int (nI (gc g))), (5, .ref wt), (6, .int (nI n)), (8, .int (nI y)), (9, .int (nI aa))]) hx hb dL_law_365 rfl hl (by decide) rfl (fun ls hl => ?_)
  refine lv_goto (tgt := 714) hx hb dL_law_366 (by decide) ?_
  refine W.widen (k := cl + 300) (n := sl + 2000) (by omega) (by omega) ?_
  exact kk d g1 wf H locs ls hI1 (hJ1.mono (by omega)) (by rw [gN1]; exact h1) (hW.same gc1 gC1) ha1 hP hD hS (by rw [gN1, gc1]; exact lv_sub hl [7, 8, 0, 9, 10, 11, 12, 13, 14] rfl)
set_option maxHeartbeats 4000000 in
set_option maxRecDepth 100000 in
theorem lw_c_C {p : Program} {e : Env} {s : State} {m : MethodId} {below : List Frame} {meth : Method} {c : Code} (l : Launch) (hfl : l.flags = flags0) {D : va_G} {ct : Nat → ClassId} {sa : Nat → Nat} {sb L : Nat} {xs : Nat → Int32} {b : Nat → Nat} {wt : Nat} (hL : L ≤ 260) (C0 : lw_At p s m meth c sb L xs) (hE : hkE D ct sa s) (hH0 : hkH s.heap.size s s.heap) {n cl sl N y aa : Nat} (hcl : cl + 3900 ≤ 600130) (hsl : sl + 29000 ≤ 7301080) (hN : N ≤ 900) (hn : n < 50) (hy : y < 2 ^ 31) {g : Sg} {d : Ad} {wf : Nat → Int32} {H : Heap} {locs : List Loc} {ls : Array Slot} (hI : Inv g) (hJ : Jg N g) (h1 : 1 ≤ gN g) (hW : WF wf g) (ha : aa < gN g) (hP : va_P D vwCl ((wt, .inl (ct 0, 6, .inl wf)) :: hkW ct b d g) H) (hD : va_D (fun q : Nat => s.heap.size ≤ q) ((wt, .inl (ct 0, 6, .inl wf)) :: hkW ct b d g)) (hS : va_S (fun q : Nat => s.heap.size ≤ q) s.heap H locs) (hl : lv_has ls 21 [(0, .ref sb), (1, .ref (b 0)), (2, .int (nI 1)), (3, .int (nI (gN g))), (4, .int (nI (gc g))), (5, .ref wt), (6, .int (nI n)), (8, .int (nI y)), (9, .int (nI aa))]) (kk : ∀ (d' : Ad) (g' : Sg) (wf' : Nat → Int32) (H1 : Heap) (locs1 : List Loc) (ls1 : Array Slot), Inv g' → Jg (N + 3) g' → 1 ≤ gN g' → WF wf' g' → aa < gN g' → va_P D vwCl ((wt, .inl (ct 0, 6, .inl wf')) :: hkW ct b d' g') H1 → va_D (fun q : Nat => s.heap.size ≤ q) ((wt, .inl (ct 0, 6, .inl wf')) :: hkW ct b d' g') → va_S (fun q : Nat => s.heap.size ≤ q) s.heap H1 locs1 → lv_has ls1 21 [(0, .ref sb), (1, .ref (b 0)), (2, .int (nI 1)), (3, .int (nI (gN g'))), (4, .int (nI (gc g'))), (5, .ref wt), (6, .int (nI n)), (8, .int (nI y)), (9, .int (nI aa))] → W p l e room_1 s m #[Value.ref sb] below meth c H1 locs1 (cl + 300) (sl + 2000) (lw_Z below #[Value.ref sb] s) (F0 m 714 ls1 [])) : W p l e room_1 s m #[Value.ref sb] below meth c H locs cl sl (lw_Z below #[Value.ref sb] s) (F0 m 376 ls []) := by
  have C1 := C0
  obtain ⟨hx, hb, hr, hml, hown, hts, hX, hbl, hlocks, hgv⟩ := C0
  have hts : ∀ w ∈ wsL_law, w.before #[Value.ref sb] s = true := fun w h => hts w (wsL_law_in w h)
  have hA : ∀ q : Nat, s.heap.size ≤ q → (fun q : Nat => s.heap.size ≤ q) q := fun _ h => h
  have hAG : ∀ q : Nat, (fun q : Nat => s.heap.size ≤ q) q → s.heap.size ≤ q := fun _ h => h
  have hbA : ¬ (fun q : Nat => s.heap.size ≤ q) sb := Nat.not_le.mpr hbl
  have hH := hH0
  have hb : c.code = cL_law := hb
  have hN5 : gN g ≤ 5 := hI.1
  have hc6 : gc g ≤ 6 := hI.2.2.1
  have hu : Ist (gS g aa) := hI.2.2.2.1 aa
  have hj : Jst N (gS g aa) := hJ.1 aa
  have htZ := tZ_le hu
  have hall : sm (cS (gS g aa)) 12 ≤ 1000 := Nat.le_trans hj.2.2.2.2.2.1 (Nat.le_trans hj.2.2.2.2.1 (by omega))
  have hy2 : y % 2 < 2 := by omega
  obtain ⟨g1, e_g1⟩ : ∃ q : Sg, q = gU g aa (wyU (gS g aa) (nI (y % 2))) := ⟨_, rfl⟩
  have hI1 : Inv g1 := by rw [e_g1]; exact i_carry hI ha hy2
  have hJ1 : Jg N g1 := by rw [e_g1]; exact jj_carry hJ
  have gN1 : gN g1 = gN g := by rw [e_g1]; rfl
  have gc1 : gc g1 = gc g := by rw [e_g1]; rfl
  have gC1 : gC g1 = gC g := by rw [e_g1]; rfl
  have ha1 : aa < gN g1 := by rw [gN1]; exact ha
  have hwI := (wI_ok hu).2
  refine lv_aload_n hx hb dL_law_376 rfl (lv_at hl 1 rfl) ?_
  refine lv_iload hx hb dL_law_377 (lv_at hl 8 rfl) ?_
  refine lv_iload hx hb dL_law_379 (lv_at hl 7 rfl) ?_
  refine lv_iconst (v := nI 2) hx hb dL_law_381 (by decide) ?_
  refine hk_remN hx hb (by omega) (by omega) (by omega) dL_law_382 ?_
  have h9 := lwN (es := [(-9000000000000000001), (-9000000000000000002)]) (e_carry hI ha hy2) (by omega)
  refine hk_LZ (wr := [(wt, .inl (ct 0, 6, .inl wf))]) (v := .long (zL ((wI (gS g aa) : Nat) : Int))) (g' := g1) (rest := []) (vx_runSW (As := [.ref (b 0), .int (nI aa), .int (nI (y % 2))]) (rest := []) ⟨hx, hb, hml, hown, hts⟩ (c_L_carry l hfl D ct sa s.heap.size H.size b d g (nI aa) (nI (y % 2)) hI) (vx_cwSW 3 hts gL_law_L_carry rfl rfl rfl (by decide +kernel) ⟨Nat.le_of_ble_eq_true rfl, Nat.le_of_ble_eq_true rfl⟩) (hk_prxS hE (hkS_H hH hAG hS) ⟨rfl, hP.right (w1 := [(wt, .inl (ct 0, 6, .inl wf))]), (hD.right (w1 := [(wt, .inl (ct 0, 6, .inl wf))])).weaken (fun _ _ _ h => hAG _ h)⟩) rfl rfl hl.1 rfl (lv_room (Nat.le_of_ble_eq_true rfl)) dL_law_383 ⟨by show _ ≤ 600130; omega, by show _ ≤ 7301080; omega⟩) rfl hP hD hS hA (congrArg Value.long h9.1) (h9.2.trans e_g1.symm) (fun d H locs hP hD hS => ?_)
  have hP : va_P D vwCl ((wt, .inl (ct 0, 6, .inl wf)) :: hkW ct b d g1) H := hP
  have hD : va_D (fun q : Nat => s.heap.size ≤ q) ((wt, .inl (ct 0, 6, .inl wf)) :: hkW ct b d g1) := hD
  refine lv_lconst (v := zL 0) hx hb dL_law_386 rfl ?_
  refine zc_lt (x := ((wI (gS g aa) : Nat) : Int)) (y := 0) (tgt := 395) hx hb (by omega) (by omega) (by omega) (by omega) dL_law_387 dL_law_388 (by decide) (fun hq => absurd hq (by omega)) (fun _ => ?_)
  refine lv_iconst (v := nI 1) hx hb dL_law_391 (by decide) ?_
  refine lv_goto (tgt := 396) hx hb dL_law_392 (by decide) ?_
  refine lv_istore_n (lv' := [(2, .int (nI 1)), (0, .ref sb), (1, .ref (b 0)), (3, .int (nI (gN g))), (4, .int (nI (gc g))), (5, .ref wt), (6, .int (nI n)), (8, .int (nI y)), (9, .int (nI aa))]) hx hb dL_law_396 rfl hl (by decide) rfl (fun ls hl => ?_)
  refine lv_iload_n hx hb dL_law_397 rfl (lv_at hl 3 rfl) ?_
  refine lv_iconst (v := nI 5) hx hb dL_law_398 (by decide) ?_
  refine hk_geN (tgt := 714) hx hb (by omega) (by omega) dL_law_399 (by decide) (fun h5 => ?_) (fun h5 => ?_)
  · refine W.widen (k := cl + 300) (n := sl + 2000) (by omega) (by omega) ?_
    exact kk d g1 wf H locs ls hI1 (hJ1.mono (by omega)) (by rw [gN1]; exact h1) (hW.same gc1 gC1) ha1 hP hD hS (by rw [gN1, gc1]; exact lv_sub hl [1, 2, 0, 3, 4, 5, 6, 7, 8] rfl)
  · refine lv_iload hx hb dL_law_402 (lv_at hl 7 rfl) ?_
    refine lv_iconst (v := nI 3) hx hb dL_law_404 (by decide) ?_
    refine hk_remN hx hb (by omega) (by omega) (by omega) dL_law_405 ?_
    refine hk_ne0N (tgt := 714) hx hb (by omega) dL_law_406 (by decide) (fun h3 => ?_) (fun h3 => ?_)
    · refine W.widen (k := cl + 300) (n := sl + 2000) (by omega) (by omega) ?_
      exact kk d g1 wf H locs ls hI1 (hJ1.mono (by omega)) (by rw [gN1]; exact h1) (hW.same gc1 gC1) ha1 hP hD hS (by rw [gN1, gc1]; exact lv_sub hl [1, 2, 0, 3, 4, 5, 6, 7, 8] rfl)
    · refine lv_iload_n hx hb dL_law_409 rfl (lv_at hl 0 rfl) ?_
      refine hk_eq0N (tgt := 449) hx hb (by omega) dL_law_410 (by decide) (fun hq => absurd hq (by decide)) (fun _ => ?_)
      obtain ⟨g2, e_g2⟩ : ∃ q : Sg, q = gA g1 := ⟨_, rfl⟩
      have h5 : gN g1 < 5 := by omega
      have hI2 : Inv g2 := by rw [e_g2]; exact i_student hI1 h5
      have hJ2 : Jg N g2 := by rw [e_g2]; exact jj_student hJ1
      have gN2 : gN g2 = gN g + 1 := by rw [e_g2, ← gN1]; rfl
      have gc2 : gc g2 = gc g := by rw [e_g2, ← gc1]; rfl
      have gC2 : gC g2 = gC g := by rw [e_g2, ← gC1]; rfl
      have ha2 : gN g < gN g2 := by omega
      have ha3 : aa < gN g2 := by omega
      have es0 : gS g2 (gN g) = st0 := by rw [e_g2, ← gN1]; exact hI1.2.2.2.2.2.1 _ (Nat.le_refl _)
      have et0 : tZ (gS g2 (gN g)) = 0 := by rw [es0]; rfl
      have eb0 : bI (gS g2 (gN g)) = -1 := by rw [es0]; unfold bI; rw [show sq st0 = 0 from rfl, bs_0]; decide
      refine lv_aload_n hx hb dL_law_413 rfl (lv_at hl 2 rfl) ?_
      have h9 := lwN (es := [(-9000000000000000003)]) (e_student h5) (by omega)
      refine hk_LZ (wr := [(wt, .inl (ct 0, 6, .inl wf))]) (v := .long (zL ((gN g1 : Nat) : Int))) (g' := g2) (rest := []) (vx_runSW (As := [.ref (b 0)]) (rest := []) ⟨hx, hb, hml, hown, hts⟩ (c_L_student l hfl D ct sa s.heap.size H.size b d g1  hI1) (vx_cwSW 1 hts gL_law_L_student rfl rfl rfl (by decide +kernel) ⟨Nat.le_of_ble_eq_true rfl, Nat.le_of_ble_eq_true rfl⟩) (hk_prxS hE (hkS_H hH hAG hS) ⟨rfl, hP.right (w1 := [(wt, .inl (ct 0, 6, .inl wf))]), (hD.right (w1 := [(wt, .inl (ct 0, 6, .inl wf))])).weaken (fun _ _ _ h => hAG _ h)⟩) rfl rfl hl.1 rfl (lv_room (Nat.le_of_ble_eq_true rfl)) dL_law_414 ⟨by show _ ≤ 600130; omega, by show _ ≤ 7301080; omega⟩) rfl hP hD hS hA (congrArg Value.long h9.1) (h9.2.trans e_g2.symm) (fun d H locs hP hD hS => ?_)
      have hP : va_P D vwCl ((wt, .inl (ct 0, 6, .inl wf)) :: hkW ct b d g2) H := hP
      have hD : va_D (fun q : Nat => s.heap.size ≤ q) ((wt, .inl (ct 0, 6, .inl wf)) :: hkW ct b d g2) := hD
      refine lv_iload_n hx hb dL_law_417 rfl (lv_at hl 3 rfl) ?_
      refine hk_i2lz (n := gN g) hx hb (by omega) dL_law_418 ?_
      refine zq_ne (x := ((gN g1 : Nat) : Int)) (y := ((gN g : Nat) : Int)) (tgt := 449) hx hb (by rw [gN1]) dL_law_419 dL_law_420 (by decide) ?_
      refine lv_aload_n hx hb dL_law_423 rfl (lv_at hl 2 rfl) ?_
      refine lv_iload_n hx hb dL_law_424 rfl (lv_at hl 3 rfl) ?_
      have h9 := lwN (es := [(-9000000000000000001)]) (e_time hI2 ha2) (by omega)
      refine hk_LZ (wr := [(wt, .inl (ct 0, 6, .inl wf))]) (v := .long (zL ((tZ (gS g2 (gN g)) : Nat) : Int))) (g' := g2) (rest := []) (vx_runSW (As := [.ref (b 0), .int (nI (gN g))]) (rest := []) ⟨hx, hb, hml, hown, hts⟩ (c_L_time l hfl D ct sa s.heap.size H.size b d g2 (nI (gN g)) hI2) (vx_cwSW 2 hts gL_law_L_time rfl rfl rfl (by decide +kernel) ⟨Nat.le_of_ble_eq_true rfl, Nat.le_of_ble_eq_true rfl⟩) (hk_prxS hE (hkS_H hH hAG hS) ⟨rfl, hP.right (w1 := [(wt, .inl (ct 0, 6, .inl wf))]), (hD.right (w1 := [(wt, .inl (ct 0, 6, .inl wf))])).weaken (fun _ _ _ h => hAG _ h)⟩) rfl rfl hl.1 rfl (lv_room (Nat.le_of_ble_eq_true rfl)) dL_law_425 ⟨by show _ ≤ 600130; omega, by show _ ≤ 7301080; omega⟩) rfl hP hD hS hA (congrArg Value.long h9.1) h9.2 (fun d H locs hP hD hS => ?_)
      have hP : va_P D vwCl ((wt, .inl (ct 0, 6, .inl wf)) :: hkW ct b d g2) H := hP
      have hD : va_D (fun q : Nat => s.heap.size ≤ q) ((wt, .inl (ct 0, 6, .inl wf)) :: hkW ct b d g2) := hD
      refine lv_lconst (v := zL 0) hx hb dL_law_428 rfl ?_
      refine zq_ne (x := ((tZ (gS g2 (gN g)) : Nat) : Int)) (y := 0) (tgt := 449) hx hb (by rw [et0]; rfl) dL_law_429 dL_law_430 (by decide) ?_
      refine lv_aload_n hx hb dL_law_433 rfl (lv_at hl 2 rfl) ?_
      refine lv_iload_n hx hb dL_law_434 rfl (lv_at hl 3 rfl) ?_
      have h9 := lwT (es := [(-9000000000000000001)]) (n := -1) (e_best hI2 ha2) eb0
      refine hk_LZ (wr := [(wt, .inl (ct 0, 6, .inl wf))]) (v := .long (zL (-1))) (g' := g2) (rest := []) (vx_runSW (As := [.ref (b 0), .int (nI (gN g))]) (rest := []) ⟨hx, hb, hml, hown, hts⟩ (c_L_best l hfl D ct sa s.heap.size H.size b d g2 (nI (gN g)) hI2) (vx_cwSW 2 hts gL_law_L_best rfl rfl rfl (by decide +kernel) ⟨Nat.le_of_ble_eq_true rfl, Nat.le_of_ble_eq_true rfl⟩) (hk_prxS hE (hkS_H hH hAG hS) ⟨rfl, hP.right (w1 := [(wt, .inl (ct 0, 6, .inl wf))]), (hD.right (w1 := [(wt, .inl (ct 0, 6, .inl wf))])).weaken (fun _ _ _ h => hAG _ h)⟩) rfl rfl hl.1 rfl (lv_room (Nat.le_of_ble_eq_true rfl)) dL_law_435 ⟨by show _ ≤ 600130; omega, by show _ ≤ 7301080; omega⟩) rfl hP hD hS hA (congrArg Value.long h9.1) h9.2 (fun d H locs hP hD hS => ?_)
      have hP : va_P D vwCl ((wt, .inl (ct 0, 6, .inl wf)) :: hkW ct b d g2) H := hP
      have hD : va_D (fun q : Nat => s.heap.size ≤ q) ((wt, .inl (ct 0, 6, .inl wf)) :: hkW ct b d g2) := hD
      refine hk_ldcz (v := (-1)) (n := (-1)) hx hb (by decide +kernel) hown (hts (.constantLong RL 127 (-1)) (by decide +kernel)) dL_law_438 ?_
      refine zq_ne (x := (-1)) (y := (-1)) (tgt := 449) hx hb (rfl) dL_law_441 dL_law_442 (by decide) ?_
      refine lv_iconst (v := nI 1) hx hb dL_law_445 (by decide) ?_
      refine lv_goto (tgt := 450) hx hb dL_law_446 (by decide) ?_
      refine lv_istore_n (lv' := [(2, .int (nI 1)), (0, .ref sb), (1, .ref (b 0)), (3, .int (nI (gN g))), (4, .int (nI (gc g))), (5, .ref wt), (6, .int (nI n)), (8, .int (nI y)), (9, .int (nI aa))]) hx hb dL_law_450 rfl hl (by decide) rfl (fun ls hl => ?_)
      refine lv_iinc (v := nI (gN g + 1)) (lv' := [(3, .int (nI (gN g + 1))), (2, .int (nI 1)), (0, .ref sb), (1, .ref (b 0)), (4, .int (nI (gc g))), (5, .ref wt), (6, .int (nI n)), (8, .int (nI y)), (9, .int (nI aa))]) hx hb dL_law_451 hl (k := 3) rfl (nI_add _ _) (by decide) rfl (fun ls hl => ?_)
      refine lv_goto (tgt := 714) hx hb dL_law_454 (by decide) ?_
      refine W.widen (k := cl + 300) (n := sl + 2000) (by omega) (by omega) ?_
      exact kk d g2 wf H locs ls hI2 (hJ2.mono (by omega)) (by omega) (hW.same gc2 gC2) ha3 hP hD hS (by rw [gN2, gc2]; exact lv_sub hl [2, 3, 1, 0, 4, 5, 6, 7, 8] rfl)
