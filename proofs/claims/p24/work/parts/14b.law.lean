/-! the law: what holds at its loop's head -/
def WF (wf : Nat → Int32) (g : Sg) : Prop := ∀ c, c < gc g → wf c = nI (cW (gC g c)) ∧ 1 ≤ cW (gC g c)
theorem WF.same {wf : Nat → Int32} {g g' : Sg} (h : WF wf g) (e1 : gc g' = gc g) (e2 : gC g' = gC g) : WF wf g' := by
  unfold WF at *
  rw [e1, e2]
  exact h
set_option maxHeartbeats 4000000 in
set_option maxRecDepth 100000 in
theorem lw_c_A {p : Program} {e : Env} {s : State} {m : MethodId} {below : List Frame} {meth : Method} {c : Code} (l : Launch) (hfl : l.flags = flags0) {D : va_G} {ct : Nat → ClassId} {sa : Nat → Nat} {sb L : Nat} {xs : Nat → Int32} {b : Nat → Nat} {wt : Nat} (hL : L ≤ 260) (C0 : lw_At p s m meth c sb L xs) (hE : hkE D ct sa s) (hH0 : hkH s.heap.size s s.heap) {n cl sl N y aa : Nat} (hcl : cl + 3900 ≤ 600130) (hsl : sl + 29000 ≤ 7301080) (hN : N ≤ 900) (hn : n < 50) (hy : y < 2 ^ 31) {g : Sg} {d : Ad} {wf : Nat → Int32} {H : Heap} {locs : List Loc} {ls : Array Slot} (hI : Inv g) (hJ : Jg N g) (h1 : 1 ≤ gN g) (hW : WF wf g) (ha : aa < gN g) (hP : va_P D vwCl ((wt, .inl (ct 0, 6, .inl wf)) :: hkW ct b d g) H) (hD : va_D (fun q : Nat => s.heap.size ≤ q) ((wt, .inl (ct 0, 6, .inl wf)) :: hkW ct b d g)) (hS : va_S (fun q : Nat => s.heap.size ≤ q) s.heap H locs) (hl : lv_has ls 21 [(0, .ref sb), (1, .ref (b 0)), (2, .int (nI 1)), (3, .int (nI (gN g))), (4, .int (nI (gc g))), (5, .ref wt), (6, .int (nI n)), (8, .int (nI y)), (9, .int (nI aa))]) (kk : ∀ (d' : Ad) (g' : Sg) (wf' : Nat → Int32) (H1 : Heap) (locs1 : List Loc) (ls1 : Array Slot), Inv g' → Jg (N + 3) g' → 1 ≤ gN g' → WF wf' g' → aa < gN g' → va_P D vwCl ((wt, .inl (ct 0, 6, .inl wf')) :: hkW ct b d' g') H1 → va_D (fun q : Nat => s.heap.size ≤ q) ((wt, .inl (ct 0, 6, .inl wf')) :: hkW ct b d' g') → va_S (fun q : Nat => s.heap.size ≤ q) s.heap H1 locs1 → lv_has ls1 21 [(0, .ref sb), (1, .ref (b 0)), (2, .int (nI 1)), (3, .int (nI (gN g'))), (4, .int (nI (gc g'))), (5, .ref wt), (6, .int (nI n)), (8, .int (nI y)), (9, .int (nI aa))] → W p l e room_1 s m #[Value.ref sb] below meth c H1 locs1 (cl + 300) (sl + 2000) (lw_Z below #[Value.ref sb] s) (F0 m 714 ls1 [])) : W p l e room_1 s m #[Value.ref sb] below meth c H locs cl sl (lw_Z below #[Value.ref sb] s) (F0 m 93 ls []) := by
  have C1 := C0
  obtain ⟨hx, hb, hr, hml, hown, hts, hX, hbl, hlocks, hgv⟩ := C0
  have hts : ∀ w ∈ wsL_law, w.before #[Value.ref sb] s = true := fun w h => hts w (wsL_law_in w h)
  have hA : ∀ q : Nat, s.heap.size ≤ q → (fun q : Nat => s.heap.size ≤ q) q := fun _ h => h
  have hAG : ∀ q : Nat, (fun q : Nat => s.heap.size ≤ q) q → s.heap.size ≤ q := fun _ h => h
  have hbA : ¬ (fun q : Nat => s.heap.size ≤ q) sb := Nat.not_le.mpr hbl
  have hH := hH0
  have hb : c.code = cL_law := hb
  have hN5 : gN g ≤ 5 := hI.1
  have hc6 : gc g ≤ 6 := hI.2.2.1
  refine lv_iconst (v := nI 0) hx hb dL_law_93 (by decide) ?_
  refine lv_istore (lv' := [(11, .int (nI 0)), (0, .ref sb), (1, .ref (b 0)), (2, .int (nI 1)), (3, .int (nI (gN g))), (4, .int (nI (gc g))), (5, .ref wt), (6, .int (nI n)), (8, .int (nI y)), (9, .int (nI aa))]) hx hb dL_law_94 hl (by decide) rfl (fun ls hl => ?_)
  refine lv_iload hx hb dL_law_96 (lv_at hl 0 rfl) ?_
  refine lv_iconst (v := nI 3) hx hb dL_law_98 (by decide) ?_
  refine hk_geN (tgt := 224) hx hb (by omega) (by omega) dL_law_99 (by decide) (fun hq => absurd hq (by omega)) (fun _ => ?_)
  refine lv_iload_n hx hb dL_law_102 rfl (lv_at hl 3 rfl) ?_
  refine hk_eq0N (tgt := 224) hx hb (by omega) dL_law_103 (by decide) (fun hq => absurd hq (by decide)) (fun _ => ?_)
  refine lv_iload hx hb dL_law_106 (lv_at hl 8 rfl) ?_
  refine lv_iload hx hb dL_law_108 (lv_at hl 0 rfl) ?_
  refine hk_ne0N (tgt := 117) hx hb (by omega) dL_law_110 (by decide) (fun hq => absurd hq (by omega)) (fun _ => ?_)
  refine lv_iconst (v := nI 1) hx hb dL_law_113 (by decide) ?_
  refine lv_goto (tgt := 131) hx hb dL_law_114 (by decide) ?_
  refine hk_divN hx hb (by omega) (by omega) (by omega) dL_law_131 ?_
  refine lv_bipush (v := nI 12) hx hb dL_law_132 (by decide) ?_
  refine hk_remN hx hb (by omega) (by omega) (by omega) dL_law_134 ?_
  refine lv_istore (lv' := [(12, .int (nI ((y / 1) % 12))), (11, .int (nI 0)), (0, .ref sb), (1, .ref (b 0)), (2, .int (nI 1)), (3, .int (nI (gN g))), (4, .int (nI (gc g))), (5, .ref wt), (6, .int (nI n)), (8, .int (nI y)), (9, .int (nI aa))]) hx hb dL_law_135 hl (by decide) rfl (fun ls hl => ?_)
  refine lv_iload hx hb dL_law_137 (lv_at hl 1 rfl) ?_
  refine lv_iconst (v := nI 2) hx hb dL_law_139 (by decide) ?_
  have hlt : (y / 1) % 12 < 12 := by omega
  have hK : sK (gS g aa) ((y / 1) % 12) < 12 := (hI.2.2.2.1 aa).1 _ hlt
  refine hk_neN (tgt := 155) hx hb (by omega) (by omega) dL_law_140 (by decide) (fun _ => ?_) (fun hq => absurd hq (by omega))
  refine lv_aload_n hx hb dL_law_155 rfl (lv_at hl 3 rfl) ?_
  refine lv_iload hx hb dL_law_156 (lv_at hl 10 rfl) ?_
  refine lv_iload hx hb dL_law_158 (lv_at hl 0 rfl) ?_
  have h9 := lwN (es := [(-9000000000000000001)]) (e_keyOf hI ha hlt) (by omega)
  refine hk_LZ (wr := [(wt, .inl (ct 0, 6, .inl wf))]) (v := .long (zL ((sK (gS g aa) ((y / 1) % 12) : Nat) : Int))) (g' := g) (rest := []) (vx_runSW (As := [.ref (b 0), .int (nI aa), .int (nI ((y / 1) % 12))]) (rest := []) ⟨hx, hb, hml, hown, hts⟩ (c_L_keyOf l hfl D ct sa s.heap.size H.size b d g (nI aa) (nI ((y / 1) % 12)) hI) (vx_cwSW 3 hts gL_law_L_keyOf rfl rfl rfl (by decide +kernel) ⟨Nat.le_of_ble_eq_true rfl, Nat.le_of_ble_eq_true rfl⟩) (hk_prxS hE (hkS_H hH hAG hS) ⟨rfl, hP.right (w1 := [(wt, .inl (ct 0, 6, .inl wf))]), (hD.right (w1 := [(wt, .inl (ct 0, 6, .inl wf))])).weaken (fun _ _ _ h => hAG _ h)⟩) rfl rfl hl.1 rfl (lv_room (Nat.le_of_ble_eq_true rfl)) dL_law_160 ⟨by show _ ≤ 600130; omega, by show _ ≤ 7301080; omega⟩) rfl hP hD hS hA (congrArg Value.long h9.1) h9.2 (fun d H locs hP hD hS => ?_)
  have hP : va_P D vwCl ((wt, .inl (ct 0, 6, .inl wf)) :: hkW ct b d g) H := hP
  have hD : va_D (fun q : Nat => s.heap.size ≤ q) ((wt, .inl (ct 0, 6, .inl wf)) :: hkW ct b d g) := hD
  refine hk_l2iz (n := sK (gS g aa) ((y / 1) % 12)) hx hb dL_law_163 ?_
  refine lv_istore (lv' := [(13, .int (nI (sK (gS g aa) ((y / 1) % 12)))), (12, .int (nI ((y / 1) % 12))), (11, .int (nI 0)), (0, .ref sb), (1, .ref (b 0)), (2, .int (nI 1)), (3, .int (nI (gN g))), (4, .int (nI (gc g))), (5, .ref wt), (6, .int (nI n)), (8, .int (nI y)), (9, .int (nI aa))]) hx hb dL_law_164 hl (by decide) rfl (fun ls hl => ?_)
  refine lv_aload_n hx hb dL_law_166 rfl (lv_at hl 4 rfl) ?_
  refine lv_iload hx hb dL_law_167 (lv_at hl 11 rfl) ?_
  refine lv_iload hx hb dL_law_169 (lv_at hl 1 rfl) ?_
  have h9 := lwN (es := [(-9000000000000000001)]) (e_keyOf hI ha hlt) (by omega)
  refine hk_LZ (wr := [(wt, .inl (ct 0, 6, .inl wf))]) (v := .long (zL ((sK (gS g aa) ((y / 1) % 12) : Nat) : Int))) (g' := g) (rest := []) (vx_runSW (As := [.ref (b 0), .int (nI aa), .int (nI ((y / 1) % 12))]) (rest := []) ⟨hx, hb, hml, hown, hts⟩ (c_L_keyOf l hfl D ct sa s.heap.size H.size b d g (nI aa) (nI ((y / 1) % 12)) hI) (vx_cwSW 3 hts gL_law_L_keyOf rfl rfl rfl (by decide +kernel) ⟨Nat.le_of_ble_eq_true rfl, Nat.le_of_ble_eq_true rfl⟩) (hk_prxS hE (hkS_H hH hAG hS) ⟨rfl, hP.right (w1 := [(wt, .inl (ct 0, 6, .inl wf))]), (hD.right (w1 := [(wt, .inl (ct 0, 6, .inl wf))])).weaken (fun _ _ _ h => hAG _ h)⟩) rfl rfl hl.1 rfl (lv_room (Nat.le_of_ble_eq_true rfl)) dL_law_171 ⟨by show _ ≤ 600130; omega, by show _ ≤ 7301080; omega⟩) rfl hP hD hS hA (congrArg Value.long h9.1) h9.2 (fun d H locs hP hD hS => ?_)
  have hP : va_P D vwCl ((wt, .inl (ct 0, 6, .inl wf)) :: hkW ct b d g) H := hP
  have hD : va_D (fun q : Nat => s.heap.size ≤ q) ((wt, .inl (ct 0, 6, .inl wf)) :: hkW ct b d g) := hD
  refine lv_iload hx hb dL_law_174 (lv_at hl 0 rfl) ?_
  refine hk_i2lz (n := sK (gS g aa) ((y / 1) % 12)) hx hb (by omega) dL_law_176 ?_
  refine zq_ne (x := ((sK (gS g aa) ((y / 1) % 12) : Nat) : Int)) (y := ((sK (gS g aa) ((y / 1) % 12) : Nat) : Int)) (tgt := 185) hx hb (rfl) dL_law_177 dL_law_178 (by decide) ?_
  refine lv_iconst (v := nI 1) hx hb dL_law_181 (by decide) ?_
  refine lv_goto (tgt := 186) hx hb dL_law_182 (by decide) ?_
  refine lv_istore (lv' := [(14, .int (nI 1)), (13, .int (nI (sK (gS g aa) ((y / 1) % 12)))), (12, .int (nI ((y / 1) % 12))), (11, .int (nI 0)), (0, .ref sb), (1, .ref (b 0)), (2, .int (nI 1)), (3, .int (nI (gN g))), (4, .int (nI (gc g))), (5, .ref wt), (6, .int (nI n)), (8, .int (nI y)), (9, .int (nI aa))]) hx hb dL_law_186 hl (by decide) rfl (fun ls hl => ?_)
  obtain ⟨g1, e_g1⟩ : ∃ q : Sg, q = gU g aa (tpU (gS g aa) ((y / 1) % 12) (sK (gS g aa) ((y / 1) % 12))) := ⟨_, rfl⟩
  refine lv_aload_n hx hb dL_law_188 rfl (lv_at hl 5 rfl) ?_
  refine lv_iload hx hb dL_law_189 (lv_at hl 12 rfl) ?_
  refine lv_iload hx hb dL_law_191 (lv_at hl 2 rfl) ?_
  refine lv_iload hx hb dL_law_193 (lv_at hl 1 rfl) ?_
  have h9 := lwN (es := [(-9000000000000000001)]) (e_press hI ha hlt hK) (by split <;> omega)
  refine hk_LZ (wr := [(wt, .inl (ct 0, 6, .inl wf))]) (v := .long (zL (((if sK (gS g aa) ((y / 1) % 12) = sK (gS g aa) ((y / 1) % 12) then 0 else 1) : Nat) : Int))) (g' := g1) (rest := []) (vx_runSW (As := [.ref (b 0), .int (nI aa), .int (nI ((y / 1) % 12)), .int (nI (sK (gS g aa) ((y / 1) % 12)))]) (rest := []) ⟨hx, hb, hml, hown, hts⟩ (c_L_press l hfl D ct sa s.heap.size H.size b d g (nI aa) (nI ((y / 1) % 12)) (nI (sK (gS g aa) ((y / 1) % 12))) hI) (vx_cwSW 4 hts gL_law_L_press rfl rfl rfl (by decide +kernel) ⟨Nat.le_of_ble_eq_true rfl, Nat.le_of_ble_eq_true rfl⟩) (hk_prxS hE (hkS_H hH hAG hS) ⟨rfl, hP.right (w1 := [(wt, .inl (ct 0, 6, .inl wf))]), (hD.right (w1 := [(wt, .inl (ct 0, 6, .inl wf))])).weaken (fun _ _ _ h => hAG _ h)⟩) rfl rfl hl.1 rfl (lv_room (Nat.le_of_ble_eq_true rfl)) dL_law_195 ⟨by show _ ≤ 600130; omega, by show _ ≤ 7301080; omega⟩) rfl hP hD hS hA (congrArg Value.long h9.1) (h9.2.trans e_g1.symm) (fun d H locs hP hD hS => ?_)
  have hP : va_P D vwCl ((wt, .inl (ct 0, 6, .inl wf)) :: hkW ct b d g1) H := hP
  have hD : va_D (fun q : Nat => s.heap.size ≤ q) ((wt, .inl (ct 0, 6, .inl wf)) :: hkW ct b d g1) := hD
  refine hk_topz (a := (((if sK (gS g aa) ((y / 1) % 12) = sK (gS g aa) ((y / 1) % 12) then 0 else 1) : Nat) : Int)) (b := 0) (by rw [if_pos rfl]; rfl) ?_
  have hI_g1 : Inv g1 := by rw [e_g1]; exact i_press hI ha hlt hK
  have hJ_g1 : Jg (N + 1) g1 := by rw [e_g1]; exact jj_press hI hJ (by omega) hlt
  have gN_g1 : gN g1 = gN g := by rw [e_g1]; exact rfl
  have gc_g1 : gc g1 = gc g := by rw [e_g1]; exact rfl
  have gC_g1 : gC g1 = gC g := by rw [e_g1]; exact rfl
  have ha_g1 : aa < gN g1 := by rw [gN_g1]; exact ha
  refine lv_iload hx hb dL_law_198 (lv_at hl 0 rfl) ?_
  refine hk_eq0N (tgt := 207) hx hb (by omega) dL_law_200 (by decide) (fun hq => absurd hq (by omega)) (fun _ => ?_)
  refine lv_lconst (v := zL 0) hx hb dL_law_203 rfl ?_
  refine lv_goto (tgt := 208) hx hb dL_law_204 (by decide) ?_
  refine zq_ne (x := 0) (y := 0) (tgt := 216) hx hb (rfl) dL_law_208 dL_law_209 (by decide) ?_
  refine lv_iconst (v := nI 1) hx hb dL_law_212 (by decide) ?_
  refine lv_goto (tgt := 217) hx hb dL_law_213 (by decide) ?_
  refine lv_istore_n (lv' := [(2, .int (nI 1)), (14, .int (nI 1)), (13, .int (nI (sK (gS g aa) ((y / 1) % 12)))), (12, .int (nI ((y / 1) % 12))), (11, .int (nI 0)), (0, .ref sb), (1, .ref (b 0)), (3, .int (nI (gN g))), (4, .int (nI (gc g))), (5, .ref wt), (6, .int (nI n)), (8, .int (nI y)), (9, .int (nI aa))]) hx hb dL_law_217 rfl hl (by decide) rfl (fun ls hl => ?_)
  refine lv_iinc (v := nI 1) (lv' := [(11, .int (nI 1)), (2, .int (nI 1)), (14, .int (nI 1)), (13, .int (nI (sK (gS g aa) ((y / 1) % 12)))), (12, .int (nI ((y / 1) % 12))), (0, .ref sb), (1, .ref (b 0)), (3, .int (nI (gN g))), (4, .int (nI (gc g))), (5, .ref wt), (6, .int (nI n)), (8, .int (nI y)), (9, .int (nI aa))]) hx hb dL_law_218 hl (k := 4) rfl (nI_add _ _) (by decide) rfl (fun ls hl => ?_)
  refine lv_goto (tgt := 96) hx hb dL_law_221 (by decide) ?_
  refine lv_iload hx hb dL_law_96 (lv_at hl 0 rfl) ?_
  refine lv_iconst (v := nI 3) hx hb dL_law_98 (by decide) ?_
  refine hk_geN (tgt := 224) hx hb (by omega) (by omega) dL_law_99 (by decide) (fun hq => absurd hq (by omega)) (fun _ => ?_)
  refine lv_iload_n hx hb dL_law_102 rfl (lv_at hl 1 rfl) ?_
  refine hk_eq0N (tgt := 224) hx hb (by omega) dL_law_103 (by decide) (fun hq => absurd hq (by decide)) (fun _ => ?_)
  refine lv_iload hx hb dL_law_106 (lv_at hl 11 rfl) ?_
  refine lv_iload hx hb dL_law_108 (lv_at hl 0 rfl) ?_
  refine hk_ne0N (tgt := 117) hx hb (by omega) dL_law_110 (by decide) (fun _ => ?_) (fun hq => absurd hq (by omega))
  refine lv_iload hx hb dL_law_117 (lv_at hl 0 rfl) ?_
  refine lv_iconst (v := nI 1) hx hb dL_law_119 (by decide) ?_
  refine hk_neN (tgt := 128) hx hb (by omega) (by omega) dL_law_120 (by decide) (fun hq => absurd hq (by omega)) (fun _ => ?_)
  refine lv_bipush (v := nI 12) hx hb dL_law_123 (by decide) ?_
  refine lv_goto (tgt := 131) hx hb dL_law_125 (by decide) ?_
  refine hk_divN hx hb (by omega) (by omega) (by omega) dL_law_131 ?_
  refine lv_bipush (v := nI 12) hx hb dL_law_132 (by decide) ?_
  refine hk_remN hx hb (by omega) (by omega) (by omega) dL_law_134 ?_
  refine lv_istore (lv' := [(12, .int (nI ((y / 12) % 12))), (11, .int (nI 1)), (2, .int (nI 1)), (14, .int (nI 1)), (13, .int (nI (sK (gS g aa) ((y / 1) % 12)))), (0, .ref sb), (1, .ref (b 0)), (3, .int (nI (gN g))), (4, .int (nI (gc g))), (5, .ref wt), (6, .int (nI n)), (8, .int (nI y)), (9, .int (nI aa))]) hx hb dL_law_135 hl (by decide) rfl (fun ls hl => ?_)
  refine lv_iload hx hb dL_law_137 (lv_at hl 1 rfl) ?_
  refine lv_iconst (v := nI 2) hx hb dL_law_139 (by decide) ?_
  have hlt : (y / 12) % 12 < 12 := by omega
  have hK : sK (gS g1 aa) ((y / 12) % 12) < 12 := (hI_g1.2.2.2.1 aa).1 _ hlt
  refine hk_neN (tgt := 155) hx hb (by omega) (by omega) dL_law_140 (by decide) (fun _ => ?_) (fun hq => absurd hq (by omega))
  refine lv_aload_n hx hb dL_law_155 rfl (lv_at hl 6 rfl) ?_
  refine lv_iload hx hb dL_law_156 (lv_at hl 12 rfl) ?_
  refine lv_iload hx hb dL_law_158 (lv_at hl 0 rfl) ?_
  have h9 := lwN (es := [(-9000000000000000001)]) (e_keyOf hI_g1 ha_g1 hlt) (by omega)
  refine hk_LZ (wr := [(wt, .inl (ct 0, 6, .inl wf))]) (v := .long (zL ((sK (gS g1 aa) ((y / 12) % 12) : Nat) : Int))) (g' := g1) (rest := []) (vx_runSW (As := [.ref (b 0), .int (nI aa), .int (nI ((y / 12) % 12))]) (rest := []) ⟨hx, hb, hml, hown, hts⟩ (c_L_keyOf l hfl D ct sa s.heap.size H.size b d g1 (nI aa) (nI ((y / 12) % 12)) hI_g1) (vx_cwSW 3 hts gL_law_L_keyOf rfl rfl rfl (by decide +kernel) ⟨Nat.le_of_ble_eq_true rfl, Nat.le_of_ble_eq_true rfl⟩) (hk_prxS hE (hkS_H hH hAG hS) ⟨rfl, hP.right (w1 := [(wt, .inl (ct 0, 6, .inl wf))]), (hD.right (w1 := [(wt, .inl (ct 0, 6, .inl wf))])).weaken (fun _ _ _ h => hAG _ h)⟩) rfl rfl hl.1 rfl (lv_room (Nat.le_of_ble_eq_true rfl)) dL_law_160 ⟨by show _ ≤ 600130; omega, by show _ ≤ 7301080; omega⟩) rfl hP hD hS hA (congrArg Value.long h9.1) h9.2 (fun d H locs hP hD hS => ?_)
  have hP : va_P D vwCl ((wt, .inl (ct 0, 6, .inl wf)) :: hkW ct b d g1) H := hP
  have hD : va_D (fun q : Nat => s.heap.size ≤ q) ((wt, .inl (ct 0, 6, .inl wf)) :: hkW ct b d g1) := hD
  refine hk_l2iz (n := sK (gS g1 aa) ((y / 12) % 12)) hx hb dL_law_163 ?_
  refine lv_istore (lv' := [(13, .int (nI (sK (gS g1 aa) ((y / 12) % 12)))), (12, .int (nI ((y / 12) % 12))), (11, .int (nI 1)), (2, .int (nI 1)), (14, .int (nI 1)), (0, .ref sb), (1, .ref (b 0)), (3, .int (nI (gN g))), (4, .int (nI (gc g))), (5, .ref wt), (6, .int (nI n)), (8, .int (nI y)), (9, .int (nI aa))]) hx hb dL_law_164 hl (by decide) rfl (fun ls hl => ?_)
  refine lv_aload_n hx hb dL_law_166 rfl (lv_at hl 6 rfl) ?_
  refine lv_iload hx hb dL_law_167 (lv_at hl 12 rfl) ?_
  refine lv_iload hx hb dL_law_169 (lv_at hl 1 rfl) ?_
  have h9 := lwN (es := [(-9000000000000000001)]) (e_keyOf hI_g1 ha_g1 hlt) (by omega)
  refine hk_LZ (wr := [(wt, .inl (ct 0, 6, .inl wf))]) (v := .long (zL ((sK (gS g1 aa) ((y / 12) % 12) : Nat) : Int))) (g' := g1) (rest := []) (vx_runSW (As := [.ref (b 0), .int (nI aa), .int (nI ((y / 12) % 12))]) (rest := []) ⟨hx, hb, hml, hown, hts⟩ (c_L_keyOf l hfl D ct sa s.heap.size H.size b d g1 (nI aa) (nI ((y / 12) % 12)) hI_g1) (vx_cwSW 3 hts gL_law_L_keyOf rfl rfl rfl (by decide +kernel) ⟨Nat.le_of_ble_eq_true rfl, Nat.le_of_ble_eq_true rfl⟩) (hk_prxS hE (hkS_H hH hAG hS) ⟨rfl, hP.right (w1 := [(wt, .inl (ct 0, 6, .inl wf))]), (hD.right (w1 := [(wt, .inl (ct 0, 6, .inl wf))])).weaken (fun _ _ _ h => hAG _ h)⟩) rfl rfl hl.1 rfl (lv_room (Nat.le_of_ble_eq_true rfl)) dL_law_171 ⟨by show _ ≤ 600130; omega, by show _ ≤ 7301080; omega⟩) rfl hP hD hS hA (congrArg Value.long h9.1) h9.2 (fun d H locs hP hD hS => ?_)
  have hP : va_P D vwCl ((wt, .inl (ct 0, 6, .inl wf)) :: hkW ct b d g1) H := hP
  have hD : va_D (fun q : Nat => s.heap.size ≤ q) ((wt, .inl (ct 0, 6, .inl wf)) :: hkW ct b d g1) := hD
  refine lv_iload hx hb dL_law_174 (lv_at hl 0 rfl) ?_
  refine hk_i2lz (n := sK (gS g1 aa) ((y / 12) % 12)) hx hb (by omega) dL_law_176 ?_
  refine zq_ne (x := ((sK (gS g1 aa) ((y / 12) % 12) : Nat) : Int)) (y := ((sK (gS g1 aa) ((y / 12) % 12) : Nat) : Int)) (tgt := 185) hx hb (rfl) dL_law_177 dL_law_178 (by decide) ?_
  refine lv_iconst (v := nI 1) hx hb dL_law_181 (by decide) ?_
  refine lv_goto (tgt := 186) hx hb dL_law_182 (by decide) ?_
  refine lv_istore (lv' := [(14, .int (nI 1)), (13, .int (nI (sK (gS g1 aa) ((y / 12) % 12)))), (12, .int (nI ((y / 12) % 12))), (11, .int (nI 1)), (2, .int (nI 1)), (0, .ref sb), (1, .ref (b 0)), (3, .int (nI (gN g))), (4, .int (nI (gc g))), (5, .ref wt), (6, .int (nI n)), (8, .int (nI y)), (9, .int (nI aa))]) hx hb dL_law_186 hl (by decide) rfl (fun ls hl => ?_)
  obtain ⟨g2, e_g2⟩ : ∃ q : Sg, q = gU g1 aa (tpU (gS g1 aa) ((y / 12) % 12) (sK (gS g1 aa) ((y / 12) % 12))) := ⟨_, rfl⟩
  refine lv_aload_n hx hb dL_law_188 rfl (lv_at hl 6 rfl) ?_
  refine lv_iload hx hb dL_law_189 (lv_at hl 12 rfl) ?_
  refine lv_iload hx hb dL_law_191 (lv_at hl 2 rfl) ?_
  refine lv_iload hx hb dL_law_193 (lv_at hl 1 rfl) ?_
  have h9 := lwN (es := [(-9000000000000000001)]) (e_press hI_g1 ha_g1 hlt hK) (by split <;> omega)
  refine hk_LZ (wr := [(wt, .inl (ct 0, 6, .inl wf))]) (v := .long (zL (((if sK (gS g1 aa) ((y / 12) % 12) = sK (gS g1 aa) ((y / 12) % 12) then 0 else 1) : Nat) : Int))) (g' := g2) (rest := []) (vx_runSW (As := [.ref (b 0), .int (nI aa), .int (nI ((y / 12) % 12)), .int (nI (sK (gS g1 aa) ((y / 12) % 12)))]) (rest := []) ⟨hx, hb, hml, hown, hts⟩ (c_L_press l hfl D ct sa s.heap.size H.size b d g1 (nI aa) (nI ((y / 12) % 12)) (nI (sK (gS g1 aa) ((y / 12) % 12))) hI_g1) (vx_cwSW 4 hts gL_law_L_press rfl rfl rfl (by decide +kernel) ⟨Nat.le_of_ble_eq_true rfl, Nat.le_of_ble_eq_true rfl⟩) (hk_prxS hE (hkS_H hH hAG hS) ⟨rfl, hP.right (w1 := [(wt, .inl (ct 0, 6, .inl wf))]), (hD.right (w1 := [(wt, .inl (ct 0, 6, .inl wf))])).weaken (fun _ _ _ h => hAG _ h)⟩) rfl rfl hl.1 rfl (lv_room (Nat.le_of_ble_eq_true rfl)) dL_law_195 ⟨by show _ ≤ 600130; omega, by show _ ≤ 7301080; omega⟩) rfl hP hD hS hA (congrArg Value.long h9.1) (h9.2.trans e_g2.symm) (fun d H locs hP hD hS => ?_)
  have hP : va_P D vwCl ((wt, .inl (ct 0, 6, .inl wf)) :: hkW ct b d g2) H := hP
  have hD : va_D (fun q : Nat => s.heap.size ≤ q) ((wt, .inl (ct 0, 6, .inl wf)) :: hkW ct b d g2) := hD
  refine hk_topz (a := (((if sK (gS g1 aa) ((y / 12) % 12) = sK (gS g1 aa) ((y / 12) % 12) then 0 else 1) : Nat) : Int)) (b := 0) (by rw [if_pos rfl]; rfl) ?_
  have hI_g2 : Inv g2 := by rw [e_g2]; exact i_press hI_g1 ha_g1 hlt hK
  have hJ_g2 : Jg (N + 2) g2 := by rw [e_g2]; exact jj_press hI_g1 hJ_g1 (by omega) hlt
  have gN_g2 : gN g2 = gN g := by rw [e_g2]; exact gN_g1
  have gc_g2 : gc g2 = gc g := by rw [e_g2]; exact gc_g1
  have gC_g2 : gC g2 = gC g := by rw [e_g2]; exact gC_g1
  have ha_g2 : aa < gN g2 := by rw [gN_g2]; exact ha
  refine lv_iload hx hb dL_law_198 (lv_at hl 0 rfl) ?_
  refine hk_eq0N (tgt := 207) hx hb (by omega) dL_law_200 (by decide) (fun hq => absurd hq (by omega)) (fun _ => ?_)
  refine lv_lconst (v := zL 0) hx hb dL_law_203 rfl ?_
  refine lv_goto (tgt := 208) hx hb dL_law_204 (by decide) ?_
  refine zq_ne (x := 0) (y := 0) (tgt := 216) hx hb (rfl) dL_law_208 dL_law_209 (by decide) ?_
  refine lv_iconst (v := nI 1) hx hb dL_law_212 (by decide) ?_
  refine lv_goto (tgt := 217) hx hb dL_law_213 (by decide) ?_
  refine lv_istore_n (lv' := [(2, .int (nI 1)), (14, .int (nI 1)), (13, .int (nI (sK (gS g1 aa) ((y / 12) % 12)))), (12, .int (nI ((y / 12) % 12))), (11, .int (nI 1)), (0, .ref sb), (1, .ref (b 0)), (3, .int (nI (gN g))), (4, .int (nI (gc g))), (5, .ref wt), (6, .int (nI n)), (8, .int (nI y)), (9, .int (nI aa))]) hx hb dL_law_217 rfl hl (by decide) rfl (fun ls hl => ?_)
  refine lv_iinc (v := nI 2) (lv' := [(11, .int (nI 2)), (2, .int (nI 1)), (14, .int (nI 1)), (13, .int (nI (sK (gS g1 aa) ((y / 12) % 12)))), (12, .int (nI ((y / 12) % 12))), (0, .ref sb), (1, .ref (b 0)), (3, .int (nI (gN g))), (4, .int (nI (gc g))), (5, .ref wt), (6, .int (nI n)), (8, .int (nI y)), (9, .int (nI aa))]) hx hb dL_law_218 hl (k := 4) rfl (nI_add _ _) (by decide) rfl (fun ls hl => ?_)
  refine lv_goto (tgt := 96) hx hb dL_law_221 (by decide) ?_
  refine lv_iload hx hb dL_law_96 (lv_at hl 0 rfl) ?_
  refine lv_iconst (v := nI 3) hx hb dL_law_98 (by decide) ?_
  refine hk_geN (tgt := 224) hx hb (by omega) (by omega) dL_law_99 (by decide) (fun hq => absurd hq (by omega)) (fun _ => ?_)
  refine lv_iload_n hx hb dL_law_102 rfl (lv_at hl 1 rfl) ?_
  refine hk_eq0N (tgt := 224) hx hb (by omega) dL_law_103 (by decide) (fun hq => absurd hq (by decide)) (fun _ => ?_)
  refine lv_iload hx hb dL_law_106 (lv_at hl 11 rfl) ?_
  refine lv_iload hx hb dL_law_108 (lv_at hl 0 rfl) ?_
  refine hk_ne0N (tgt := 117) hx hb (by omega) dL_law_110 (by decide) (fun _ => ?_) (fun hq => absurd hq (by omega))
  refine lv_iload hx hb dL_law_117 (lv_at hl 0 rfl) ?_
  refine lv_iconst (v := nI 1) hx hb dL_law_119 (by decide) ?_
  refine hk_neN (tgt := 128) hx hb (by omega) (by omega) dL_law_120 (by decide) (fun _ => ?_) (fun hq => absurd hq (by omega))
  refine lv_sipush (v := nI 144) hx hb dL_law_128 (by decide) ?_
  refine hk_divN hx hb (by omega) (by omega) (by omega) dL_law_131 ?_
  refine lv_bipush (v := nI 12) hx hb dL_law_132 (by decide) ?_
  refine hk_remN hx hb (by omega) (by omega) (by omega) dL_law_134 ?_
  refine lv_istore (lv' := [(12, .int (nI ((y / 144) % 12))), (11, .int (nI 2)), (2, .int (nI 1)), (14, .int (nI 1)), (13, .int (nI (sK (gS g1 aa) ((y / 12) % 12)))), (0, .ref sb), (1, .ref (b 0)), (3, .int (nI (gN g))), (4, .int (nI (gc g))), (5, .ref wt), (6, .int (nI n)), (8, .int (nI y)), (9, .int (nI aa))]) hx hb dL_law_135 hl (by decide) rfl (fun ls hl => ?_)
  refine lv_iload hx hb dL_law_137 (lv_at hl 1 rfl) ?_
  refine lv_iconst (v := nI 2) hx hb dL_law_139 (by decide) ?_
  have hlt : (y / 144) % 12 < 12 := by omega
  have hK : sK (gS g2 aa) ((y / 144) % 12) < 12 := (hI_g2.2.2.2.1 aa).1 _ hlt
  refine hk_neN (tgt := 155) hx hb (by omega) (by omega) dL_law_140 (by decide) (fun hq => absurd hq (by omega)) (fun _ => ?_)
  refine lv_iload hx hb dL_law_143 (lv_at hl 11 rfl) ?_
  refine lv_sipush (v := nI 2048) hx hb dL_law_145 (by decide) ?_
  refine hk_divN hx hb (by omega) (by omega) (by omega) dL_law_148 ?_
  refine lv_bipush (v := nI 12) hx hb dL_law_149 (by decide) ?_
  refine hk_remN hx hb (by omega) (by omega) (by omega) dL_law_151 ?_
  refine lv_goto (tgt := 164) hx hb dL_law_152 (by decide) ?_
  refine lv_istore (lv' := [(13, .int (nI ((y / 2048) % 12))), (12, .int (nI ((y / 144) % 12))), (11, .int (nI 2)), (2, .int (nI 1)), (14, .int (nI 1)), (0, .ref sb), (1, .ref (b 0)), (3, .int (nI (gN g))), (4, .int (nI (gc g))), (5, .ref wt), (6, .int (nI n)), (8, .int (nI y)), (9, .int (nI aa))]) hx hb dL_law_164 hl (by decide) rfl (fun ls hl => ?_)
  refine lv_aload_n hx hb dL_law_166 rfl (lv_at hl 6 rfl) ?_
  refine lv_iload hx hb dL_law_167 (lv_at hl 12 rfl) ?_
  refine lv_iload hx hb dL_law_169 (lv_at hl 1 rfl) ?_
  have hkl : (y / 2048) % 12 < 12 := by omega
  have h9 := lwN (es := [(-9000000000000000001)]) (e_keyOf hI_g2 ha_g2 hlt) (by omega)
  refine hk_LZ (wr := [(wt, .inl (ct 0, 6, .inl wf))]) (v := .long (zL ((sK (gS g2 aa) ((y / 144) % 12) : Nat) : Int))) (g' := g2) (rest := []) (vx_runSW (As := [.ref (b 0), .int (nI aa), .int (nI ((y / 144) % 12))]) (rest := []) ⟨hx, hb, hml, hown, hts⟩ (c_L_keyOf l hfl D ct sa s.heap.size H.size b d g2 (nI aa) (nI ((y / 144) % 12)) hI_g2) (vx_cwSW 3 hts gL_law_L_keyOf rfl rfl rfl (by decide +kernel) ⟨Nat.le_of_ble_eq_true rfl, Nat.le_of_ble_eq_true rfl⟩) (hk_prxS hE (hkS_H hH hAG hS) ⟨rfl, hP.right (w1 := [(wt, .inl (ct 0, 6, .inl wf))]), (hD.right (w1 := [(wt, .inl (ct 0, 6, .inl wf))])).weaken (fun _ _ _ h => hAG _ h)⟩) rfl rfl hl.1 rfl (lv_room (Nat.le_of_ble_eq_true rfl)) dL_law_171 ⟨by show _ ≤ 600130; omega, by show _ ≤ 7301080; omega⟩) rfl hP hD hS hA (congrArg Value.long h9.1) h9.2 (fun d H locs hP hD hS => ?_)
  have hP : va_P D vwCl ((wt, .inl (ct 0, 6, .inl wf)) :: hkW ct b d g2) H := hP
  have hD : va_D (fun q : Nat => s.heap.size ≤ q) ((wt, .inl (ct 0, 6, .inl wf)) :: hkW ct b d g2) := hD
  refine lv_iload hx hb dL_law_174 (lv_at hl 0 rfl) ?_
  refine hk_i2lz (n := (y / 2048) % 12) hx hb (by omega) dL_law_176 ?_
  refine zc_ne (x := ((sK (gS g2 aa) ((y / 144) % 12) : Nat) : Int)) (y := (((y / 2048) % 12 : Nat) : Int)) (tgt := 185) hx hb (by omega) (by omega) (by omega) (by omega) dL_law_177 dL_law_178 (by decide) (fun hq9 => ?_) (fun hq9 => ?_)
  · have hr9 : ¬ sK (gS g2 aa) ((y / 144) % 12) = (y / 2048) % 12 := by omega
    refine lv_iconst (v := nI 0) hx hb dL_law_185 (by decide) ?_
    refine lv_istore (lv' := [(14, .int (nI 0)), (13, .int (nI ((y / 2048) % 12))), (12, .int (nI ((y / 144) % 12))), (11, .int (nI 2)), (2, .int (nI 1)), (0, .ref sb), (1, .ref (b 0)), (3, .int (nI (gN g))), (4, .int (nI (gc g))), (5, .ref wt), (6, .int (nI n)), (8, .int (nI y)), (9, .int (nI aa))]) hx hb dL_law_186 hl (by decide) rfl (fun ls hl => ?_)
    obtain ⟨g3, e_g3⟩ : ∃ q : Sg, q = gU g2 aa (tpU (gS g2 aa) ((y / 144) % 12) ((y / 2048) % 12)) := ⟨_, rfl⟩
    refine lv_aload_n hx hb dL_law_188 rfl (lv_at hl 6 rfl) ?_
    refine lv_iload hx hb dL_law_189 (lv_at hl 12 rfl) ?_
    refine lv_iload hx hb dL_law_191 (lv_at hl 2 rfl) ?_
    refine lv_iload hx hb dL_law_193 (lv_at hl 1 rfl) ?_
    have h9 := lwN (es := [(-9000000000000000001)]) (e_press hI_g2 ha_g2 hlt hkl) (by split <;> omega)
    refine hk_LZ (wr := [(wt, .inl (ct 0, 6, .inl wf))]) (v := .long (zL (((if sK (gS g2 aa) ((y / 144) % 12) = (y / 2048) % 12 then 0 else 1) : Nat) : Int))) (g' := g3) (rest := []) (vx_runSW (As := [.ref (b 0), .int (nI aa), .int (nI ((y / 144) % 12)), .int (nI ((y / 2048) % 12))]) (rest := []) ⟨hx, hb, hml, hown, hts⟩ (c_L_press l hfl D ct sa s.heap.size H.size b d g2 (nI aa) (nI ((y / 144) % 12)) (nI ((y / 2048) % 12)) hI_g2) (vx_cwSW 4 hts gL_law_L_press rfl rfl rfl (by decide +kernel) ⟨Nat.le_of_ble_eq_true rfl, Nat.le_of_ble_eq_true rfl⟩) (hk_prxS hE (hkS_H hH hAG hS) ⟨rfl, hP.right (w1 := [(wt, .inl (ct 0, 6, .inl wf))]), (hD.right (w1 := [(wt, .inl (ct 0, 6, .inl wf))])).weaken (fun _ _ _ h => hAG _ h)⟩) rfl rfl hl.1 rfl (lv_room (Nat.le_of_ble_eq_true rfl)) dL_law_195 ⟨by show _ ≤ 600130; omega, by show _ ≤ 7301080; omega⟩) rfl hP hD hS hA (congrArg Value.long h9.1) (h9.2.trans e_g3.symm) (fun d H locs hP hD hS => ?_)
    have hP : va_P D vwCl ((wt, .inl (ct 0, 6, .inl wf)) :: hkW ct b d g3) H := hP
    have hD : va_D (fun q : Nat => s.heap.size ≤ q) ((wt, .inl (ct 0, 6, .inl wf)) :: hkW ct b d g3) := hD
    refine hk_topz (a := (((if sK (gS g2 aa) ((y / 144) % 12) = (y / 2048) % 12 then 0 else 1) : Nat) : Int)) (b := 1) (by rw [if_neg hr9]; rfl) ?_
    have hI_g3 : Inv g3 := by rw [e_g3]; exact i_press hI_g2 ha_g2 hlt hkl
    have hJ_g3 : Jg (N + 3) g3 := by rw [e_g3]; exact jj_press hI_g2 hJ_g2 (by omega) hlt
    have gN_g3 : gN g3 = gN g := by rw [e_g3]; exact gN_g2
    have gc_g3 : gc g3 = gc g := by rw [e_g3]; exact gc_g2
    have gC_g3 : gC g3 = gC g := by rw [e_g3]; exact gC_g2
    have ha_g3 : aa < gN g3 := by rw [gN_g3]; exact ha
    refine lv_iload hx hb dL_law_198 (lv_at hl 0 rfl) ?_
    refine hk_eq0N (tgt := 207) hx hb (by omega) dL_law_200 (by decide) (fun _ => ?_) (fun hq => absurd hq (by omega))
    refine lv_lconst (v := zL 1) hx hb dL_law_207 rfl ?_
    refine zq_ne (x := 1) (y := 1) (tgt := 216) hx hb (rfl) dL_law_208 dL_law_209 (by decide) ?_
    refine lv_iconst (v := nI 1) hx hb dL_law_212 (by decide) ?_
    refine lv_goto (tgt := 217) hx hb dL_law_213 (by decide) ?_
    refine lv_istore_n (lv' := [(2, .int (nI 1)), (14, .int (nI 0)), (13, .int (nI ((y / 2048) % 12))), (12, .int (nI ((y / 144) % 12))), (11, .int (nI 2)), (0, .ref sb), (1, .ref (b 0)), (3, .int (nI (gN g))), (4, .int (nI (gc g))), (5, .ref wt), (6, .int (nI n)), (8, .int (nI y)), (9, .int (nI aa))]) hx hb dL_law_217 rfl hl (by decide) rfl (fun ls hl => ?_)
    refine lv_iinc (v := nI 3) (lv' := [(11, .int (nI 3)), (2, .int (nI 1)), (14, .int (nI 0)), (13, .int (nI ((y / 2048) % 12))), (12, .int (nI ((y / 144) % 12))), (0, .ref sb), (1, .ref (b 0)), (3, .int (nI (gN g))), (4, .int (nI (gc g))), (5, .ref wt), (6, .int (nI n)), (8, .int (nI y)), (9, .int (nI aa))]) hx hb dL_law_218 hl (k := 4) rfl (nI_add _ _) (by decide) rfl (fun ls hl => ?_)
    refine lv_goto (tgt := 96) hx hb dL_law_221 (by decide) ?_
    refine lv_iload hx hb dL_law_96 (lv_at hl 0 rfl) ?_
    refine lv_iconst (v := nI 3) hx hb dL_law_98 (by decide) ?_
    refine hk_geN (tgt := 224) hx hb (by omega) (by omega) dL_law_99 (by decide) (fun _ => ?_) (fun hq => absurd hq (by omega))
    refine lv_goto (tgt := 714) hx hb dL_law_224 (by decide) ?_
    refine W.widen (k := cl + 300) (n := sl + 2000) (by omega) (by omega) ?_
    exact kk d g3 wf H locs ls hI_g3 hJ_g3 (by rw [gN_g3]; exact h1) (hW.same gc_g3 gC_g3) ha_g3 hP hD hS (by rw [gN_g3, gc_g3]; exact lv_sub hl [5, 6, 1, 7, 8, 9, 10, 11, 12] rfl)
  · have hr9 : sK (gS g2 aa) ((y / 144) % 12) = (y / 2048) % 12 := by omega
    refine lv_iconst (v := nI 1) hx hb dL_law_181 (by decide) ?_
    refine lv_goto (tgt := 186) hx hb dL_law_182 (by decide) ?_
    refine lv_istore (lv' := [(14, .int (nI 1)), (13, .int (nI ((y / 2048) % 12))), (12, .int (nI ((y / 144) % 12))), (11, .int (nI 2)), (2, .int (nI 1)), (0, .ref sb), (1, .ref (b 0)), (3, .int (nI (gN g))), (4, .int (nI (gc g))), (5, .ref wt), (6, .int (nI n)), (8, .int (nI y)), (9, .int (nI aa))]) hx hb dL_law_186 hl (by decide) rfl (fun ls hl => ?_)
    obtain ⟨g3, e_g3⟩ : ∃ q : Sg, q = gU g2 aa (tpU (gS g2 aa) ((y / 144) % 12) ((y / 2048) % 12)) := ⟨_, rfl⟩
    refine lv_aload_n hx hb dL_law_188 rfl (lv_at hl 6 rfl) ?_
    refine lv_iload hx hb dL_law_189 (lv_at hl 12 rfl) ?_
    refine lv_iload hx hb dL_law_191 (lv_at hl 2 rfl) ?_
    refine lv_iload hx hb dL_law_193 (lv_at hl 1 rfl) ?_
    have h9 := lwN (es := [(-9000000000000000001)]) (e_press hI_g2 ha_g2 hlt hkl) (by split <;> omega)
    refine hk_LZ (wr := [(wt, .inl (ct 0, 6, .inl wf))]) (v := .long (zL (((if sK (gS g2 aa) ((y / 144) % 12) = (y / 2048) % 12 then 0 else 1) : Nat) : Int))) (g' := g3) (rest := []) (vx_runSW (As := [.ref (b 0), .int (nI aa), .int (nI ((y / 144) % 12)), .int (nI ((y / 2048) % 12))]) (rest := []) ⟨hx, hb, hml, hown, hts⟩ (c_L_press l hfl D ct sa s.heap.size H.size b d g2 (nI aa) (nI ((y / 144) % 12)) (nI ((y / 2048) % 12)) hI_g2) (vx_cwSW 4 hts gL_law_L_press rfl rfl rfl (by decide +kernel) ⟨Nat.le_of_ble_eq_true rfl, Nat.le_of_ble_eq_true rfl⟩) (hk_prxS hE (hkS_H hH hAG hS) ⟨rfl, hP.right (w1 := [(wt, .inl (ct 0, 6, .inl wf))]), (hD.right (w1 := [(wt, .inl (ct 0, 6, .inl wf))])).weaken (fun _ _ _ h => hAG _ h)⟩) rfl rfl hl.1 rfl (lv_room (Nat.le_of_ble_eq_true rfl)) dL_law_195 ⟨by show _ ≤ 600130; omega, by show _ ≤ 7301080; omega⟩) rfl hP hD hS hA (congrArg Value.long h9.1) (h9.2.trans e_g3.symm) (fun d H locs hP hD hS => ?_)
    have hP : va_P D vwCl ((wt, .inl (ct 0, 6, .inl wf)) :: hkW ct b d g3) H := hP
    have hD : va_D (fun q : Nat => s.heap.size ≤ q) ((wt, .inl (ct 0, 6, .inl wf)) :: hkW ct b d g3) := hD
    refine hk_topz (a := (((if sK (gS g2 aa) ((y / 144) % 12) = (y / 2048) % 12 then 0 else 1) : Nat) : Int)) (b := 0) (by rw [if_pos hr9]; rfl) ?_
    have hI_g3 : Inv g3 := by rw [e_g3]; exact i_press hI_g2 ha_g2 hlt hkl
    have hJ_g3 : Jg (N + 3) g3 := by rw [e_g3]; exact jj_press hI_g2 hJ_g2 (by omega) hlt
    have gN_g3 : gN g3 = gN g := by rw [e_g3]; exact gN_g2
    have gc_g3 : gc g3 = gc g := by rw [e_g3]; exact gc_g2
    have gC_g3 : gC g3 = gC g := by rw [e_g3]; exact gC_g2
    have ha_g3 : aa < gN g3 := by rw [gN_g3]; exact ha
    refine lv_iload hx hb dL_law_198 (lv_at hl 0 rfl) ?_
    refine hk_eq0N (tgt := 207) hx hb (by omega) dL_law_200 (by decide) (fun hq => absurd hq (by omega)) (fun _ => ?_)
    refine lv_lconst (v := zL 0) hx hb dL_law_203 rfl ?_
    refine lv_goto (tgt := 208) hx hb dL_law_204 (by decide) ?_
    refine zq_ne (x := 0) (y := 0) (tgt := 216) hx hb (rfl) dL_law_208 dL_law_209 (by decide) ?_
    refine lv_iconst (v := nI 1) hx hb dL_law_212 (by decide) ?_
    refine lv_goto (tgt := 217) hx hb dL_law_213 (by decide) ?_
    refine lv_istore_n (lv' := [(2, .int (nI 1)), (14, .int (nI 1)), (13, .int (nI ((y / 2048) % 12))), (12, .int (nI ((y / 144) % 12))), (11, .int (nI 2)), (0, .ref sb), (1, .ref (b 0)), (3, .int (nI (gN g))), (4, .int (nI (gc g))), (5, .ref wt), (6, .int (nI n)), (8, .int (nI y)), (9, .int (nI aa))]) hx hb dL_law_217 rfl hl (by decide) rfl (fun ls hl => ?_)
    refine lv_iinc (v := nI 3) (lv' := [(11, .int (nI 3)), (2, .int (nI 1)), (14, .int (nI 1)), (13, .int (nI ((y / 2048) % 12))), (12, .int (nI ((y / 144) % 12))), (0, .ref sb), (1, .ref (b 0)), (3, .int (nI (gN g))), (4, .int (nI (gc g))), (5, .ref wt), (6, .int (nI n)), (8, .int (nI y)), (9, .int (nI aa))]) hx hb dL_law_218 hl (k := 4) rfl (nI_add _ _) (by decide) rfl (fun ls hl => ?_)
    refine lv_goto (tgt := 96) hx hb dL_law_221 (by decide) ?_
    refine lv_iload hx hb dL_law_96 (lv_at hl 0 rfl) ?_
    refine lv_iconst (v := nI 3) hx hb dL_law_98 (by decide) ?_
    refine hk_geN (tgt := 224) hx hb (by omega) (by omega) dL_law_99 (by decide) (fun _ => ?_) (fun hq => absurd hq (by omega))
    refine lv_goto (tgt := 714) hx hb dL_law_224 (by decide) ?_
    refine W.widen (k := cl + 300) (n := sl + 2000) (by omega) (by omega) ?_
    exact kk d g3 wf H locs ls hI_g3 hJ_g3 (by rw [gN_g3]; exact h1) (hW.same gc_g3 gC_g3) ha_g3 hP hD hS (by rw [gN_g3, gc_g3]; exact lv_sub hl [5, 6, 1, 7, 8, 9, 10, 11, 12] rfl)
