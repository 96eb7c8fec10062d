set_option maxHeartbeats 4000000 in
set_option maxRecDepth 100000 in
theorem lw_k_student {p : Program} {e : Env} {s : State} {m : MethodId} {below : List Frame} {meth : Method} {c : Code} (l : Launch) (hfl : l.flags = flags0) {D : va_G} {ct : Nat → ClassId} {sa : Nat → Nat} {sb L : Nat} {xs : Nat → Int32} {b aa : Nat → Nat} {o : Nat} (hL : L ≤ 2048) (C0 : lw_At p s m meth c sb L xs) (hE : hkE D ct sa s) (hH0 : hkH s.heap.size s s.heap) {n cl sl : Nat} (hn : 4 * n + 4 ≤ L) (hcl : cl + 6 ≤ 601024) (hsl : sl + 218 ≤ 7293034) {g : Sg} {d : Ad} {f : Nat → Int64} {rf : Int32} {H : Heap} {locs : List Loc} {ls : Array Slot} (hI : Inv g) (hP : va_P D vwCl (mdW ct aa g rf ++ hkLW ct b d g o f) H) (hD : va_D (fun q : Nat => s.heap.size ≤ q) (mdW ct aa g rf ++ hkLW ct b d g o f)) (hS : va_S (fun q : Nat => s.heap.size ≤ q) s.heap H locs) (hl : lv_has ls 7 [(0, .ref sb), (1, .ref (b 0)), (2, .ref (aa 0)), (3, .ref o), (4, .int (nI (4 * n)))]) (kk : ∀ (d' : Ad) (g' : Sg) (f' : Nat → Int64) (rf' : Int32) (H1 : Heap) (locs1 : List Loc) (ls1 : Array Slot), Inv g' → va_P D vwCl (mdW ct aa g' rf' ++ hkLW ct b d' g' o f') H1 → va_D (fun q : Nat => s.heap.size ≤ q) (mdW ct aa g' rf' ++ hkLW ct b d' g' o f') → va_S (fun q : Nat => s.heap.size ≤ q) s.heap H1 locs1 → lv_has ls1 7 [(0, .ref sb), (1, .ref (b 0)), (2, .ref (aa 0)), (3, .ref o), (4, .int (nI (4 * n)))] → W p l e room_1 s m #[Value.ref sb] below meth c H1 locs1 (cl + 6) (sl + 218) (lw_Z below #[Value.ref sb] s) (F0 m 1492 ls1 [])) : W p l e room_1 s m #[Value.ref sb] below meth c H locs cl sl (lw_Z below #[Value.ref sb] s) (F0 m 136 ls []) := by
  obtain ⟨hx, hb, hr, hml, hown, hts, hX, hbl, hlocks, hgv⟩ := C0
  have hts : ∀ w ∈ wsL_law, w.before #[Value.ref sb] s = true := fun w h => hts w (wsL_law_in w h)
  have hA : ∀ q : Nat, s.heap.size ≤ q → (fun q : Nat => s.heap.size ≤ q) q := fun _ h => h
  have hbA : ¬ (fun q : Nat => s.heap.size ≤ q) sb := Nat.not_le.mpr hbl
  have hb : c.code = cL_law := hb
  have hH := hH0.at hS
  have cL := c_L_student l hfl D ct sa s.heap.size H.size b d g o f  hI
  have cM := c_X3_student l D ct sa aa g rf  hI
  have hI2 := inv_student hI 
  generalize hz9 : opStudent g = z at cL cM hI2
  refine lv_aload_n hx hb dL_law_136 rfl (lv_at hl 1 rfl) ?_
  refine lv_aload_n hx hb dL_law_137 rfl (lv_at hl 3 rfl) ?_
  refine hk_LL (wr := mdW ct aa g rf) (rest := []) (vx_runSW (As := [.ref (b 0), .ref o]) (rest := []) ⟨hx, hb, hml, hown, hts⟩ cL (vx_cwSW 2 hts gL_law_L_student rfl rfl rfl (by decide +kernel) ⟨Nat.le_of_ble_eq_true rfl, Nat.le_of_ble_eq_true rfl⟩) (hk_prxS hE hH ⟨rfl, hP.right (w1 := mdW ct aa g rf), hD.right (w1 := mdW ct aa g rf)⟩) rfl rfl hl.1 rfl (lv_room (Nat.le_of_ble_eq_true rfl)) dL_law_138 ⟨by show _ ≤ 601024; omega, by show _ ≤ 7293034; omega⟩) rfl hP hD hS hA (fun d9 f9 H locs hf9 hP hD hS => ?_)
  have hP : va_P D vwCl (((aa 0), .inr (3, [.int rf, .int (nI (gN g)), .ref (aa 1), .ref (aa 2), .ref (aa 3), .ref (aa 4), .ref (aa 5), .ref (aa 6), .ref (aa 7), .ref (aa 8), .ref (aa 9), .int (nI (gd g)), .ref (aa 10), .int (nI (gc g)), .ref (aa 11), .ref (aa 12), .ref (aa 13)])) :: ((aa 1), .inl (ct 0, 60, .inl (mK g))) :: ((aa 2), .inl (ct 0, 60, .inl (mL g))) :: ((aa 3), .inl (ct 0, 5, .inl (mY g))) :: ((aa 4), .inl (ct 0, 60, .inl (mS g))) :: ((aa 5), .inl (ct 0, 720, .inl (mP g))) :: ((aa 6), .inl (ct 0, 5, .inl (mC g))) :: ((aa 7), .inl (ct 0, 5, .inl (mLa g))) :: ((aa 8), .inl (ct 0, 5, .inl (mQ g))) :: ((aa 9), .inl (ct 0, 150, .inl (mT g))) :: ((aa 10), .inl (ct 0, 24, .inl (mD g))) :: ((aa 11), .inl (ct 0, 6, .inl (mW g))) :: ((aa 12), .inl (ct 0, 30, .inl (mX g))) :: ((aa 13), .inl (ct 0, 30, .inl (mZ g))) :: hkLW ct b d9 z.2.2 o f9) H := hP
  have hD : va_D (fun q : Nat => s.heap.size ≤ q) (((aa 0), .inr (3, [.int rf, .int (nI (gN g)), .ref (aa 1), .ref (aa 2), .ref (aa 3), .ref (aa 4), .ref (aa 5), .ref (aa 6), .ref (aa 7), .ref (aa 8), .ref (aa 9), .int (nI (gd g)), .ref (aa 10), .int (nI (gc g)), .ref (aa 11), .ref (aa 12), .ref (aa 13)])) :: ((aa 1), .inl (ct 0, 60, .inl (mK g))) :: ((aa 2), .inl (ct 0, 60, .inl (mL g))) :: ((aa 3), .inl (ct 0, 5, .inl (mY g))) :: ((aa 4), .inl (ct 0, 60, .inl (mS g))) :: ((aa 5), .inl (ct 0, 720, .inl (mP g))) :: ((aa 6), .inl (ct 0, 5, .inl (mC g))) :: ((aa 7), .inl (ct 0, 5, .inl (mLa g))) :: ((aa 8), .inl (ct 0, 5, .inl (mQ g))) :: ((aa 9), .inl (ct 0, 150, .inl (mT g))) :: ((aa 10), .inl (ct 0, 24, .inl (mD g))) :: ((aa 11), .inl (ct 0, 6, .inl (mW g))) :: ((aa 12), .inl (ct 0, 30, .inl (mX g))) :: ((aa 13), .inl (ct 0, 30, .inl (mZ g))) :: hkLW ct b d9 z.2.2 o f9) := hD
  refine lv_istore (lv' := [(5, .int z.1), (0, .ref sb), (1, .ref (b 0)), (2, .ref (aa 0)), (3, .ref o), (4, .int (nI (4 * n)))]) hx hb dL_law_141 hl (by decide) rfl (fun ls hl => ?_)
  refine lv_aload_n hx hb dL_law_143 rfl (lv_at hl 3 rfl) ?_
  have hPm := hP.sub (ws' := [((aa 0), .inr (3, [.int rf, .int (nI (gN g)), .ref (aa 1), .ref (aa 2), .ref (aa 3), .ref (aa 4), .ref (aa 5), .ref (aa 6), .ref (aa 7), .ref (aa 8), .ref (aa 9), .int (nI (gd g)), .ref (aa 10), .int (nI (gc g)), .ref (aa 11), .ref (aa 12), .ref (aa 13)])), ((aa 1), .inl (ct 0, 60, .inl (mK g))), ((aa 2), .inl (ct 0, 60, .inl (mL g))), ((aa 3), .inl (ct 0, 5, .inl (mY g))), ((aa 4), .inl (ct 0, 60, .inl (mS g))), ((aa 5), .inl (ct 0, 720, .inl (mP g))), ((aa 6), .inl (ct 0, 5, .inl (mC g))), ((aa 7), .inl (ct 0, 5, .inl (mLa g))), ((aa 8), .inl (ct 0, 5, .inl (mQ g))), ((aa 9), .inl (ct 0, 150, .inl (mT g))), ((aa 10), .inl (ct 0, 24, .inl (mD g))), ((aa 11), .inl (ct 0, 6, .inl (mW g))), ((aa 12), .inl (ct 0, 30, .inl (mX g))), ((aa 13), .inl (ct 0, 30, .inl (mZ g)))]) [0, 1, 2, 3, 4, 5, 6, 7, 8, 9, 10, 11, 12, 13] rfl
  have hDm := hD.sub (ws' := [((aa 0), .inr (3, [.int rf, .int (nI (gN g)), .ref (aa 1), .ref (aa 2), .ref (aa 3), .ref (aa 4), .ref (aa 5), .ref (aa 6), .ref (aa 7), .ref (aa 8), .ref (aa 9), .int (nI (gd g)), .ref (aa 10), .int (nI (gc g)), .ref (aa 11), .ref (aa 12), .ref (aa 13)])), ((aa 1), .inl (ct 0, 60, .inl (mK g))), ((aa 2), .inl (ct 0, 60, .inl (mL g))), ((aa 3), .inl (ct 0, 5, .inl (mY g))), ((aa 4), .inl (ct 0, 60, .inl (mS g))), ((aa 5), .inl (ct 0, 720, .inl (mP g))), ((aa 6), .inl (ct 0, 5, .inl (mC g))), ((aa 7), .inl (ct 0, 5, .inl (mLa g))), ((aa 8), .inl (ct 0, 5, .inl (mQ g))), ((aa 9), .inl (ct 0, 150, .inl (mT g))), ((aa 10), .inl (ct 0, 24, .inl (mD g))), ((aa 11), .inl (ct 0, 6, .inl (mW g))), ((aa 12), .inl (ct 0, 30, .inl (mX g))), ((aa 13), .inl (ct 0, 30, .inl (mZ g)))]) [0, 1, 2, 3, 4, 5, 6, 7, 8, 9, 10, 11, 12, 13] (by decide) rfl
  refine hk_M (w1 := mdW ct aa z.2.2 z.1) (rest := []) (va_Run.run (va_runV (As := []) (rest := []) ⟨hx, hb, hml, hown, hts⟩ cM (cwV 0 hts gL_law_X3_student rfl rfl rfl (by decide +kernel) ⟨Nat.le_of_ble_eq_true rfl, Nat.le_of_ble_eq_true rfl⟩) (hk_preV hE (va_recv hE.1 hP (ci := 3) (q0 := 0) rfl rfl) ⟨hPm, hDm.weaken (fun _ _ _ _ => trivial)⟩) rfl rfl hl.1 rfl (lv_room (Nat.le_of_ble_eq_true rfl)) dL_law_144 ⟨by show _ ≤ 601024; omega, by show _ ≤ 7293034; omega⟩)) hP hD hS [0, 1, 2, 3, 4, 5, 6, 7, 8, 9, 10, 11, 12, 13] (wc := [((aa 0), .inr (3, [.int rf, .int (nI (gN g)), .ref (aa 1), .ref (aa 2), .ref (aa 3), .ref (aa 4), .ref (aa 5), .ref (aa 6), .ref (aa 7), .ref (aa 8), .ref (aa 9), .int (nI (gd g)), .ref (aa 10), .int (nI (gc g)), .ref (aa 11), .ref (aa 12), .ref (aa 13)])), ((aa 1), .inl (ct 0, 60, .inl (mK g))), ((aa 2), .inl (ct 0, 60, .inl (mL g))), ((aa 3), .inl (ct 0, 5, .inl (mY g))), ((aa 4), .inl (ct 0, 60, .inl (mS g))), ((aa 5), .inl (ct 0, 720, .inl (mP g))), ((aa 6), .inl (ct 0, 5, .inl (mC g))), ((aa 7), .inl (ct 0, 5, .inl (mLa g))), ((aa 8), .inl (ct 0, 5, .inl (mQ g))), ((aa 9), .inl (ct 0, 150, .inl (mT g))), ((aa 10), .inl (ct 0, 24, .inl (mD g))), ((aa 11), .inl (ct 0, 6, .inl (mW g))), ((aa 12), .inl (ct 0, 30, .inl (mX g))), ((aa 13), .inl (ct 0, 30, .inl (mZ g)))]) rfl rfl rfl (fun H locs hP hD hS => ?_)
  have hP : va_P D vwCl (((aa 0), .inr (3, [.int z.1, .int (nI (gN z.2.2)), .ref (aa 1), .ref (aa 2), .ref (aa 3), .ref (aa 4), .ref (aa 5), .ref (aa 6), .ref (aa 7), .ref (aa 8), .ref (aa 9), .int (nI (gd z.2.2)), .ref (aa 10), .int (nI (gc z.2.2)), .ref (aa 11), .ref (aa 12), .ref (aa 13)])) :: ((aa 1), .inl (ct 0, 60, .inl (mK z.2.2))) :: ((aa 2), .inl (ct 0, 60, .inl (mL z.2.2))) :: ((aa 3), .inl (ct 0, 5, .inl (mY z.2.2))) :: ((aa 4), .inl (ct 0, 60, .inl (mS z.2.2))) :: ((aa 5), .inl (ct 0, 720, .inl (mP z.2.2))) :: ((aa 6), .inl (ct 0, 5, .inl (mC z.2.2))) :: ((aa 7), .inl (ct 0, 5, .inl (mLa z.2.2))) :: ((aa 8), .inl (ct 0, 5, .inl (mQ z.2.2))) :: ((aa 9), .inl (ct 0, 150, .inl (mT z.2.2))) :: ((aa 10), .inl (ct 0, 24, .inl (mD z.2.2))) :: ((aa 11), .inl (ct 0, 6, .inl (mW z.2.2))) :: ((aa 12), .inl (ct 0, 30, .inl (mX z.2.2))) :: ((aa 13), .inl (ct 0, 30, .inl (mZ z.2.2))) :: hkLW ct b d9 z.2.2 o f9) H := hP
  have hD : va_D (fun q : Nat => s.heap.size ≤ q) (((aa 0), .inr (3, [.int z.1, .int (nI (gN z.2.2)), .ref (aa 1), .ref (aa 2), .ref (aa 3), .ref (aa 4), .ref (aa 5), .ref (aa 6), .ref (aa 7), .ref (aa 8), .ref (aa 9), .int (nI (gd z.2.2)), .ref (aa 10), .int (nI (gc z.2.2)), .ref (aa 11), .ref (aa 12), .ref (aa 13)])) :: ((aa 1), .inl (ct 0, 60, .inl (mK z.2.2))) :: ((aa 2), .inl (ct 0, 60, .inl (mL z.2.2))) :: ((aa 3), .inl (ct 0, 5, .inl (mY z.2.2))) :: ((aa 4), .inl (ct 0, 60, .inl (mS z.2.2))) :: ((aa 5), .inl (ct 0, 720, .inl (mP z.2.2))) :: ((aa 6), .inl (ct 0, 5, .inl (mC z.2.2))) :: ((aa 7), .inl (ct 0, 5, .inl (mLa z.2.2))) :: ((aa 8), .inl (ct 0, 5, .inl (mQ z.2.2))) :: ((aa 9), .inl (ct 0, 150, .inl (mT z.2.2))) :: ((aa 10), .inl (ct 0, 24, .inl (mD z.2.2))) :: ((aa 11), .inl (ct 0, 6, .inl (mW z.2.2))) :: ((aa 12), .inl (ct 0, 30, .inl (mX z.2.2))) :: ((aa 13), .inl (ct 0, 30, .inl (mZ z.2.2))) :: hkLW ct b d9 z.2.2 o f9) := hD
  refine lv_istore (lv' := [(6, .int z.2.1), (5, .int z.1), (0, .ref sb), (1, .ref (b 0)), (2, .ref (aa 0)), (3, .ref o), (4, .int (nI (4 * n)))]) hx hb dL_law_147 hl (by decide) rfl (fun ls hl => ?_)
  refine lv_aload_n hx hb dL_law_149 rfl (lv_at hl 4 rfl) ?_
  refine hk_R (rest := []) (va_Run.run (va_runV (As := []) (rest := []) ⟨hx, hb, hml, hown, hts⟩ (c_X3_thrown l D ct sa aa z.2.2 z.1) (cwV 0 hts gL_law_X3_thrown rfl rfl rfl (by decide +kernel) ⟨Nat.le_of_ble_eq_true rfl, Nat.le_of_ble_eq_true rfl⟩) (hk_preV hE (va_recv hE.1 hP (ci := 3) (q0 := 0) rfl rfl) (hP.sub (ws' := [((aa 0), .inr (3, [.int z.1, .int (nI (gN z.2.2)), .ref (aa 1), .ref (aa 2), .ref (aa 3), .ref (aa 4), .ref (aa 5), .ref (aa 6), .ref (aa 7), .ref (aa 8), .ref (aa 9), .int (nI (gd z.2.2)), .ref (aa 10), .int (nI (gc z.2.2)), .ref (aa 11), .ref (aa 12), .ref (aa 13)]))]) [0] rfl)) rfl rfl hl.1 rfl (lv_room (Nat.le_of_ble_eq_true rfl)) dL_law_150 ⟨by show _ ≤ 601024; omega, by show _ ≤ 7293034; omega⟩)) ?_
  refine lv_iload hx hb dL_law_153 (lv_at hl 1 rfl) ?_
  refine lv_icmp_eq (tgt := 160) hx hb dL_law_155 (by decide) (fun hq => ?_) (fun hq => ?_)
  · refine lv_iload hx hb dL_law_160 (lv_at hl 1 rfl) ?_
    refine lv_if_ne (tgt := 177) hx hb dL_law_162 (by decide) (fun hq0 => ?_) (fun hq0 => ?_)
    · refine lv_goto (tgt := 1492) hx hb dL_law_177 (by decide) ?_
      refine W.widen (k := cl + 6) (n := sl + 218) (by omega) (by omega) ?_
      exact kk d9 z.2.2 f9 z.1 _ _ ls hI2 hP hD hS (lv_sub hl [2, 3, 4, 5, 6] rfl)
    · have hv9 := hf9 hq0
      refine lv_aload_n hx hb dL_law_165 rfl (lv_at hl 5 rfl) ?_
      refine lv_iconst (v := nI 0) hx hb dL_law_166 (by decide) ?_
      refine hk_lld hx hb hE hP 14 rfl (j := 0) (by decide) (by decide) dL_law_167 ?_
      rw [hv9]
      refine lv_iload hx hb dL_law_168 (lv_at hl 0 rfl) ?_
      refine lv_i2l hx hb dL_law_170 rfl ?_
      refine hk_lcmpE hx hb dL_law_171 ?_
      refine lv_if_eq (tgt := 177) hx hb dL_law_172 (by decide) (fun hq7 => ?_) (fun hq7 => ?_)
      · refine lv_goto (tgt := 1492) hx hb dL_law_177 (by decide) ?_
        refine W.widen (k := cl + 6) (n := sl + 218) (by omega) (by omega) ?_
        exact kk d9 z.2.2 f9 z.1 _ _ ls hI2 hP hD hS (lv_sub hl [2, 3, 4, 5, 6] rfl)
      · exact absurd rfl hq7
  · exact absurd rfl hq

set_option maxHeartbeats 4000000 in
set_option maxRecDepth 100000 in
theorem lw_k_carry {p : Program} {e : Env} {s : State} {m : MethodId} {below : List Frame} {meth : Method} {c : Code} (l : Launch) (hfl : l.flags = flags0) {D : va_G} {ct : Nat → ClassId} {sa : Nat → Nat} {sb L : Nat} {xs : Nat → Int32} {b aa : Nat → Nat} {o : Nat} (hL : L ≤ 2048) (C0 : lw_At p s m meth c sb L xs) (hE : hkE D ct sa s) (hH0 : hkH s.heap.size s s.heap) {n cl sl : Nat} (hn : 4 * n + 4 ≤ L) (hcl : cl + 6 ≤ 601024) (hsl : sl + 218 ≤ 7293034) {g : Sg} {d : Ad} {f : Nat → Int64} {rf : Int32} {H : Heap} {locs : List Loc} {ls : Array Slot} (hI : Inv g) (hP : va_P D vwCl (mdW ct aa g rf ++ hkLW ct b d g o f) H) (hD : va_D (fun q : Nat => s.heap.size ≤ q) (mdW ct aa g rf ++ hkLW ct b d g o f)) (hS : va_S (fun q : Nat => s.heap.size ≤ q) s.heap H locs) (hl : lv_has ls 7 [(0, .ref sb), (1, .ref (b 0)), (2, .ref (aa 0)), (3, .ref o), (4, .int (nI (4 * n)))]) (kk : ∀ (d' : Ad) (g' : Sg) (f' : Nat → Int64) (rf' : Int32) (H1 : Heap) (locs1 : List Loc) (ls1 : Array Slot), Inv g' → va_P D vwCl (mdW ct aa g' rf' ++ hkLW ct b d' g' o f') H1 → va_D (fun q : Nat => s.heap.size ≤ q) (mdW ct aa g' rf' ++ hkLW ct b d' g' o f') → va_S (fun q : Nat => s.heap.size ≤ q) s.heap H1 locs1 → lv_has ls1 7 [(0, .ref sb), (1, .ref (b 0)), (2, .ref (aa 0)), (3, .ref o), (4, .int (nI (4 * n)))] → W p l e room_1 s m #[Value.ref sb] below meth c H1 locs1 (cl + 6) (sl + 218) (lw_Z below #[Value.ref sb] s) (F0 m 1492 ls1 [])) : W p l e room_1 s m #[Value.ref sb] below meth c H locs cl sl (lw_Z below #[Value.ref sb] s) (F0 m 180 ls []) := by
  obtain ⟨hx, hb, hr, hml, hown, hts, hX, hbl, hlocks, hgv⟩ := C0
  have hts : ∀ w ∈ wsL_law, w.before #[Value.ref sb] s = true := fun w h => hts w (wsL_law_in w h)
  have hA : ∀ q : Nat, s.heap.size ≤ q → (fun q : Nat => s.heap.size ≤ q) q := fun _ h => h
  have hbA : ¬ (fun q : Nat => s.heap.size ≤ q) sb := Nat.not_le.mpr hbl
  have hb : c.code = cL_law := hb
  have hH := hH0.at hS
  have cL := c_L_carry l hfl D ct sa s.heap.size H.size b d g o f (xs (4 * n + 1)) (xs (4 * n + 2)) hI
  have cM := c_X3_carry l D ct sa aa g rf (xs (4 * n + 1)) (xs (4 * n + 2)) hI
  have hI2 := inv_carry hI (xs (4 * n + 1)) (xs (4 * n + 2))
  generalize hz9 : opCarry g (xs (4 * n + 1)) (xs (4 * n + 2)) = z at cL cM hI2
  refine lv_aload_n hx hb dL_law_180 rfl (lv_at hl 1 rfl) ?_
  refine lv_aload_n hx hb dL_law_181 rfl (lv_at hl 0 rfl) ?_
  refine lv_iload hx hb dL_law_182 (lv_at hl 4 rfl) ?_
  refine lv_iconst (v := nI 1) hx hb dL_law_184 (by decide) ?_
  refine hk_addN hx hb dL_law_185 ?_
  refine hk_sld hx hb hX hbl hbA hS (j := (4 * n) + 1) (by omega) hL dL_law_186 ?_
  refine lv_aload_n hx hb dL_law_187 rfl (lv_at hl 0 rfl) ?_
  refine lv_iload hx hb dL_law_188 (lv_at hl 4 rfl) ?_
  refine lv_iconst (v := nI 2) hx hb dL_law_190 (by decide) ?_
  refine hk_addN hx hb dL_law_191 ?_
  refine hk_sld hx hb hX hbl hbA hS (j := (4 * n) + 2) (by omega) hL dL_law_192 ?_
  refine lv_aload_n hx hb dL_law_193 rfl (lv_at hl 3 rfl) ?_
  refine hk_LL (wr := mdW ct aa g rf) (rest := []) (vx_runSW (As := [.ref (b 0), .int (xs ((4 * n) + 1)), .int (xs ((4 * n) + 2)), .ref o]) (rest := []) ⟨hx, hb, hml, hown, hts⟩ cL (vx_cwSW 4 hts gL_law_L_carry rfl rfl rfl (by decide +kernel) ⟨Nat.le_of_ble_eq_true rfl, Nat.le_of_ble_eq_true rfl⟩) (hk_prxS hE hH ⟨rfl, hP.right (w1 := mdW ct aa g rf), hD.right (w1 := mdW ct aa g rf)⟩) rfl rfl hl.1 rfl (lv_room (Nat.le_of_ble_eq_true rfl)) dL_law_194 ⟨by show _ ≤ 601024; omega, by show _ ≤ 7293034; omega⟩) rfl hP hD hS hA (fun d9 f9 H locs hf9 hP hD hS => ?_)
  have hP : va_P D vwCl (((aa 0), .inr (3, [.int rf, .int (nI (gN g)), .ref (aa 1), .ref (aa 2), .ref (aa 3), .ref (aa 4), .ref (aa 5), .ref (aa 6), .ref (aa 7), .ref (aa 8), .ref (aa 9), .int (nI (gd g)), .ref (aa 10), .int (nI (gc g)), .ref (aa 11), .ref (aa 12), .ref (aa 13)])) :: ((aa 1), .inl (ct 0, 60, .inl (mK g))) :: ((aa 2), .inl (ct 0, 60, .inl (mL g))) :: ((aa 3), .inl (ct 0, 5, .inl (mY g))) :: ((aa 4), .inl (ct 0, 60, .inl (mS g))) :: ((aa 5), .inl (ct 0, 720, .inl (mP g))) :: ((aa 6), .inl (ct 0, 5, .inl (mC g))) :: ((aa 7), .inl (ct 0, 5, .inl (mLa g))) :: ((aa 8), .inl (ct 0, 5, .inl (mQ g))) :: ((aa 9), .inl (ct 0, 150, .inl (mT g))) :: ((aa 10), .inl (ct 0, 24, .inl (mD g))) :: ((aa 11), .inl (ct 0, 6, .inl (mW g))) :: ((aa 12), .inl (ct 0, 30, .inl (mX g))) :: ((aa 13), .inl (ct 0, 30, .inl (mZ g))) :: hkLW ct b d9 z.2.2 o f9) H := hP
  have hD : va_D (fun q : Nat => s.heap.size ≤ q) (((aa 0), .inr (3, [.int rf, .int (nI (gN g)), .ref (aa 1), .ref (aa 2), .ref (aa 3), .ref (aa 4), .ref (aa 5), .ref (aa 6), .ref (aa 7), .ref (aa 8), .ref (aa 9), .int (nI (gd g)), .ref (aa 10), .int (nI (gc g)), .ref (aa 11), .ref (aa 12), .ref (aa 13)])) :: ((aa 1), .inl (ct 0, 60, .inl (mK g))) :: ((aa 2), .inl (ct 0, 60, .inl (mL g))) :: ((aa 3), .inl (ct 0, 5, .inl (mY g))) :: ((aa 4), .inl (ct 0, 60, .inl (mS g))) :: ((aa 5), .inl (ct 0, 720, .inl (mP g))) :: ((aa 6), .inl (ct 0, 5, .inl (mC g))) :: ((aa 7), .inl (ct 0, 5, .inl (mLa g))) :: ((aa 8), .inl (ct 0, 5, .inl (mQ g))) :: ((aa 9), .inl (ct 0, 150, .inl (mT g))) :: ((aa 10), .inl (ct 0, 24, .inl (mD g))) :: ((aa 11), .inl (ct 0, 6, .inl (mW g))) :: ((aa 12), .inl (ct 0, 30, .inl (mX g))) :: ((aa 13), .inl (ct 0, 30, .inl (mZ g))) :: hkLW ct b d9 z.2.2 o f9) := hD
  refine lv_istore (lv' := [(5, .int z.1), (0, .ref sb), (1, .ref (b 0)), (2, .ref (aa 0)), (3, .ref o), (4, .int (nI (4 * n)))]) hx hb dL_law_197 hl (by decide) rfl (fun ls hl => ?_)
  refine lv_aload_n hx hb dL_law_199 rfl (lv_at hl 3 rfl) ?_
  refine lv_aload_n hx hb dL_law_200 rfl (lv_at hl 1 rfl) ?_
  refine lv_iload hx hb dL_law_201 (lv_at hl 5 rfl) ?_
  refine lv_iconst (v := nI 1) hx hb dL_law_203 (by decide) ?_
  refine hk_addN hx hb dL_law_204 ?_
  refine hk_sld hx hb hX hbl hbA hS (j := (4 * n) + 1) (by omega) hL dL_law_205 ?_
  refine lv_aload_n hx hb dL_law_206 rfl (lv_at hl 1 rfl) ?_
  refine lv_iload hx hb dL_law_207 (lv_at hl 5 rfl) ?_
  refine lv_iconst (v := nI 2) hx hb dL_law_209 (by decide) ?_
  refine hk_addN hx hb dL_law_210 ?_
  refine hk_sld hx hb hX hbl hbA hS (j := (4 * n) + 2) (by omega) hL dL_law_211 ?_
  have hPm := hP.sub (ws' := [((aa 0), .inr (3, [.int rf, .int (nI (gN g)), .ref (aa 1), .ref (aa 2), .ref (aa 3), .ref (aa 4), .ref (aa 5), .ref (aa 6), .ref (aa 7), .ref (aa 8), .ref (aa 9), .int (nI (gd g)), .ref (aa 10), .int (nI (gc g)), .ref (aa 11), .ref (aa 12), .ref (aa 13)])), ((aa 1), .inl (ct 0, 60, .inl (mK g))), ((aa 2), .inl (ct 0, 60, .inl (mL g))), ((aa 3), .inl (ct 0, 5, .inl (mY g))), ((aa 4), .inl (ct 0, 60, .inl (mS g))), ((aa 5), .inl (ct 0, 720, .inl (mP g))), ((aa 6), .inl (ct 0, 5, .inl (mC g))), ((aa 7), .inl (ct 0, 5, .inl (mLa g))), ((aa 8), .inl (ct 0, 5, .inl (mQ g))), ((aa 9), .inl (ct 0, 150, .inl (mT g))), ((aa 10), .inl (ct 0, 24, .inl (mD g))), ((aa 11), .inl (ct 0, 6, .inl (mW g))), ((aa 12), .inl (ct 0, 30, .inl (mX g))), ((aa 13), .inl (ct 0, 30, .inl (mZ g)))]) [0, 1, 2, 3, 4, 5, 6, 7, 8, 9, 10, 11, 12, 13] rfl
  have hDm := hD.sub (ws' := [((aa 0), .inr (3, [.int rf, .int (nI (gN g)), .ref (aa 1), .ref (aa 2), .ref (aa 3), .ref (aa 4), .ref (aa 5), .ref (aa 6), .ref (aa 7), .ref (aa 8), .ref (aa 9), .int (nI (gd g)), .ref (aa 10), .int (nI (gc g)), .ref (aa 11), .ref (aa 12), .ref (aa 13)])), ((aa 1), .inl (ct 0, 60, .inl (mK g))), ((aa 2), .inl (ct 0, 60, .inl (mL g))), ((aa 3), .inl (ct 0, 5, .inl (mY g))), ((aa 4), .inl (ct 0, 60, .inl (mS g))), ((aa 5), .inl (ct 0, 720, .inl (mP g))), ((aa 6), .inl (ct 0, 5, .inl (mC g))), ((aa 7), .inl (ct 0, 5, .inl (mLa g))), ((aa 8), .inl (ct 0, 5, .inl (mQ g))), ((aa 9), .inl (ct 0, 150, .inl (mT g))), ((aa 10), .inl (ct 0, 24, .inl (mD g))), ((aa 11), .inl (ct 0, 6, .inl (mW g))), ((aa 12), .inl (ct 0, 30, .inl (mX g))), ((aa 13), .inl (ct 0, 30, .inl (mZ g)))]) [0, 1, 2, 3, 4, 5, 6, 7, 8, 9, 10, 11, 12, 13] (by decide) rfl
  refine hk_M (w1 := mdW ct aa z.2.2 z.1) (rest := []) (va_Run.run (va_runV (As := [.int (xs ((4 * n) + 1)), .int (xs ((4 * n) + 2))]) (rest := []) ⟨hx, hb, hml, hown, hts⟩ cM (cwV 2 hts gL_law_X3_carry rfl rfl rfl (by decide +kernel) ⟨Nat.le_of_ble_eq_true rfl, Nat.le_of_ble_eq_true rfl⟩) (hk_preV hE (va_recv hE.1 hP (ci := 3) (q0 := 0) rfl rfl) ⟨hPm, hDm.weaken (fun _ _ _ _ => trivial)⟩) rfl rfl hl.1 rfl (lv_room (Nat.le_of_ble_eq_true rfl)) dL_law_212 ⟨by show _ ≤ 601024; omega, by show _ ≤ 7293034; omega⟩)) hP hD hS [0, 1, 2, 3, 4, 5, 6, 7, 8, 9, 10, 11, 12, 13] (wc := [((aa 0), .inr (3, [.int rf, .int (nI (gN g)), .ref (aa 1), .ref (aa 2), .ref (aa 3), .ref (aa 4), .ref (aa 5), .ref (aa 6), .ref (aa 7), .ref (aa 8), .ref (aa 9), .int (nI (gd g)), .ref (aa 10), .int (nI (gc g)), .ref (aa 11), .ref (aa 12), .ref (aa 13)])), ((aa 1), .inl (ct 0, 60, .inl (mK g))), ((aa 2), .inl (ct 0, 60, .inl (mL g))), ((aa 3), .inl (ct 0, 5, .inl (mY g))), ((aa 4), .inl (ct 0, 60, .inl (mS g))), ((aa 5), .inl (ct 0, 720, .inl (mP g))), ((aa 6), .inl (ct 0, 5, .inl (mC g))), ((aa 7), .inl (ct 0, 5, .inl (mLa g))), ((aa 8), .inl (ct 0, 5, .inl (mQ g))), ((aa 9), .inl (ct 0, 150, .inl (mT g))), ((aa 10), .inl (ct 0, 24, .inl (mD g))), ((aa 11), .inl (ct 0, 6, .inl (mW g))), ((aa 12), .inl (ct 0, 30, .inl (mX g))), ((aa 13), .inl (ct 0, 30, .inl (mZ g)))]) rfl rfl rfl (fun H locs hP hD hS => ?_)
  have hP : va_P D vwCl (((aa 0), .inr (3, [.int z.1, .int (nI (gN z.2.2)), .ref (aa 1), .ref (aa 2), .ref (aa 3), .ref (aa 4), .ref (aa 5), .ref (aa 6), .ref (aa 7), .ref (aa 8), .ref (aa 9), .int (nI (gd z.2.2)), .ref (aa 10), .int (nI (gc z.2.2)), .ref (aa 11), .ref (aa 12), .ref (aa 13)])) :: ((aa 1), .inl (ct 0, 60, .inl (mK z.2.2))) :: ((aa 2), .inl (ct 0, 60, .inl (mL z.2.2))) :: ((aa 3), .inl (ct 0, 5, .inl (mY z.2.2))) :: ((aa 4), .inl (ct 0, 60, .inl (mS z.2.2))) :: ((aa 5), .inl (ct 0, 720, .inl (mP z.2.2))) :: ((aa 6), .inl (ct 0, 5, .inl (mC z.2.2))) :: ((aa 7), .inl (ct 0, 5, .inl (mLa z.2.2))) :: ((aa 8), .inl (ct 0, 5, .inl (mQ z.2.2))) :: ((aa 9), .inl (ct 0, 150, .inl (mT z.2.2))) :: ((aa 10), .inl (ct 0, 24, .inl (mD z.2.2))) :: ((aa 11), .inl (ct 0, 6, .inl (mW z.2.2))) :: ((aa 12), .inl (ct 0, 30, .inl (mX z.2.2))) :: ((aa 13), .inl (ct 0, 30, .inl (mZ z.2.2))) :: hkLW ct b d9 z.2.2 o f9) H := hP
  have hD : va_D (fun q : Nat => s.heap.size ≤ q) (((aa 0), .inr (3, [.int z.1, .int (nI (gN z.2.2)), .ref (aa 1), .ref (aa 2), .ref (aa 3), .ref (aa 4), .ref (aa 5), .ref (aa 6), .ref (aa 7), .ref (aa 8), .ref (aa 9), .int (nI (gd z.2.2)), .ref (aa 10), .int (nI (gc z.2.2)), .ref (aa 11), .ref (aa 12), .ref (aa 13)])) :: ((aa 1), .inl (ct 0, 60, .inl (mK z.2.2))) :: ((aa 2), .inl (ct 0, 60, .inl (mL z.2.2))) :: ((aa 3), .inl (ct 0, 5, .inl (mY z.2.2))) :: ((aa 4), .inl (ct 0, 60, .inl (mS z.2.2))) :: ((aa 5), .inl (ct 0, 720, .inl (mP z.2.2))) :: ((aa 6), .inl (ct 0, 5, .inl (mC z.2.2))) :: ((aa 7), .inl (ct 0, 5, .inl (mLa z.2.2))) :: ((aa 8), .inl (ct 0, 5, .inl (mQ z.2.2))) :: ((aa 9), .inl (ct 0, 150, .inl (mT z.2.2))) :: ((aa 10), .inl (ct 0, 24, .inl (mD z.2.2))) :: ((aa 11), .inl (ct 0, 6, .inl (mW z.2.2))) :: ((aa 12), .inl (ct 0, 30, .inl (mX z.2.2))) :: ((aa 13), .inl (ct 0, 30, .inl (mZ z.2.2))) :: hkLW ct b d9 z.2.2 o f9) := hD
  refine lv_istore (lv' := [(6, .int z.2.1), (5, .int z.1), (0, .ref sb), (1, .ref (b 0)), (2, .ref (aa 0)), (3, .ref o), (4, .int (nI (4 * n)))]) hx hb dL_law_215 hl (by decide) rfl (fun ls hl => ?_)
  refine lv_aload_n hx hb dL_law_217 rfl (lv_at hl 4 rfl) ?_
  refine hk_R (rest := []) (va_Run.run (va_runV (As := []) (rest := []) ⟨hx, hb, hml, hown, hts⟩ (c_X3_thrown l D ct sa aa z.2.2 z.1) (cwV 0 hts gL_law_X3_thrown rfl rfl rfl (by decide +kernel) ⟨Nat.le_of_ble_eq_true rfl, Nat.le_of_ble_eq_true rfl⟩) (hk_preV hE (va_recv hE.1 hP (ci := 3) (q0 := 0) rfl rfl) (hP.sub (ws' := [((aa 0), .inr (3, [.int z.1, .int (nI (gN z.2.2)), .ref (aa 1), .ref (aa 2), .ref (aa 3), .ref (aa 4), .ref (aa 5), .ref (aa 6), .ref (aa 7), .ref (aa 8), .ref (aa 9), .int (nI (gd z.2.2)), .ref (aa 10), .int (nI (gc z.2.2)), .ref (aa 11), .ref (aa 12), .ref (aa 13)]))]) [0] rfl)) rfl rfl hl.1 rfl (lv_room (Nat.le_of_ble_eq_true rfl)) dL_law_218 ⟨by show _ ≤ 601024; omega, by show _ ≤ 7293034; omega⟩)) ?_
  refine lv_iload hx hb dL_law_221 (lv_at hl 1 rfl) ?_
  refine lv_icmp_eq (tgt := 228) hx hb dL_law_223 (by decide) (fun hq => ?_) (fun hq => ?_)
  · refine lv_iload hx hb dL_law_228 (lv_at hl 1 rfl) ?_
    refine lv_if_ne (tgt := 245) hx hb dL_law_230 (by decide) (fun hq0 => ?_) (fun hq0 => ?_)
    · refine lv_goto (tgt := 1492) hx hb dL_law_245 (by decide) ?_
      refine W.widen (k := cl + 6) (n := sl + 218) (by omega) (by omega) ?_
      exact kk d9 z.2.2 f9 z.1 _ _ ls hI2 hP hD hS (lv_sub hl [2, 3, 4, 5, 6] rfl)
    · have hv9 := hf9 hq0
      refine lv_aload_n hx hb dL_law_233 rfl (lv_at hl 5 rfl) ?_
      refine lv_iconst (v := nI 0) hx hb dL_law_234 (by decide) ?_
      refine hk_lld hx hb hE hP 14 rfl (j := 0) (by decide) (by decide) dL_law_235 ?_
      rw [hv9]
      refine lv_iload hx hb dL_law_236 (lv_at hl 0 rfl) ?_
      refine lv_i2l hx hb dL_law_238 rfl ?_
      refine hk_lcmpE hx hb dL_law_239 ?_
      refine lv_if_eq (tgt := 245) hx hb dL_law_240 (by decide) (fun hq7 => ?_) (fun hq7 => ?_)
      · refine lv_goto (tgt := 1492) hx hb dL_law_245 (by decide) ?_
        refine W.widen (k := cl + 6) (n := sl + 218) (by omega) (by omega) ?_
        exact kk d9 z.2.2 f9 z.1 _ _ ls hI2 hP hD hS (lv_sub hl [2, 3, 4, 5, 6] rfl)
      · exact absurd rfl hq7
  · exact absurd rfl hq

set_option maxHeartbeats 4000000 in
set_option maxRecDepth 100000 in
theorem lw_k_swap {p : Program} {e : Env} {s : State} {m : MethodId} {below : List Frame} {meth : Method} {c : Code} (l : Launch) (hfl : l.flags = flags0) {D : va_G} {ct : Nat → ClassId} {sa : Nat → Nat} {sb L : Nat} {xs : Nat → Int32} {b aa : Nat → Nat} {o : Nat} (hL : L ≤ 2048) (C0 : lw_At p s m meth c sb L xs) (hE : hkE D ct sa s) (hH0 : hkH s.heap.size s s.heap) {n cl sl : Nat} (hn : 4 * n + 4 ≤ L) (hcl : cl + 6 ≤ 601024) (hsl : sl + 218 ≤ 7293034) {g : Sg} {d : Ad} {f : Nat → Int64} {rf : Int32} {H : Heap} {locs : List Loc} {ls : Array Slot} (hI : Inv g) (hP : va_P D vwCl (mdW ct aa g rf ++ hkLW ct b d g o f) H) (hD : va_D (fun q : Nat => s.heap.size ≤ q) (mdW ct aa g rf ++ hkLW ct b d g o f)) (hS : va_S (fun q : Nat => s.heap.size ≤ q) s.heap H locs) (hl : lv_has ls 7 [(0, .ref sb), (1, .ref (b 0)), (2, .ref (aa 0)), (3, .ref o), (4, .int (nI (4 * n)))]) (kk : ∀ (d' : Ad) (g' : Sg) (f' : Nat → Int64) (rf' : Int32) (H1 : Heap) (locs1 : List Loc) (ls1 : Array Slot), Inv g' → va_P D vwCl (mdW ct aa g' rf' ++ hkLW ct b d' g' o f') H1 → va_D (fun q : Nat => s.heap.size ≤ q) (mdW ct aa g' rf' ++ hkLW ct b d' g' o f') → va_S (fun q : Nat => s.heap.size ≤ q) s.heap H1 locs1 → lv_has ls1 7 [(0, .ref sb), (1, .ref (b 0)), (2, .ref (aa 0)), (3, .ref o), (4, .int (nI (4 * n)))] → W p l e room_1 s m #[Value.ref sb] below meth c H1 locs1 (cl + 6) (sl + 218) (lw_Z below #[Value.ref sb] s) (F0 m 1492 ls1 [])) : W p l e room_1 s m #[Value.ref sb] below meth c H locs cl sl (lw_Z below #[Value.ref sb] s) (F0 m 248 ls []) := by
  obtain ⟨hx, hb, hr, hml, hown, hts, hX, hbl, hlocks, hgv⟩ := C0
  have hts : ∀ w ∈ wsL_law, w.before #[Value.ref sb] s = true := fun w h => hts w (wsL_law_in w h)
  have hA : ∀ q : Nat, s.heap.size ≤ q → (fun q : Nat => s.heap.size ≤ q) q := fun _ h => h
  have hbA : ¬ (fun q : Nat => s.heap.size ≤ q) sb := Nat.not_le.mpr hbl
  have hb : c.code = cL_law := hb
  have hH := hH0.at hS
  have cL := c_L_swap l hfl D ct sa s.heap.size H.size b d g o f (xs (4 * n + 1)) (xs (4 * n + 2)) (xs (4 * n + 3)) hI
  have cM := c_X3_swap l D ct sa aa g rf (xs (4 * n + 1)) (xs (4 * n + 2)) (xs (4 * n + 3)) hI
  have hI2 := inv_swap hI (xs (4 * n + 1)) (xs (4 * n + 2)) (xs (4 * n + 3))
  generalize hz9 : opSwap g (xs (4 * n + 1)) (xs (4 * n + 2)) (xs (4 * n + 3)) = z at cL cM hI2
  refine lv_aload_n hx hb dL_law_248 rfl (lv_at hl 1 rfl) ?_
  refine lv_aload_n hx hb dL_law_249 rfl (lv_at hl 0 rfl) ?_
  refine lv_iload hx hb dL_law_250 (lv_at hl 4 rfl) ?_
  refine lv_iconst (v := nI 1) hx hb dL_law_252 (by decide) ?_
  refine hk_addN hx hb dL_law_253 ?_
  refine hk_sld hx hb hX hbl hbA hS (j := (4 * n) + 1) (by omega) hL dL_law_254 ?_
  refine lv_aload_n hx hb dL_law_255 rfl (lv_at hl 0 rfl) ?_
  refine lv_iload hx hb dL_law_256 (lv_at hl 4 rfl) ?_
  refine lv_iconst (v := nI 2) hx hb dL_law_258 (by decide) ?_
  refine hk_addN hx hb dL_law_259 ?_
  refine hk_sld hx hb hX hbl hbA hS (j := (4 * n) + 2) (by omega) hL dL_law_260 ?_
  refine lv_aload_n hx hb dL_law_261 rfl (lv_at hl 0 rfl) ?_
  refine lv_iload hx hb dL_law_262 (lv_at hl 4 rfl) ?_
  refine lv_iconst (v := nI 3) hx hb dL_law_264 (by decide) ?_
  refine hk_addN hx hb dL_law_265 ?_
  refine hk_sld hx hb hX hbl hbA hS (j := (4 * n) + 3) (by omega) hL dL_law_266 ?_
  refine lv_aload_n hx hb dL_law_267 rfl (lv_at hl 3 rfl) ?_
  refine hk_LL (wr := mdW ct aa g rf) (rest := []) (vx_runSW (As := [.ref (b 0), .int (xs ((4 * n) + 1)), .int (xs ((4 * n) + 2)), .int (xs ((4 * n) + 3)), .ref o]) (rest := []) ⟨hx, hb, hml, hown, hts⟩ cL (vx_cwSW 5 hts gL_law_L_swap rfl rfl rfl (by decide +kernel) ⟨Nat.le_of_ble_eq_true rfl, Nat.le_of_ble_eq_true rfl⟩) (hk_prxS hE hH ⟨rfl, hP.right (w1 := mdW ct aa g rf), hD.right (w1 := mdW ct aa g rf)⟩) rfl rfl hl.1 rfl (lv_room (Nat.le_of_ble_eq_true rfl)) dL_law_268 ⟨by show _ ≤ 601024; omega, by show _ ≤ 7293034; omega⟩) rfl hP hD hS hA (fun d9 f9 H locs hf9 hP hD hS => ?_)
  have hP : va_P D vwCl (((aa 0), .inr (3, [.int rf, .int (nI (gN g)), .ref (aa 1), .ref (aa 2), .ref (aa 3), .ref (aa 4), .ref (aa 5), .ref (aa 6), .ref (aa 7), .ref (aa 8), .ref (aa 9), .int (nI (gd g)), .ref (aa 10), .int (nI (gc g)), .ref (aa 11), .ref (aa 12), .ref (aa 13)])) :: ((aa 1), .inl (ct 0, 60, .inl (mK g))) :: ((aa 2), .inl (ct 0, 60, .inl (mL g))) :: ((aa 3), .inl (ct 0, 5, .inl (mY g))) :: ((aa 4), .inl (ct 0, 60, .inl (mS g))) :: ((aa 5), .inl (ct 0, 720, .inl (mP g))) :: ((aa 6), .inl (ct 0, 5, .inl (mC g))) :: ((aa 7), .inl (ct 0, 5, .inl (mLa g))) :: ((aa 8), .inl (ct 0, 5, .inl (mQ g))) :: ((aa 9), .inl (ct 0, 150, .inl (mT g))) :: ((aa 10), .inl (ct 0, 24, .inl (mD g))) :: ((aa 11), .inl (ct 0, 6, .inl (mW g))) :: ((aa 12), .inl (ct 0, 30, .inl (mX g))) :: ((aa 13), .inl (ct 0, 30, .inl (mZ g))) :: hkLW ct b d9 z.2.2 o f9) H := hP
  have hD : va_D (fun q : Nat => s.heap.size ≤ q) (((aa 0), .inr (3, [.int rf, .int (nI (gN g)), .ref (aa 1), .ref (aa 2), .ref (aa 3), .ref (aa 4), .ref (aa 5), .ref (aa 6), .ref (aa 7), .ref (aa 8), .ref (aa 9), .int (nI (gd g)), .ref (aa 10), .int (nI (gc g)), .ref (aa 11), .ref (aa 12), .ref (aa 13)])) :: ((aa 1), .inl (ct 0, 60, .inl (mK g))) :: ((aa 2), .inl (ct 0, 60, .inl (mL g))) :: ((aa 3), .inl (ct 0, 5, .inl (mY g))) :: ((aa 4), .inl (ct 0, 60, .inl (mS g))) :: ((aa 5), .inl (ct 0, 720, .inl (mP g))) :: ((aa 6), .inl (ct 0, 5, .inl (mC g))) :: ((aa 7), .inl (ct 0, 5, .inl (mLa g))) :: ((aa 8), .inl (ct 0, 5, .inl (mQ g))) :: ((aa 9), .inl (ct 0, 150, .inl (mT g))) :: ((aa 10), .inl (ct 0, 24, .inl (mD g))) :: ((aa 11), .inl (ct 0, 6, .inl (mW g))) :: ((aa 12), .inl (ct 0, 30, .inl (mX g))) :: ((aa 13), .inl (ct 0, 30, .inl (mZ g))) :: hkLW ct b d9 z.2.2 o f9) := hD
  refine lv_istore (lv' := [(5, .int z.1), (0, .ref sb), (1, .ref (b 0)), (2, .ref (aa 0)), (3, .ref o), (4, .int (nI (4 * n)))]) hx hb dL_law_271 hl (by decide) rfl (fun ls hl => ?_)
  refine lv_aload_n hx hb dL_law_273 rfl (lv_at hl 3 rfl) ?_
  refine lv_aload_n hx hb dL_law_274 rfl (lv_at hl 1 rfl) ?_
  refine lv_iload hx hb dL_law_275 (lv_at hl 5 rfl) ?_
  refine lv_iconst (v := nI 1) hx hb dL_law_277 (by decide) ?_
  refine hk_addN hx hb dL_law_278 ?_
  refine hk_sld hx hb hX hbl hbA hS (j := (4 * n) + 1) (by omega) hL dL_law_279 ?_
  refine lv_aload_n hx hb dL_law_280 rfl (lv_at hl 1 rfl) ?_
  refine lv_iload hx hb dL_law_281 (lv_at hl 5 rfl) ?_
  refine lv_iconst (v := nI 2) hx hb dL_law_283 (by decide) ?_
  refine hk_addN hx hb dL_law_284 ?_
  refine hk_sld hx hb hX hbl hbA hS (j := (4 * n) + 2) (by omega) hL dL_law_285 ?_
  refine lv_aload_n hx hb dL_law_286 rfl (lv_at hl 1 rfl) ?_
  refine lv_iload hx hb dL_law_287 (lv_at hl 5 rfl) ?_
  refine lv_iconst (v := nI 3) hx hb dL_law_289 (by decide) ?_
  refine hk_addN hx hb dL_law_290 ?_
  refine hk_sld hx hb hX hbl hbA hS (j := (4 * n) + 3) (by omega) hL dL_law_291 ?_
  have hPm := hP.sub (ws' := [((aa 0), .inr (3, [.int rf, .int (nI (gN g)), .ref (aa 1), .ref (aa 2), .ref (aa 3), .ref (aa 4), .ref (aa 5), .ref (aa 6), .ref (aa 7), .ref (aa 8), .ref (aa 9), .int (nI (gd g)), .ref (aa 10), .int (nI (gc g)), .ref (aa 11), .ref (aa 12), .ref (aa 13)])), ((aa 1), .inl (ct 0, 60, .inl (mK g))), ((aa 2), .inl (ct 0, 60, .inl (mL g))), ((aa 3), .inl (ct 0, 5, .inl (mY g))), ((aa 4), .inl (ct 0, 60, .inl (mS g))), ((aa 5), .inl (ct 0, 720, .inl (mP g))), ((aa 6), .inl (ct 0, 5, .inl (mC g))), ((aa 7), .inl (ct 0, 5, .inl (mLa g))), ((aa 8), .inl (ct 0, 5, .inl (mQ g))), ((aa 9), .inl (ct 0, 150, .inl (mT g))), ((aa 10), .inl (ct 0, 24, .inl (mD g))), ((aa 11), .inl (ct 0, 6, .inl (mW g))), ((aa 12), .inl (ct 0, 30, .inl (mX g))), ((aa 13), .inl (ct 0, 30, .inl (mZ g)))]) [0, 1, 2, 3, 4, 5, 6, 7, 8, 9, 10, 11, 12, 13] rfl
  have hDm := hD.sub (ws' := [((aa 0), .inr (3, [.int rf, .int (nI (gN g)), .ref (aa 1), .ref (aa 2), .ref (aa 3), .ref (aa 4), .ref (aa 5), .ref (aa 6), .ref (aa 7), .ref (aa 8), .ref (aa 9), .int (nI (gd g)), .ref (aa 10), .int (nI (gc g)), .ref (aa 11), .ref (aa 12), .ref (aa 13)])), ((aa 1), .inl (ct 0, 60, .inl (mK g))), ((aa 2), .inl (ct 0, 60, .inl (mL g))), ((aa 3), .inl (ct 0, 5, .inl (mY g))), ((aa 4), .inl (ct 0, 60, .inl (mS g))), ((aa 5), .inl (ct 0, 720, .inl (mP g))), ((aa 6), .inl (ct 0, 5, .inl (mC g))), ((aa 7), .inl (ct 0, 5, .inl (mLa g))), ((aa 8), .inl (ct 0, 5, .inl (mQ g))), ((aa 9), .inl (ct 0, 150, .inl (mT g))), ((aa 10), .inl (ct 0, 24, .inl (mD g))), ((aa 11), .inl (ct 0, 6, .inl (mW g))), ((aa 12), .inl (ct 0, 30, .inl (mX g))), ((aa 13), .inl (ct 0, 30, .inl (mZ g)))]) [0, 1, 2, 3, 4, 5, 6, 7, 8, 9, 10, 11, 12, 13] (by decide) rfl
  refine hk_M (w1 := mdW ct aa z.2.2 z.1) (rest := []) (va_Run.run (va_runV (As := [.int (xs ((4 * n) + 1)), .int (xs ((4 * n) + 2)), .int (xs ((4 * n) + 3))]) (rest := []) ⟨hx, hb, hml, hown, hts⟩ cM (cwV 3 hts gL_law_X3_swap rfl rfl rfl (by decide +kernel) ⟨Nat.le_of_ble_eq_true rfl, Nat.le_of_ble_eq_true rfl⟩) (hk_preV hE (va_recv hE.1 hP (ci := 3) (q0 := 0) rfl rfl) ⟨hPm, hDm.weaken (fun _ _ _ _ => trivial)⟩) rfl rfl hl.1 rfl (lv_room (Nat.le_of_ble_eq_true rfl)) dL_law_292 ⟨by show _ ≤ 601024; omega, by show _ ≤ 7293034; omega⟩)) hP hD hS [0, 1, 2, 3, 4, 5, 6, 7, 8, 9, 10, 11, 12, 13] (wc := [((aa 0), .inr (3, [.int rf, .int (nI (gN g)), .ref (aa 1), .ref (aa 2), .ref (aa 3), .ref (aa 4), .ref (aa 5), .ref (aa 6), .ref (aa 7), .ref (aa 8), .ref (aa 9), .int (nI (gd g)), .ref (aa 10), .int (nI (gc g)), .ref (aa 11), .ref (aa 12), .ref (aa 13)])), ((aa 1), .inl (ct 0, 60, .inl (mK g))), ((aa 2), .inl (ct 0, 60, .inl (mL g))), ((aa 3), .inl (ct 0, 5, .inl (mY g))), ((aa 4), .inl (ct 0, 60, .inl (mS g))), ((aa 5), .inl (ct 0, 720, .inl (mP g))), ((aa 6), .inl (ct 0, 5, .inl (mC g))), ((aa 7), .inl (ct 0, 5, .inl (mLa g))), ((aa 8), .inl (ct 0, 5, .inl (mQ g))), ((aa 9), .inl (ct 0, 150, .inl (mT g))), ((aa 10), .inl (ct 0, 24, .inl (mD g))), ((aa 11), .inl (ct 0, 6, .inl (mW g))), ((aa 12), .inl (ct 0, 30, .inl (mX g))), ((aa 13), .inl (ct 0, 30, .inl (mZ g)))]) rfl rfl rfl (fun H locs hP hD hS => ?_)
  have hP : va_P D vwCl (((aa 0), .inr (3, [.int z.1, .int (nI (gN z.2.2)), .ref (aa 1), .ref (aa 2), .ref (aa 3), .ref (aa 4), .ref (aa 5), .ref (aa 6), .ref (aa 7), .ref (aa 8), .ref (aa 9), .int (nI (gd z.2.2)), .ref (aa 10), .int (nI (gc z.2.2)), .ref (aa 11), .ref (aa 12), .ref (aa 13)])) :: ((aa 1), .inl (ct 0, 60, .inl (mK z.2.2))) :: ((aa 2), .inl (ct 0, 60, .inl (mL z.2.2))) :: ((aa 3), .inl (ct 0, 5, .inl (mY z.2.2))) :: ((aa 4), .inl (ct 0, 60, .inl (mS z.2.2))) :: ((aa 5), .inl (ct 0, 720, .inl (mP z.2.2))) :: ((aa 6), .inl (ct 0, 5, .inl (mC z.2.2))) :: ((aa 7), .inl (ct 0, 5, .inl (mLa z.2.2))) :: ((aa 8), .inl (ct 0, 5, .inl (mQ z.2.2))) :: ((aa 9), .inl (ct 0, 150, .inl (mT z.2.2))) :: ((aa 10), .inl (ct 0, 24, .inl (mD z.2.2))) :: ((aa 11), .inl (ct 0, 6, .inl (mW z.2.2))) :: ((aa 12), .inl (ct 0, 30, .inl (mX z.2.2))) :: ((aa 13), .inl (ct 0, 30, .inl (mZ z.2.2))) :: hkLW ct b d9 z.2.2 o f9) H := hP
  have hD : va_D (fun q : Nat => s.heap.size ≤ q) (((aa 0), .inr (3, [.int z.1, .int (nI (gN z.2.2)), .ref (aa 1), .ref (aa 2), .ref (aa 3), .ref (aa 4), .ref (aa 5), .ref (aa 6), .ref (aa 7), .ref (aa 8), .ref (aa 9), .int (nI (gd z.2.2)), .ref (aa 10), .int (nI (gc z.2.2)), .ref (aa 11), .ref (aa 12), .ref (aa 13)])) :: ((aa 1), .inl (ct 0, 60, .inl (mK z.2.2))) :: ((aa 2), .inl (ct 0, 60, .inl (mL z.2.2))) :: ((aa 3), .inl (ct 0, 5, .inl (mY z.2.2))) :: ((aa 4), .inl (ct 0, 60, .inl (mS z.2.2))) :: ((aa 5), .inl (ct 0, 720, .inl (mP z.2.2))) :: ((aa 6), .inl (ct 0, 5, .inl (mC z.2.2))) :: ((aa 7), .inl (ct 0, 5, .inl (mLa z.2.2))) :: ((aa 8), .inl (ct 0, 5, .inl (mQ z.2.2))) :: ((aa 9), .inl (ct 0, 150, .inl (mT z.2.2))) :: ((aa 10), .inl (ct 0, 24, .inl (mD z.2.2))) :: ((aa 11), .inl (ct 0, 6, .inl (mW z.2.2))) :: ((aa 12), .inl (ct 0, 30, .inl (mX z.2.2))) :: ((aa 13), .inl (ct 0, 30, .inl (mZ z.2.2))) :: hkLW ct b d9 z.2.2 o f9) := hD
  refine lv_istore (lv' := [(6, .int z.2.1), (5, .int z.1), (0, .ref sb), (1, .ref (b 0)), (2, .ref (aa 0)), (3, .ref o), (4, .int (nI (4 * n)))]) hx hb dL_law_295 hl (by decide) rfl (fun ls hl => ?_)
  refine lv_aload_n hx hb dL_law_297 rfl (lv_at hl 4 rfl) ?_
  refine hk_R (rest := []) (va_Run.run (va_runV (As := []) (rest := []) ⟨hx, hb, hml, hown, hts⟩ (c_X3_thrown l D ct sa aa z.2.2 z.1) (cwV 0 hts gL_law_X3_thrown rfl rfl rfl (by decide +kernel) ⟨Nat.le_of_ble_eq_true rfl, Nat.le_of_ble_eq_true rfl⟩) (hk_preV hE (va_recv hE.1 hP (ci := 3) (q0 := 0) rfl rfl) (hP.sub (ws' := [((aa 0), .inr (3, [.int z.1, .int (nI (gN z.2.2)), .ref (aa 1), .ref (aa 2), .ref (aa 3), .ref (aa 4), .ref (aa 5), .ref (aa 6), .ref (aa 7), .ref (aa 8), .ref (aa 9), .int (nI (gd z.2.2)), .ref (aa 10), .int (nI (gc z.2.2)), .ref (aa 11), .ref (aa 12), .ref (aa 13)]))]) [0] rfl)) rfl rfl hl.1 rfl (lv_room (Nat.le_of_ble_eq_true rfl)) dL_law_298 ⟨by show _ ≤ 601024; omega, by show _ ≤ 7293034; omega⟩)) ?_
  refine lv_iload hx hb dL_law_301 (lv_at hl 1 rfl) ?_
  refine lv_icmp_eq (tgt := 308) hx hb dL_law_303 (by decide) (fun hq => ?_) (fun hq => ?_)
  · refine lv_iload hx hb dL_law_308 (lv_at hl 1 rfl) ?_
    refine lv_if_ne (tgt := 325) hx hb dL_law_310 (by decide) (fun hq0 => ?_) (fun hq0 => ?_)
    · refine lv_goto (tgt := 1492) hx hb dL_law_325 (by decide) ?_
      refine W.widen (k := cl + 6) (n := sl + 218) (by omega) (by omega) ?_
      exact kk d9 z.2.2 f9 z.1 _ _ ls hI2 hP hD hS (lv_sub hl [2, 3, 4, 5, 6] rfl)
    · have hv9 := hf9 hq0
      refine lv_aload_n hx hb dL_law_313 rfl (lv_at hl 5 rfl) ?_
      refine lv_iconst (v := nI 0) hx hb dL_law_314 (by decide) ?_
      refine hk_lld hx hb hE hP 14 rfl (j := 0) (by decide) (by decide) dL_law_315 ?_
      rw [hv9]
      refine lv_iload hx hb dL_law_316 (lv_at hl 0 rfl) ?_
      refine lv_i2l hx hb dL_law_318 rfl ?_
      refine hk_lcmpE hx hb dL_law_319 ?_
      refine lv_if_eq (tgt := 325) hx hb dL_law_320 (by decide) (fun hq7 => ?_) (fun hq7 => ?_)
      · refine lv_goto (tgt := 1492) hx hb dL_law_325 (by decide) ?_
        refine W.widen (k := cl + 6) (n := sl + 218) (by omega) (by omega) ?_
        exact kk d9 z.2.2 f9 z.1 _ _ ls hI2 hP hD hS (lv_sub hl [2, 3, 4, 5, 6] rfl)
      · exact absurd rfl hq7
  · exact absurd rfl hq

set_option maxHeartbeats 4000000 in
set_option maxRecDepth 100000 in
theorem lw_k_keyOf {p : Program} {e : Env} {s : State} {m : MethodId} {below : List Frame} {meth : Method} {c : Code} (l : Launch) (hfl : l.flags = flags0) {D : va_G} {ct : Nat → ClassId} {sa : Nat → Nat} {sb L : Nat} {xs : Nat → Int32} {b aa : Nat → Nat} {o : Nat} (hL : L ≤ 2048) (C0 : lw_At p s m meth c sb L xs) (hE : hkE D ct sa s) (hH0 : hkH s.heap.size s s.heap) {n cl sl : Nat} (hn : 4 * n + 4 ≤ L) (hcl : cl + 6 ≤ 601024) (hsl : sl + 218 ≤ 7293034) {g : Sg} {d : Ad} {f : Nat → Int64} {rf : Int32} {H : Heap} {locs : List Loc} {ls : Array Slot} (hI : Inv g) (hP : va_P D vwCl (mdW ct aa g rf ++ hkLW ct b d g o f) H) (hD : va_D (fun q : Nat => s.heap.size ≤ q) (mdW ct aa g rf ++ hkLW ct b d g o f)) (hS : va_S (fun q : Nat => s.heap.size ≤ q) s.heap H locs) (hl : lv_has ls 7 [(0, .ref sb), (1, .ref (b 0)), (2, .ref (aa 0)), (3, .ref o), (4, .int (nI (4 * n)))]) (kk : ∀ (d' : Ad) (g' : Sg) (f' : Nat → Int64) (rf' : Int32) (H1 : Heap) (locs1 : List Loc) (ls1 : Array Slot), Inv g' → va_P D vwCl (mdW ct aa g' rf' ++ hkLW ct b d' g' o f') H1 → va_D (fun q : Nat => s.heap.size ≤ q) (mdW ct aa g' rf' ++ hkLW ct b d' g' o f') → va_S (fun q : Nat => s.heap.size ≤ q) s.heap H1 locs1 → lv_has ls1 7 [(0, .ref sb), (1, .ref (b 0)), (2, .ref (aa 0)), (3, .ref o), (4, .int (nI (4 * n)))] → W p l e room_1 s m #[Value.ref sb] below meth c H1 locs1 (cl + 6) (sl + 218) (lw_Z below #[Value.ref sb] s) (F0 m 1492 ls1 [])) : W p l e room_1 s m #[Value.ref sb] below meth c H locs cl sl (lw_Z below #[Value.ref sb] s) (F0 m 328 ls []) := by
  obtain ⟨hx, hb, hr, hml, hown, hts, hX, hbl, hlocks, hgv⟩ := C0
  have hts : ∀ w ∈ wsL_law, w.before #[Value.ref sb] s = true := fun w h => hts w (wsL_law_in w h)
  have hA : ∀ q : Nat, s.heap.size ≤ q → (fun q : Nat => s.heap.size ≤ q) q := fun _ h => h
  have hbA : ¬ (fun q : Nat => s.heap.size ≤ q) sb := Nat.not_le.mpr hbl
  have hb : c.code = cL_law := hb
  have hH := hH0.at hS
  have cL := c_L_keyOf l hfl D ct sa s.heap.size H.size b d g o f (xs (4 * n + 1)) (xs (4 * n + 2)) hI
  have cM := c_X3_keyOf l D ct sa aa g rf (xs (4 * n + 1)) (xs (4 * n + 2)) hI
  have hI2 := inv_keyOf hI (xs (4 * n + 1)) (xs (4 * n + 2))
  generalize hz9 : opKeyOf g (xs (4 * n + 1)) (xs (4 * n + 2)) = z at cL cM hI2
  refine lv_aload_n hx hb dL_law_328 rfl (lv_at hl 1 rfl) ?_
  refine lv_aload_n hx hb dL_law_329 rfl (lv_at hl 0 rfl) ?_
  refine lv_iload hx hb dL_law_330 (lv_at hl 4 rfl) ?_
  refine lv_iconst (v := nI 1) hx hb dL_law_332 (by decide) ?_
  refine hk_addN hx hb dL_law_333 ?_
  refine hk_sld hx hb hX hbl hbA hS (j := (4 * n) + 1) (by omega) hL dL_law_334 ?_
  refine lv_aload_n hx hb dL_law_335 rfl (lv_at hl 0 rfl) ?_
  refine lv_iload hx hb dL_law_336 (lv_at hl 4 rfl) ?_
  refine lv_iconst (v := nI 2) hx hb dL_law_338 (by decide) ?_
  refine hk_addN hx hb dL_law_339 ?_
  refine hk_sld hx hb hX hbl hbA hS (j := (4 * n) + 2) (by omega) hL dL_law_340 ?_
  refine lv_aload_n hx hb dL_law_341 rfl (lv_at hl 3 rfl) ?_
  refine hk_LL (wr := mdW ct aa g rf) (rest := []) (vx_runSW (As := [.ref (b 0), .int (xs ((4 * n) + 1)), .int (xs ((4 * n) + 2)), .ref o]) (rest := []) ⟨hx, hb, hml, hown, hts⟩ cL (vx_cwSW 4 hts gL_law_L_keyOf rfl rfl rfl (by decide +kernel) ⟨Nat.le_of_ble_eq_true rfl, Nat.le_of_ble_eq_true rfl⟩) (hk_prxS hE hH ⟨rfl, hP.right (w1 := mdW ct aa g rf), hD.right (w1 := mdW ct aa g rf)⟩) rfl rfl hl.1 rfl (lv_room (Nat.le_of_ble_eq_true rfl)) dL_law_342 ⟨by show _ ≤ 601024; omega, by show _ ≤ 7293034; omega⟩) rfl hP hD hS hA (fun d9 f9 H locs hf9 hP hD hS => ?_)
  have hP : va_P D vwCl (((aa 0), .inr (3, [.int rf, .int (nI (gN g)), .ref (aa 1), .ref (aa 2), .ref (aa 3), .ref (aa 4), .ref (aa 5), .ref (aa 6), .ref (aa 7), .ref (aa 8), .ref (aa 9), .int (nI (gd g)), .ref (aa 10), .int (nI (gc g)), .ref (aa 11), .ref (aa 12), .ref (aa 13)])) :: ((aa 1), .inl (ct 0, 60, .inl (mK g))) :: ((aa 2), .inl (ct 0, 60, .inl (mL g))) :: ((aa 3), .inl (ct 0, 5, .inl (mY g))) :: ((aa 4), .inl (ct 0, 60, .inl (mS g))) :: ((aa 5), .inl (ct 0, 720, .inl (mP g))) :: ((aa 6), .inl (ct 0, 5, .inl (mC g))) :: ((aa 7), .inl (ct 0, 5, .inl (mLa g))) :: ((aa 8), .inl (ct 0, 5, .inl (mQ g))) :: ((aa 9), .inl (ct 0, 150, .inl (mT g))) :: ((aa 10), .inl (ct 0, 24, .inl (mD g))) :: ((aa 11), .inl (ct 0, 6, .inl (mW g))) :: ((aa 12), .inl (ct 0, 30, .inl (mX g))) :: ((aa 13), .inl (ct 0, 30, .inl (mZ g))) :: hkLW ct b d9 z.2.2 o f9) H := hP
  have hD : va_D (fun q : Nat => s.heap.size ≤ q) (((aa 0), .inr (3, [.int rf, .int (nI (gN g)), .ref (aa 1), .ref (aa 2), .ref (aa 3), .ref (aa 4), .ref (aa 5), .ref (aa 6), .ref (aa 7), .ref (aa 8), .ref (aa 9), .int (nI (gd g)), .ref (aa 10), .int (nI (gc g)), .ref (aa 11), .ref (aa 12), .ref (aa 13)])) :: ((aa 1), .inl (ct 0, 60, .inl (mK g))) :: ((aa 2), .inl (ct 0, 60, .inl (mL g))) :: ((aa 3), .inl (ct 0, 5, .inl (mY g))) :: ((aa 4), .inl (ct 0, 60, .inl (mS g))) :: ((aa 5), .inl (ct 0, 720, .inl (mP g))) :: ((aa 6), .inl (ct 0, 5, .inl (mC g))) :: ((aa 7), .inl (ct 0, 5, .inl (mLa g))) :: ((aa 8), .inl (ct 0, 5, .inl (mQ g))) :: ((aa 9), .inl (ct 0, 150, .inl (mT g))) :: ((aa 10), .inl (ct 0, 24, .inl (mD g))) :: ((aa 11), .inl (ct 0, 6, .inl (mW g))) :: ((aa 12), .inl (ct 0, 30, .inl (mX g))) :: ((aa 13), .inl (ct 0, 30, .inl (mZ g))) :: hkLW ct b d9 z.2.2 o f9) := hD
  refine lv_istore (lv' := [(5, .int z.1), (0, .ref sb), (1, .ref (b 0)), (2, .ref (aa 0)), (3, .ref o), (4, .int (nI (4 * n)))]) hx hb dL_law_345 hl (by decide) rfl (fun ls hl => ?_)
  refine lv_aload_n hx hb dL_law_347 rfl (lv_at hl 3 rfl) ?_
  refine lv_aload_n hx hb dL_law_348 rfl (lv_at hl 1 rfl) ?_
  refine lv_iload hx hb dL_law_349 (lv_at hl 5 rfl) ?_
  refine lv_iconst (v := nI 1) hx hb dL_law_351 (by decide) ?_
  refine hk_addN hx hb dL_law_352 ?_
  refine hk_sld hx hb hX hbl hbA hS (j := (4 * n) + 1) (by omega) hL dL_law_353 ?_
  refine lv_aload_n hx hb dL_law_354 rfl (lv_at hl 1 rfl) ?_
  refine lv_iload hx hb dL_law_355 (lv_at hl 5 rfl) ?_
  refine lv_iconst (v := nI 2) hx hb dL_law_357 (by decide) ?_
  refine hk_addN hx hb dL_law_358 ?_
  refine hk_sld hx hb hX hbl hbA hS (j := (4 * n) + 2) (by omega) hL dL_law_359 ?_
  have hPm := hP.sub (ws' := [((aa 0), .inr (3, [.int rf, .int (nI (gN g)), .ref (aa 1), .ref (aa 2), .ref (aa 3), .ref (aa 4), .ref (aa 5), .ref (aa 6), .ref (aa 7), .ref (aa 8), .ref (aa 9), .int (nI (gd g)), .ref (aa 10), .int (nI (gc g)), .ref (aa 11), .ref (aa 12), .ref (aa 13)])), ((aa 1), .inl (ct 0, 60, .inl (mK g))), ((aa 2), .inl (ct 0, 60, .inl (mL g))), ((aa 3), .inl (ct 0, 5, .inl (mY g))), ((aa 4), .inl (ct 0, 60, .inl (mS g))), ((aa 5), .inl (ct 0, 720, .inl (mP g))), ((aa 6), .inl (ct 0, 5, .inl (mC g))), ((aa 7), .inl (ct 0, 5, .inl (mLa g))), ((aa 8), .inl (ct 0, 5, .inl (mQ g))), ((aa 9), .inl (ct 0, 150, .inl (mT g))), ((aa 10), .inl (ct 0, 24, .inl (mD g))), ((aa 11), .inl (ct 0, 6, .inl (mW g))), ((aa 12), .inl (ct 0, 30, .inl (mX g))), ((aa 13), .inl (ct 0, 30, .inl (mZ g)))]) [0, 1, 2, 3, 4, 5, 6, 7, 8, 9, 10, 11, 12, 13] rfl
  have hDm := hD.sub (ws' := [((aa 0), .inr (3, [.int rf, .int (nI (gN g)), .ref (aa 1), .ref (aa 2), .ref (aa 3), .ref (aa 4), .ref (aa 5), .ref (aa 6), .ref (aa 7), .ref (aa 8), .ref (aa 9), .int (nI (gd g)), .ref (aa 10), .int (nI (gc g)), .ref (aa 11), .ref (aa 12), .ref (aa 13)])), ((aa 1), .inl (ct 0, 60, .inl (mK g))), ((aa 2), .inl (ct 0, 60, .inl (mL g))), ((aa 3), .inl (ct 0, 5, .inl (mY g))), ((aa 4), .inl (ct 0, 60, .inl (mS g))), ((aa 5), .inl (ct 0, 720, .inl (mP g))), ((aa 6), .inl (ct 0, 5, .inl (mC g))), ((aa 7), .inl (ct 0, 5, .inl (mLa g))), ((aa 8), .inl (ct 0, 5, .inl (mQ g))), ((aa 9), .inl (ct 0, 150, .inl (mT g))), ((aa 10), .inl (ct 0, 24, .inl (mD g))), ((aa 11), .inl (ct 0, 6, .inl (mW g))), ((aa 12), .inl (ct 0, 30, .inl (mX g))), ((aa 13), .inl (ct 0, 30, .inl (mZ g)))]) [0, 1, 2, 3, 4, 5, 6, 7, 8, 9, 10, 11, 12, 13] (by decide) rfl
  refine hk_M (w1 := mdW ct aa z.2.2 z.1) (rest := []) (va_Run.run (va_runV (As := [.int (xs ((4 * n) + 1)), .int (xs ((4 * n) + 2))]) (rest := []) ⟨hx, hb, hml, hown, hts⟩ cM (cwV 2 hts gL_law_X3_keyOf rfl rfl rfl (by decide +kernel) ⟨Nat.le_of_ble_eq_true rfl, Nat.le_of_ble_eq_true rfl⟩) (hk_preV hE (va_recv hE.1 hP (ci := 3) (q0 := 0) rfl rfl) ⟨hPm, hDm.weaken (fun _ _ _ _ => trivial)⟩) rfl rfl hl.1 rfl (lv_room (Nat.le_of_ble_eq_true rfl)) dL_law_360 ⟨by show _ ≤ 601024; omega, by show _ ≤ 7293034; omega⟩)) hP hD hS [0, 1, 2, 3, 4, 5, 6, 7, 8, 9, 10, 11, 12, 13] (wc := [((aa 0), .inr (3, [.int rf, .int (nI (gN g)), .ref (aa 1), .ref (aa 2), .ref (aa 3), .ref (aa 4), .ref (aa 5), .ref (aa 6), .ref (aa 7), .ref (aa 8), .ref (aa 9), .int (nI (gd g)), .ref (aa 10), .int (nI (gc g)), .ref (aa 11), .ref (aa 12), .ref (aa 13)])), ((aa 1), .inl (ct 0, 60, .inl (mK g))), ((aa 2), .inl (ct 0, 60, .inl (mL g))), ((aa 3), .inl (ct 0, 5, .inl (mY g))), ((aa 4), .inl (ct 0, 60, .inl (mS g))), ((aa 5), .inl (ct 0, 720, .inl (mP g))), ((aa 6), .inl (ct 0, 5, .inl (mC g))), ((aa 7), .inl (ct 0, 5, .inl (mLa g))), ((aa 8), .inl (ct 0, 5, .inl (mQ g))), ((aa 9), .inl (ct 0, 150, .inl (mT g))), ((aa 10), .inl (ct 0, 24, .inl (mD g))), ((aa 11), .inl (ct 0, 6, .inl (mW g))), ((aa 12), .inl (ct 0, 30, .inl (mX g))), ((aa 13), .inl (ct 0, 30, .inl (mZ g)))]) rfl rfl rfl (fun H locs hP hD hS => ?_)
  have hP : va_P D vwCl (((aa 0), .inr (3, [.int z.1, .int (nI (gN z.2.2)), .ref (aa 1), .ref (aa 2), .ref (aa 3), .ref (aa 4), .ref (aa 5), .ref (aa 6), .ref (aa 7), .ref (aa 8), .ref (aa 9), .int (nI (gd z.2.2)), .ref (aa 10), .int (nI (gc z.2.2)), .ref (aa 11), .ref (aa 12), .ref (aa 13)])) :: ((aa 1), .inl (ct 0, 60, .inl (mK z.2.2))) :: ((aa 2), .inl (ct 0, 60, .inl (mL z.2.2))) :: ((aa 3), .inl (ct 0, 5, .inl (mY z.2.2))) :: ((aa 4), .inl (ct 0, 60, .inl (mS z.2.2))) :: ((aa 5), .inl (ct 0, 720, .inl (mP z.2.2))) :: ((aa 6), .inl (ct 0, 5, .inl (mC z.2.2))) :: ((aa 7), .inl (ct 0, 5, .inl (mLa z.2.2))) :: ((aa 8), .inl (ct 0, 5, .inl (mQ z.2.2))) :: ((aa 9), .inl (ct 0, 150, .inl (mT z.2.2))) :: ((aa 10), .inl (ct 0, 24, .inl (mD z.2.2))) :: ((aa 11), .inl (ct 0, 6, .inl (mW z.2.2))) :: ((aa 12), .inl (ct 0, 30, .inl (mX z.2.2))) :: ((aa 13), .inl (ct 0, 30, .inl (mZ z.2.2))) :: hkLW ct b d9 z.2.2 o f9) H := hP
  have hD : va_D (fun q : Nat => s.heap.size ≤ q) (((aa 0), .inr (3, [.int z.1, .int (nI (gN z.2.2)), .ref (aa 1), .ref (aa 2), .ref (aa 3), .ref (aa 4), .ref (aa 5), .ref (aa 6), .ref (aa 7), .ref (aa 8), .ref (aa 9), .int (nI (gd z.2.2)), .ref (aa 10), .int (nI (gc z.2.2)), .ref (aa 11), .ref (aa 12), .ref (aa 13)])) :: ((aa 1), .inl (ct 0, 60, .inl (mK z.2.2))) :: ((aa 2), .inl (ct 0, 60, .inl (mL z.2.2))) :: ((aa 3), .inl (ct 0, 5, .inl (mY z.2.2))) :: ((aa 4), .inl (ct 0, 60, .inl (mS z.2.2))) :: ((aa 5), .inl (ct 0, 720, .inl (mP z.2.2))) :: ((aa 6), .inl (ct 0, 5, .inl (mC z.2.2))) :: ((aa 7), .inl (ct 0, 5, .inl (mLa z.2.2))) :: ((aa 8), .inl (ct 0, 5, .inl (mQ z.2.2))) :: ((aa 9), .inl (ct 0, 150, .inl (mT z.2.2))) :: ((aa 10), .inl (ct 0, 24, .inl (mD z.2.2))) :: ((aa 11), .inl (ct 0, 6, .inl (mW z.2.2))) :: ((aa 12), .inl (ct 0, 30, .inl (mX z.2.2))) :: ((aa 13), .inl (ct 0, 30, .inl (mZ z.2.2))) :: hkLW ct b d9 z.2.2 o f9) := hD
  refine lv_istore (lv' := [(6, .int z.2.1), (5, .int z.1), (0, .ref sb), (1, .ref (b 0)), (2, .ref (aa 0)), (3, .ref o), (4, .int (nI (4 * n)))]) hx hb dL_law_363 hl (by decide) rfl (fun ls hl => ?_)
  refine lv_aload_n hx hb dL_law_365 rfl (lv_at hl 4 rfl) ?_
  refine hk_R (rest := []) (va_Run.run (va_runV (As := []) (rest := []) ⟨hx, hb, hml, hown, hts⟩ (c_X3_thrown l D ct sa aa z.2.2 z.1) (cwV 0 hts gL_law_X3_thrown rfl rfl rfl (by decide +kernel) ⟨Nat.le_of_ble_eq_true rfl, Nat.le_of_ble_eq_true rfl⟩) (hk_preV hE (va_recv hE.1 hP (ci := 3) (q0 := 0) rfl rfl) (hP.sub (ws' := [((aa 0), .inr (3, [.int z.1, .int (nI (gN z.2.2)), .ref (aa 1), .ref (aa 2), .ref (aa 3), .ref (aa 4), .ref (aa 5), .ref (aa 6), .ref (aa 7), .ref (aa 8), .ref (aa 9), .int (nI (gd z.2.2)), .ref (aa 10), .int (nI (gc z.2.2)), .ref (aa 11), .ref (aa 12), .ref (aa 13)]))]) [0] rfl)) rfl rfl hl.1 rfl (lv_room (Nat.le_of_ble_eq_true rfl)) dL_law_366 ⟨by show _ ≤ 601024; omega, by show _ ≤ 7293034; omega⟩)) ?_
  refine lv_iload hx hb dL_law_369 (lv_at hl 1 rfl) ?_
  refine lv_icmp_eq (tgt := 376) hx hb dL_law_371 (by decide) (fun hq => ?_) (fun hq => ?_)
  · refine lv_iload hx hb dL_law_376 (lv_at hl 1 rfl) ?_
    refine lv_if_ne (tgt := 393) hx hb dL_law_378 (by decide) (fun hq0 => ?_) (fun hq0 => ?_)
    · refine lv_goto (tgt := 1492) hx hb dL_law_393 (by decide) ?_
      refine W.widen (k := cl + 6) (n := sl + 218) (by omega) (by omega) ?_
      exact kk d9 z.2.2 f9 z.1 _ _ ls hI2 hP hD hS (lv_sub hl [2, 3, 4, 5, 6] rfl)
    · have hv9 := hf9 hq0
      refine lv_aload_n hx hb dL_law_381 rfl (lv_at hl 5 rfl) ?_
      refine lv_iconst (v := nI 0) hx hb dL_law_382 (by decide) ?_
      refine hk_lld hx hb hE hP 14 rfl (j := 0) (by decide) (by decide) dL_law_383 ?_
      rw [hv9]
      refine lv_iload hx hb dL_law_384 (lv_at hl 0 rfl) ?_
      refine lv_i2l hx hb dL_law_386 rfl ?_
      refine hk_lcmpE hx hb dL_law_387 ?_
      refine lv_if_eq (tgt := 393) hx hb dL_law_388 (by decide) (fun hq7 => ?_) (fun hq7 => ?_)
      · refine lv_goto (tgt := 1492) hx hb dL_law_393 (by decide) ?_
        refine W.widen (k := cl + 6) (n := sl + 218) (by omega) (by omega) ?_
        exact kk d9 z.2.2 f9 z.1 _ _ ls hI2 hP hD hS (lv_sub hl [2, 3, 4, 5, 6] rfl)
      · exact absurd rfl hq7
  · exact absurd rfl hq

set_option maxHeartbeats 4000000 in
set_option maxRecDepth 100000 in
theorem lw_k_letterOn {p : Program} {e : Env} {s : State} {m : MethodId} {below : List Frame} {meth : Method} {c : Code} (l : Launch) (hfl : l.flags = flags0) {D : va_G} {ct : Nat → ClassId} {sa : Nat → Nat} {sb L : Nat} {xs : Nat → Int32} {b aa : Nat → Nat} {o : Nat} (hL : L ≤ 2048) (C0 : lw_At p s m meth c sb L xs) (hE : hkE D ct sa s) (hH0 : hkH s.heap.size s s.heap) {n cl sl : Nat} (hn : 4 * n + 4 ≤ L) (hcl : cl + 6 ≤ 601024) (hsl : sl + 218 ≤ 7293034) {g : Sg} {d : Ad} {f : Nat → Int64} {rf : Int32} {H : Heap} {locs : List Loc} {ls : Array Slot} (hI : Inv g) (hP : va_P D vwCl (mdW ct aa g rf ++ hkLW ct b d g o f) H) (hD : va_D (fun q : Nat => s.heap.size ≤ q) (mdW ct aa g rf ++ hkLW ct b d g o f)) (hS : va_S (fun q : Nat => s.heap.size ≤ q) s.heap H locs) (hl : lv_has ls 7 [(0, .ref sb), (1, .ref (b 0)), (2, .ref (aa 0)), (3, .ref o), (4, .int (nI (4 * n)))]) (kk : ∀ (d' : Ad) (g' : Sg) (f' : Nat → Int64) (rf' : Int32) (H1 : Heap) (locs1 : List Loc) (ls1 : Array Slot), Inv g' → va_P D vwCl (mdW ct aa g' rf' ++ hkLW ct b d' g' o f') H1 → va_D (fun q : Nat => s.heap.size ≤ q) (mdW ct aa g' rf' ++ hkLW ct b d' g' o f') → va_S (fun q : Nat => s.heap.size ≤ q) s.heap H1 locs1 → lv_has ls1 7 [(0, .ref sb), (1, .ref (b 0)), (2, .ref (aa 0)), (3, .ref o), (4, .int (nI (4 * n)))] → W p l e room_1 s m #[Value.ref sb] below meth c H1 locs1 (cl + 6) (sl + 218) (lw_Z below #[Value.ref sb] s) (F0 m 1492 ls1 [])) : W p l e room_1 s m #[Value.ref sb] below meth c H locs cl sl (lw_Z below #[Value.ref sb] s) (F0 m 396 ls []) := by
  obtain ⟨hx, hb, hr, hml, hown, hts, hX, hbl, hlocks, hgv⟩ := C0
  have hts : ∀ w ∈ wsL_law, w.before #[Value.ref sb] s = true := fun w h => hts w (wsL_law_in w h)
  have hA : ∀ q : Nat, s.heap.size ≤ q → (fun q : Nat => s.heap.size ≤ q) q := fun _ h => h
  have hbA : ¬ (fun q : Nat => s.heap.size ≤ q) sb := Nat.not_le.mpr hbl
  have hb : c.code = cL_law := hb
  have hH := hH0.at hS
  have cL := c_L_letterOn l hfl D ct sa s.heap.size H.size b d g o f (xs (4 * n + 1)) (xs (4 * n + 2)) hI
  have cM := c_X3_letterOn l D ct sa aa g rf (xs (4 * n + 1)) (xs (4 * n + 2)) hI
  have hI2 := inv_letterOn hI (xs (4 * n + 1)) (xs (4 * n + 2))
  generalize hz9 : opLetterOn g (xs (4 * n + 1)) (xs (4 * n + 2)) = z at cL cM hI2
  refine lv_aload_n hx hb dL_law_396 rfl (lv_at hl 1 rfl) ?_
  refine lv_aload_n hx hb dL_law_397 rfl (lv_at hl 0 rfl) ?_
  refine lv_iload hx hb dL_law_398 (lv_at hl 4 rfl) ?_
  refine lv_iconst (v := nI 1) hx hb dL_law_400 (by decide) ?_
  refine hk_addN hx hb dL_law_401 ?_
  refine hk_sld hx hb hX hbl hbA hS (j := (4 * n) + 1) (by omega) hL dL_law_402 ?_
  refine lv_aload_n hx hb dL_law_403 rfl (lv_at hl 0 rfl) ?_
  refine lv_iload hx hb dL_law_404 (lv_at hl 4 rfl) ?_
  refine lv_iconst (v := nI 2) hx hb dL_law_406 (by decide) ?_
  refine hk_addN hx hb dL_law_407 ?_
  refine hk_sld hx hb hX hbl hbA hS (j := (4 * n) + 2) (by omega) hL dL_law_408 ?_
  refine lv_aload_n hx hb dL_law_409 rfl (lv_at hl 3 rfl) ?_
  refine hk_LL (wr := mdW ct aa g rf) (rest := []) (vx_runSW (As := [.ref (b 0), .int (xs ((4 * n) + 1)), .int (xs ((4 * n) + 2)), .ref o]) (rest := []) ⟨hx, hb, hml, hown, hts⟩ cL (vx_cwSW 4 hts gL_law_L_letterOn rfl rfl rfl (by decide +kernel) ⟨Nat.le_of_ble_eq_true rfl, Nat.le_of_ble_eq_true rfl⟩) (hk_prxS hE hH ⟨rfl, hP.right (w1 := mdW ct aa g rf), hD.right (w1 := mdW ct aa g rf)⟩) rfl rfl hl.1 rfl (lv_room (Nat.le_of_ble_eq_true rfl)) dL_law_410 ⟨by show _ ≤ 601024; omega, by show _ ≤ 7293034; omega⟩) rfl hP hD hS hA (fun d9 f9 H locs hf9 hP hD hS => ?_)
  have hP : va_P D vwCl (((aa 0), .inr (3, [.int rf, .int (nI (gN g)), .ref (aa 1), .ref (aa 2), .ref (aa 3), .ref (aa 4), .ref (aa 5), .ref (aa 6), .ref (aa 7), .ref (aa 8), .ref (aa 9), .int (nI (gd g)), .ref (aa 10), .int (nI (gc g)), .ref (aa 11), .ref (aa 12), .ref (aa 13)])) :: ((aa 1), .inl (ct 0, 60, .inl (mK g))) :: ((aa 2), .inl (ct 0, 60, .inl (mL g))) :: ((aa 3), .inl (ct 0, 5, .inl (mY g))) :: ((aa 4), .inl (ct 0, 60, .inl (mS g))) :: ((aa 5), .inl (ct 0, 720, .inl (mP g))) :: ((aa 6), .inl (ct 0, 5, .inl (mC g))) :: ((aa 7), .inl (ct 0, 5, .inl (mLa g))) :: ((aa 8), .inl (ct 0, 5, .inl (mQ g))) :: ((aa 9), .inl (ct 0, 150, .inl (mT g))) :: ((aa 10), .inl (ct 0, 24, .inl (mD g))) :: ((aa 11), .inl (ct 0, 6, .inl (mW g))) :: ((aa 12), .inl (ct 0, 30, .inl (mX g))) :: ((aa 13), .inl (ct 0, 30, .inl (mZ g))) :: hkLW ct b d9 z.2.2 o f9) H := hP
  have hD : va_D (fun q : Nat => s.heap.size ≤ q) (((aa 0), .inr (3, [.int rf, .int (nI (gN g)), .ref (aa 1), .ref (aa 2), .ref (aa 3), .ref (aa 4), .ref (aa 5), .ref (aa 6), .ref (aa 7), .ref (aa 8), .ref (aa 9), .int (nI (gd g)), .ref (aa 10), .int (nI (gc g)), .ref (aa 11), .ref (aa 12), .ref (aa 13)])) :: ((aa 1), .inl (ct 0, 60, .inl (mK g))) :: ((aa 2), .inl (ct 0, 60, .inl (mL g))) :: ((aa 3), .inl (ct 0, 5, .inl (mY g))) :: ((aa 4), .inl (ct 0, 60, .inl (mS g))) :: ((aa 5), .inl (ct 0, 720, .inl (mP g))) :: ((aa 6), .inl (ct 0, 5, .inl (mC g))) :: ((aa 7), .inl (ct 0, 5, .inl (mLa g))) :: ((aa 8), .inl (ct 0, 5, .inl (mQ g))) :: ((aa 9), .inl (ct 0, 150, .inl (mT g))) :: ((aa 10), .inl (ct 0, 24, .inl (mD g))) :: ((aa 11), .inl (ct 0, 6, .inl (mW g))) :: ((aa 12), .inl (ct 0, 30, .inl (mX g))) :: ((aa 13), .inl (ct 0, 30, .inl (mZ g))) :: hkLW ct b d9 z.2.2 o f9) := hD
  refine lv_istore (lv' := [(5, .int z.1), (0, .ref sb), (1, .ref (b 0)), (2, .ref (aa 0)), (3, .ref o), (4, .int (nI (4 * n)))]) hx hb dL_law_413 hl (by decide) rfl (fun ls hl => ?_)
  refine lv_aload_n hx hb dL_law_415 rfl (lv_at hl 3 rfl) ?_
  refine lv_aload_n hx hb dL_law_416 rfl (lv_at hl 1 rfl) ?_
  refine lv_iload hx hb dL_law_417 (lv_at hl 5 rfl) ?_
  refine lv_iconst (v := nI 1) hx hb dL_law_419 (by decide) ?_
  refine hk_addN hx hb dL_law_420 ?_
  refine hk_sld hx hb hX hbl hbA hS (j := (4 * n) + 1) (by omega) hL dL_law_421 ?_
  refine lv_aload_n hx hb dL_law_422 rfl (lv_at hl 1 rfl) ?_
  refine lv_iload hx hb dL_law_423 (lv_at hl 5 rfl) ?_
  refine lv_iconst (v := nI 2) hx hb dL_law_425 (by decide) ?_
  refine hk_addN hx hb dL_law_426 ?_
  refine hk_sld hx hb hX hbl hbA hS (j := (4 * n) + 2) (by omega) hL dL_law_427 ?_
  have hPm := hP.sub (ws' := [((aa 0), .inr (3, [.int rf, .int (nI (gN g)), .ref (aa 1), .ref (aa 2), .ref (aa 3), .ref (aa 4), .ref (aa 5), .ref (aa 6), .ref (aa 7), .ref (aa 8), .ref (aa 9), .int (nI (gd g)), .ref (aa 10), .int (nI (gc g)), .ref (aa 11), .ref (aa 12), .ref (aa 13)])), ((aa 1), .inl (ct 0, 60, .inl (mK g))), ((aa 2), .inl (ct 0, 60, .inl (mL g))), ((aa 3), .inl (ct 0, 5, .inl (mY g))), ((aa 4), .inl (ct 0, 60, .inl (mS g))), ((aa 5), .inl (ct 0, 720, .inl (mP g))), ((aa 6), .inl (ct 0, 5, .inl (mC g))), ((aa 7), .inl (ct 0, 5, .inl (mLa g))), ((aa 8), .inl (ct 0, 5, .inl (mQ g))), ((aa 9), .inl (ct 0, 150, .inl (mT g))), ((aa 10), .inl (ct 0, 24, .inl (mD g))), ((aa 11), .inl (ct 0, 6, .inl (mW g))), ((aa 12), .inl (ct 0, 30, .inl (mX g))), ((aa 13), .inl (ct 0, 30, .inl (mZ g)))]) [0, 1, 2, 3, 4, 5, 6, 7, 8, 9, 10, 11, 12, 13] rfl
  have hDm := hD.sub (ws' := [((aa 0), .inr (3, [.int rf, .int (nI (gN g)), .ref (aa 1), .ref (aa 2), .ref (aa 3), .ref (aa 4), .ref (aa 5), .ref (aa 6), .ref (aa 7), .ref (aa 8), .ref (aa 9), .int (nI (gd g)), .ref (aa 10), .int (nI (gc g)), .ref (aa 11), .ref (aa 12), .ref (aa 13)])), ((aa 1), .inl (ct 0, 60, .inl (mK g))), ((aa 2), .inl (ct 0, 60, .inl (mL g))), ((aa 3), .inl (ct 0, 5, .inl (mY g))), ((aa 4), .inl (ct 0, 60, .inl (mS g))), ((aa 5), .inl (ct 0, 720, .inl (mP g))), ((aa 6), .inl (ct 0, 5, .inl (mC g))), ((aa 7), .inl (ct 0, 5, .inl (mLa g))), ((aa 8), .inl (ct 0, 5, .inl (mQ g))), ((aa 9), .inl (ct 0, 150, .inl (mT g))), ((aa 10), .inl (ct 0, 24, .inl (mD g))), ((aa 11), .inl (ct 0, 6, .inl (mW g))), ((aa 12), .inl (ct 0, 30, .inl (mX g))), ((aa 13), .inl (ct 0, 30, .inl (mZ g)))]) [0, 1, 2, 3, 4, 5, 6, 7, 8, 9, 10, 11, 12, 13] (by decide) rfl
  refine hk_M (w1 := mdW ct aa z.2.2 z.1) (rest := []) (va_Run.run (va_runV (As := [.int (xs ((4 * n) + 1)), .int (xs ((4 * n) + 2))]) (rest := []) ⟨hx, hb, hml, hown, hts⟩ cM (cwV 2 hts gL_law_X3_letterOn rfl rfl rfl (by decide +kernel) ⟨Nat.le_of_ble_eq_true rfl, Nat.le_of_ble_eq_true rfl⟩) (hk_preV hE (va_recv hE.1 hP (ci := 3) (q0 := 0) rfl rfl) ⟨hPm, hDm.weaken (fun _ _ _ _ => trivial)⟩) rfl rfl hl.1 rfl (lv_room (Nat.le_of_ble_eq_true rfl)) dL_law_428 ⟨by show _ ≤ 601024; omega, by show _ ≤ 7293034; omega⟩)) hP hD hS [0, 1, 2, 3, 4, 5, 6, 7, 8, 9, 10, 11, 12, 13] (wc := [((aa 0), .inr (3, [.int rf, .int (nI (gN g)), .ref (aa 1), .ref (aa 2), .ref (aa 3), .ref (aa 4), .ref (aa 5), .ref (aa 6), .ref (aa 7), .ref (aa 8), .ref (aa 9), .int (nI (gd g)), .ref (aa 10), .int (nI (gc g)), .ref (aa 11), .ref (aa 12), .ref (aa 13)])), ((aa 1), .inl (ct 0, 60, .inl (mK g))), ((aa 2), .inl (ct 0, 60, .inl (mL g))), ((aa 3), .inl (ct 0, 5, .inl (mY g))), ((aa 4), .inl (ct 0, 60, .inl (mS g))), ((aa 5), .inl (ct 0, 720, .inl (mP g))), ((aa 6), .inl (ct 0, 5, .inl (mC g))), ((aa 7), .inl (ct 0, 5, .inl (mLa g))), ((aa 8), .inl (ct 0, 5, .inl (mQ g))), ((aa 9), .inl (ct 0, 150, .inl (mT g))), ((aa 10), .inl (ct 0, 24, .inl (mD g))), ((aa 11), .inl (ct 0, 6, .inl (mW g))), ((aa 12), .inl (ct 0, 30, .inl (mX g))), ((aa 13), .inl (ct 0, 30, .inl (mZ g)))]) rfl rfl rfl (fun H locs hP hD hS => ?_)
  have hP : va_P D vwCl (((aa 0), .inr (3, [.int z.1, .int (nI (gN z.2.2)), .ref (aa 1), .ref (aa 2), .ref (aa 3), .ref (aa 4), .ref (aa 5), .ref (aa 6), .ref (aa 7), .ref (aa 8), .ref (aa 9), .int (nI (gd z.2.2)), .ref (aa 10), .int (nI (gc z.2.2)), .ref (aa 11), .ref (aa 12), .ref (aa 13)])) :: ((aa 1), .inl (ct 0, 60, .inl (mK z.2.2))) :: ((aa 2), .inl (ct 0, 60, .inl (mL z.2.2))) :: ((aa 3), .inl (ct 0, 5, .inl (mY z.2.2))) :: ((aa 4), .inl (ct 0, 60, .inl (mS z.2.2))) :: ((aa 5), .inl (ct 0, 720, .inl (mP z.2.2))) :: ((aa 6), .inl (ct 0, 5, .inl (mC z.2.2))) :: ((aa 7), .inl (ct 0, 5, .inl (mLa z.2.2))) :: ((aa 8), .inl (ct 0, 5, .inl (mQ z.2.2))) :: ((aa 9), .inl (ct 0, 150, .inl (mT z.2.2))) :: ((aa 10), .inl (ct 0, 24, .inl (mD z.2.2))) :: ((aa 11), .inl (ct 0, 6, .inl (mW z.2.2))) :: ((aa 12), .inl (ct 0, 30, .inl (mX z.2.2))) :: ((aa 13), .inl (ct 0, 30, .inl (mZ z.2.2))) :: hkLW ct b d9 z.2.2 o f9) H := hP
  have hD : va_D (fun q : Nat => s.heap.size ≤ q) (((aa 0), .inr (3, [.int z.1, .int (nI (gN z.2.2)), .ref (aa 1), .ref (aa 2), .ref (aa 3), .ref (aa 4), .ref (aa 5), .ref (aa 6), .ref (aa 7), .ref (aa 8), .ref (aa 9), .int (nI (gd z.2.2)), .ref (aa 10), .int (nI (gc z.2.2)), .ref (aa 11), .ref (aa 12), .ref (aa 13)])) :: ((aa 1), .inl (ct 0, 60, .inl (mK z.2.2))) :: ((aa 2), .inl (ct 0, 60, .inl (mL z.2.2))) :: ((aa 3), .inl (ct 0, 5, .inl (mY z.2.2))) :: ((aa 4), .inl (ct 0, 60, .inl (mS z.2.2))) :: ((aa 5), .inl (ct 0, 720, .inl (mP z.2.2))) :: ((aa 6), .inl (ct 0, 5, .inl (mC z.2.2))) :: ((aa 7), .inl (ct 0, 5, .inl (mLa z.2.2))) :: ((aa 8), .inl (ct 0, 5, .inl (mQ z.2.2))) :: ((aa 9), .inl (ct 0, 150, .inl (mT z.2.2))) :: ((aa 10), .inl (ct 0, 24, .inl (mD z.2.2))) :: ((aa 11), .inl (ct 0, 6, .inl (mW z.2.2))) :: ((aa 12), .inl (ct 0, 30, .inl (mX z.2.2))) :: ((aa 13), .inl (ct 0, 30, .inl (mZ z.2.2))) :: hkLW ct b d9 z.2.2 o f9) := hD
  refine lv_istore (lv' := [(6, .int z.2.1), (5, .int z.1), (0, .ref sb), (1, .ref (b 0)), (2, .ref (aa 0)), (3, .ref o), (4, .int (nI (4 * n)))]) hx hb dL_law_431 hl (by decide) rfl (fun ls hl => ?_)
  refine lv_aload_n hx hb dL_law_433 rfl (lv_at hl 4 rfl) ?_
  refine hk_R (rest := []) (va_Run.run (va_runV (As := []) (rest := []) ⟨hx, hb, hml, hown, hts⟩ (c_X3_thrown l D ct sa aa z.2.2 z.1) (cwV 0 hts gL_law_X3_thrown rfl rfl rfl (by decide +kernel) ⟨Nat.le_of_ble_eq_true rfl, Nat.le_of_ble_eq_true rfl⟩) (hk_preV hE (va_recv hE.1 hP (ci := 3) (q0 := 0) rfl rfl) (hP.sub (ws' := [((aa 0), .inr (3, [.int z.1, .int (nI (gN z.2.2)), .ref (aa 1), .ref (aa 2), .ref (aa 3), .ref (aa 4), .ref (aa 5), .ref (aa 6), .ref (aa 7), .ref (aa 8), .ref (aa 9), .int (nI (gd z.2.2)), .ref (aa 10), .int (nI (gc z.2.2)), .ref (aa 11), .ref (aa 12), .ref (aa 13)]))]) [0] rfl)) rfl rfl hl.1 rfl (lv_room (Nat.le_of_ble_eq_true rfl)) dL_law_434 ⟨by show _ ≤ 601024; omega, by show _ ≤ 7293034; omega⟩)) ?_
  refine lv_iload hx hb dL_law_437 (lv_at hl 1 rfl) ?_
  refine lv_icmp_eq (tgt := 444) hx hb dL_law_439 (by decide) (fun hq => ?_) (fun hq => ?_)
  · refine lv_iload hx hb dL_law_444 (lv_at hl 1 rfl) ?_
    refine lv_if_ne (tgt := 461) hx hb dL_law_446 (by decide) (fun hq0 => ?_) (fun hq0 => ?_)
    · refine lv_goto (tgt := 1492) hx hb dL_law_461 (by decide) ?_
      refine W.widen (k := cl + 6) (n := sl + 218) (by omega) (by omega) ?_
      exact kk d9 z.2.2 f9 z.1 _ _ ls hI2 hP hD hS (lv_sub hl [2, 3, 4, 5, 6] rfl)
    · have hv9 := hf9 hq0
      refine lv_aload_n hx hb dL_law_449 rfl (lv_at hl 5 rfl) ?_
      refine lv_iconst (v := nI 0) hx hb dL_law_450 (by decide) ?_
      refine hk_lld hx hb hE hP 14 rfl (j := 0) (by decide) (by decide) dL_law_451 ?_
      rw [hv9]
      refine lv_iload hx hb dL_law_452 (lv_at hl 0 rfl) ?_
      refine lv_i2l hx hb dL_law_454 rfl ?_
      refine hk_lcmpE hx hb dL_law_455 ?_
      refine lv_if_eq (tgt := 461) hx hb dL_law_456 (by decide) (fun hq7 => ?_) (fun hq7 => ?_)
      · refine lv_goto (tgt := 1492) hx hb dL_law_461 (by decide) ?_
        refine W.widen (k := cl + 6) (n := sl + 218) (by omega) (by omega) ?_
        exact kk d9 z.2.2 f9 z.1 _ _ ls hI2 hP hD hS (lv_sub hl [2, 3, 4, 5, 6] rfl)
      · exact absurd rfl hq7
  · exact absurd rfl hq

set_option maxHeartbeats 4000000 in
set_option maxRecDepth 100000 in
theorem lw_k_press {p : Program} {e : Env} {s : State} {m : MethodId} {below : List Frame} {meth : Method} {c : Code} (l : Launch) (hfl : l.flags = flags0) {D : va_G} {ct : Nat → ClassId} {sa : Nat → Nat} {sb L : Nat} {xs : Nat → Int32} {b aa : Nat → Nat} {o : Nat} (hL : L ≤ 2048) (C0 : lw_At p s m meth c sb L xs) (hE : hkE D ct sa s) (hH0 : hkH s.heap.size s s.heap) {n cl sl : Nat} (hn : 4 * n + 4 ≤ L) (hcl : cl + 6 ≤ 601024) (hsl : sl + 218 ≤ 7293034) {g : Sg} {d : Ad} {f : Nat → Int64} {rf : Int32} {H : Heap} {locs : List Loc} {ls : Array Slot} (hI : Inv g) (hP : va_P D vwCl (mdW ct aa g rf ++ hkLW ct b d g o f) H) (hD : va_D (fun q : Nat => s.heap.size ≤ q) (mdW ct aa g rf ++ hkLW ct b d g o f)) (hS : va_S (fun q : Nat => s.heap.size ≤ q) s.heap H locs) (hl : lv_has ls 7 [(0, .ref sb), (1, .ref (b 0)), (2, .ref (aa 0)), (3, .ref o), (4, .int (nI (4 * n)))]) (kk : ∀ (d' : Ad) (g' : Sg) (f' : Nat → Int64) (rf' : Int32) (H1 : Heap) (locs1 : List Loc) (ls1 : Array Slot), Inv g' → va_P D vwCl (mdW ct aa g' rf' ++ hkLW ct b d' g' o f') H1 → va_D (fun q : Nat => s.heap.size ≤ q) (mdW ct aa g' rf' ++ hkLW ct b d' g' o f') → va_S (fun q : Nat => s.heap.size ≤ q) s.heap H1 locs1 → lv_has ls1 7 [(0, .ref sb), (1, .ref (b 0)), (2, .ref (aa 0)), (3, .ref o), (4, .int (nI (4 * n)))] → W p l e room_1 s m #[Value.ref sb] below meth c H1 locs1 (cl + 6) (sl + 218) (lw_Z below #[Value.ref sb] s) (F0 m 1492 ls1 [])) : W p l e room_1 s m #[Value.ref sb] below meth c H locs cl sl (lw_Z below #[Value.ref sb] s) (F0 m 464 ls []) := by
  obtain ⟨hx, hb, hr, hml, hown, hts, hX, hbl, hlocks, hgv⟩ := C0
  have hts : ∀ w ∈ wsL_law, w.before #[Value.ref sb] s = true := fun w h => hts w (wsL_law_in w h)
  have hA : ∀ q : Nat, s.heap.size ≤ q → (fun q : Nat => s.heap.size ≤ q) q := fun _ h => h
  have hbA : ¬ (fun q : Nat => s.heap.size ≤ q) sb := Nat.not_le.mpr hbl
  have hb : c.code = cL_law := hb
  have hH := hH0.at hS
  have cL := c_L_press l hfl D ct sa s.heap.size H.size b d g o f (xs (4 * n + 1)) (xs (4 * n + 2)) (xs (4 * n + 3)) hI
  have cM := c_X3_press l D ct sa aa g rf (xs (4 * n + 1)) (xs (4 * n + 2)) (xs (4 * n + 3)) hI
  have hI2 := inv_press hI (xs (4 * n + 1)) (xs (4 * n + 2)) (xs (4 * n + 3))
  generalize hz9 : opPress g (xs (4 * n + 1)) (xs (4 * n + 2)) (xs (4 * n + 3)) = z at cL cM hI2
  have hz01 : z.2.1 = 0 ∨ z.2.1 = 1 := by
    by_cases q : (opPress g (xs (4 * n + 1)) (xs (4 * n + 2)) (xs (4 * n + 3))).2.1 = 0
    · exact Or.inl (by rw [← hz9]; exact q)
    · exact Or.inr (by rw [← hz9]; exact pr_01 _ _ _ _ q)
  refine lv_aload_n hx hb dL_law_464 rfl (lv_at hl 1 rfl) ?_
  refine lv_aload_n hx hb dL_law_465 rfl (lv_at hl 0 rfl) ?_
  refine lv_iload hx hb dL_law_466 (lv_at hl 4 rfl) ?_
  refine lv_iconst (v := nI 1) hx hb dL_law_468 (by decide) ?_
  refine hk_addN hx hb dL_law_469 ?_
  refine hk_sld hx hb hX hbl hbA hS (j := (4 * n) + 1) (by omega) hL dL_law_470 ?_
  refine lv_aload_n hx hb dL_law_471 rfl (lv_at hl 0 rfl) ?_
  refine lv_iload hx hb dL_law_472 (lv_at hl 4 rfl) ?_
  refine lv_iconst (v := nI 2) hx hb dL_law_474 (by decide) ?_
  refine hk_addN hx hb dL_law_475 ?_
  refine hk_sld hx hb hX hbl hbA hS (j := (4 * n) + 2) (by omega) hL dL_law_476 ?_
  refine lv_aload_n hx hb dL_law_477 rfl (lv_at hl 0 rfl) ?_
  refine lv_iload hx hb dL_law_478 (lv_at hl 4 rfl) ?_
  refine lv_iconst (v := nI 3) hx hb dL_law_480 (by decide) ?_
  refine hk_addN hx hb dL_law_481 ?_
  refine hk_sld hx hb hX hbl hbA hS (j := (4 * n) + 3) (by omega) hL dL_law_482 ?_
  refine lv_aload_n hx hb dL_law_483 rfl (lv_at hl 3 rfl) ?_
  refine hk_LL (wr := mdW ct aa g rf) (rest := []) (vx_runSW (As := [.ref (b 0), .int (xs ((4 * n) + 1)), .int (xs ((4 * n) + 2)), .int (xs ((4 * n) + 3)), .ref o]) (rest := []) ⟨hx, hb, hml, hown, hts⟩ cL (vx_cwSW 5 hts gL_law_L_press rfl rfl rfl (by decide +kernel) ⟨Nat.le_of_ble_eq_true rfl, Nat.le_of_ble_eq_true rfl⟩) (hk_prxS hE hH ⟨rfl, hP.right (w1 := mdW ct aa g rf), hD.right (w1 := mdW ct aa g rf)⟩) rfl rfl hl.1 rfl (lv_room (Nat.le_of_ble_eq_true rfl)) dL_law_484 ⟨by show _ ≤ 601024; omega, by show _ ≤ 7293034; omega⟩) rfl hP hD hS hA (fun d9 f9 H locs hf9 hP hD hS => ?_)
  have hP : va_P D vwCl (((aa 0), .inr (3, [.int rf, .int (nI (gN g)), .ref (aa 1), .ref (aa 2), .ref (aa 3), .ref (aa 4), .ref (aa 5), .ref (aa 6), .ref (aa 7), .ref (aa 8), .ref (aa 9), .int (nI (gd g)), .ref (aa 10), .int (nI (gc g)), .ref (aa 11), .ref (aa 12), .ref (aa 13)])) :: ((aa 1), .inl (ct 0, 60, .inl (mK g))) :: ((aa 2), .inl (ct 0, 60, .inl (mL g))) :: ((aa 3), .inl (ct 0, 5, .inl (mY g))) :: ((aa 4), .inl (ct 0, 60, .inl (mS g))) :: ((aa 5), .inl (ct 0, 720, .inl (mP g))) :: ((aa 6), .inl (ct 0, 5, .inl (mC g))) :: ((aa 7), .inl (ct 0, 5, .inl (mLa g))) :: ((aa 8), .inl (ct 0, 5, .inl (mQ g))) :: ((aa 9), .inl (ct 0, 150, .inl (mT g))) :: ((aa 10), .inl (ct 0, 24, .inl (mD g))) :: ((aa 11), .inl (ct 0, 6, .inl (mW g))) :: ((aa 12), .inl (ct 0, 30, .inl (mX g))) :: ((aa 13), .inl (ct 0, 30, .inl (mZ g))) :: hkLW ct b d9 z.2.2 o f9) H := hP
  have hD : va_D (fun q : Nat => s.heap.size ≤ q) (((aa 0), .inr (3, [.int rf, .int (nI (gN g)), .ref (aa 1), .ref (aa 2), .ref (aa 3), .ref (aa 4), .ref (aa 5), .ref (aa 6), .ref (aa 7), .ref (aa 8), .ref (aa 9), .int (nI (gd g)), .ref (aa 10), .int (nI (gc g)), .ref (aa 11), .ref (aa 12), .ref (aa 13)])) :: ((aa 1), .inl (ct 0, 60, .inl (mK g))) :: ((aa 2), .inl (ct 0, 60, .inl (mL g))) :: ((aa 3), .inl (ct 0, 5, .inl (mY g))) :: ((aa 4), .inl (ct 0, 60, .inl (mS g))) :: ((aa 5), .inl (ct 0, 720, .inl (mP g))) :: ((aa 6), .inl (ct 0, 5, .inl (mC g))) :: ((aa 7), .inl (ct 0, 5, .inl (mLa g))) :: ((aa 8), .inl (ct 0, 5, .inl (mQ g))) :: ((aa 9), .inl (ct 0, 150, .inl (mT g))) :: ((aa 10), .inl (ct 0, 24, .inl (mD g))) :: ((aa 11), .inl (ct 0, 6, .inl (mW g))) :: ((aa 12), .inl (ct 0, 30, .inl (mX g))) :: ((aa 13), .inl (ct 0, 30, .inl (mZ g))) :: hkLW ct b d9 z.2.2 o f9) := hD
  refine lv_istore (lv' := [(5, .int z.1), (0, .ref sb), (1, .ref (b 0)), (2, .ref (aa 0)), (3, .ref o), (4, .int (nI (4 * n)))]) hx hb dL_law_487 hl (by decide) rfl (fun ls hl => ?_)
  refine lv_aload_n hx hb dL_law_489 rfl (lv_at hl 3 rfl) ?_
  refine lv_aload_n hx hb dL_law_490 rfl (lv_at hl 1 rfl) ?_
  refine lv_iload hx hb dL_law_491 (lv_at hl 5 rfl) ?_
  refine lv_iconst (v := nI 1) hx hb dL_law_493 (by decide) ?_
  refine hk_addN hx hb dL_law_494 ?_
  refine hk_sld hx hb hX hbl hbA hS (j := (4 * n) + 1) (by omega) hL dL_law_495 ?_
  refine lv_aload_n hx hb dL_law_496 rfl (lv_at hl 1 rfl) ?_
  refine lv_iload hx hb dL_law_497 (lv_at hl 5 rfl) ?_
  refine lv_iconst (v := nI 2) hx hb dL_law_499 (by decide) ?_
  refine hk_addN hx hb dL_law_500 ?_
  refine hk_sld hx hb hX hbl hbA hS (j := (4 * n) + 2) (by omega) hL dL_law_501 ?_
  refine lv_aload_n hx hb dL_law_502 rfl (lv_at hl 1 rfl) ?_
  refine lv_iload hx hb dL_law_503 (lv_at hl 5 rfl) ?_
  refine lv_iconst (v := nI 3) hx hb dL_law_505 (by decide) ?_
  refine hk_addN hx hb dL_law_506 ?_
  refine hk_sld hx hb hX hbl hbA hS (j := (4 * n) + 3) (by omega) hL dL_law_507 ?_
  have hPm := hP.sub (ws' := [((aa 0), .inr (3, [.int rf, .int (nI (gN g)), .ref (aa 1), .ref (aa 2), .ref (aa 3), .ref (aa 4), .ref (aa 5), .ref (aa 6), .ref (aa 7), .ref (aa 8), .ref (aa 9), .int (nI (gd g)), .ref (aa 10), .int (nI (gc g)), .ref (aa 11), .ref (aa 12), .ref (aa 13)])), ((aa 1), .inl (ct 0, 60, .inl (mK g))), ((aa 2), .inl (ct 0, 60, .inl (mL g))), ((aa 3), .inl (ct 0, 5, .inl (mY g))), ((aa 4), .inl (ct 0, 60, .inl (mS g))), ((aa 5), .inl (ct 0, 720, .inl (mP g))), ((aa 6), .inl (ct 0, 5, .inl (mC g))), ((aa 7), .inl (ct 0, 5, .inl (mLa g))), ((aa 8), .inl (ct 0, 5, .inl (mQ g))), ((aa 9), .inl (ct 0, 150, .inl (mT g))), ((aa 10), .inl (ct 0, 24, .inl (mD g))), ((aa 11), .inl (ct 0, 6, .inl (mW g))), ((aa 12), .inl (ct 0, 30, .inl (mX g))), ((aa 13), .inl (ct 0, 30, .inl (mZ g)))]) [0, 1, 2, 3, 4, 5, 6, 7, 8, 9, 10, 11, 12, 13] rfl
  have hDm := hD.sub (ws' := [((aa 0), .inr (3, [.int rf, .int (nI (gN g)), .ref (aa 1), .ref (aa 2), .ref (aa 3), .ref (aa 4), .ref (aa 5), .ref (aa 6), .ref (aa 7), .ref (aa 8), .ref (aa 9), .int (nI (gd g)), .ref (aa 10), .int (nI (gc g)), .ref (aa 11), .ref (aa 12), .ref (aa 13)])), ((aa 1), .inl (ct 0, 60, .inl (mK g))), ((aa 2), .inl (ct 0, 60, .inl (mL g))), ((aa 3), .inl (ct 0, 5, .inl (mY g))), ((aa 4), .inl (ct 0, 60, .inl (mS g))), ((aa 5), .inl (ct 0, 720, .inl (mP g))), ((aa 6), .inl (ct 0, 5, .inl (mC g))), ((aa 7), .inl (ct 0, 5, .inl (mLa g))), ((aa 8), .inl (ct 0, 5, .inl (mQ g))), ((aa 9), .inl (ct 0, 150, .inl (mT g))), ((aa 10), .inl (ct 0, 24, .inl (mD g))), ((aa 11), .inl (ct 0, 6, .inl (mW g))), ((aa 12), .inl (ct 0, 30, .inl (mX g))), ((aa 13), .inl (ct 0, 30, .inl (mZ g)))]) [0, 1, 2, 3, 4, 5, 6, 7, 8, 9, 10, 11, 12, 13] (by decide) rfl
  refine hk_M (w1 := mdW ct aa z.2.2 z.1) (rest := []) (va_Run.run (va_runV (As := [.int (xs ((4 * n) + 1)), .int (xs ((4 * n) + 2)), .int (xs ((4 * n) + 3))]) (rest := []) ⟨hx, hb, hml, hown, hts⟩ cM (cwV 3 hts gL_law_X3_press rfl rfl rfl (by decide +kernel) ⟨Nat.le_of_ble_eq_true rfl, Nat.le_of_ble_eq_true rfl⟩) (hk_preV hE (va_recv hE.1 hP (ci := 3) (q0 := 0) rfl rfl) ⟨hPm, hDm.weaken (fun _ _ _ _ => trivial)⟩) rfl rfl hl.1 rfl (lv_room (Nat.le_of_ble_eq_true rfl)) dL_law_508 ⟨by show _ ≤ 601024; omega, by show _ ≤ 7293034; omega⟩)) hP hD hS [0, 1, 2, 3, 4, 5, 6, 7, 8, 9, 10, 11, 12, 13] (wc := [((aa 0), .inr (3, [.int rf, .int (nI (gN g)), .ref (aa 1), .ref (aa 2), .ref (aa 3), .ref (aa 4), .ref (aa 5), .ref (aa 6), .ref (aa 7), .ref (aa 8), .ref (aa 9), .int (nI (gd g)), .ref (aa 10), .int (nI (gc g)), .ref (aa 11), .ref (aa 12), .ref (aa 13)])), ((aa 1), .inl (ct 0, 60, .inl (mK g))), ((aa 2), .inl (ct 0, 60, .inl (mL g))), ((aa 3), .inl (ct 0, 5, .inl (mY g))), ((aa 4), .inl (ct 0, 60, .inl (mS g))), ((aa 5), .inl (ct 0, 720, .inl (mP g))), ((aa 6), .inl (ct 0, 5, .inl (mC g))), ((aa 7), .inl (ct 0, 5, .inl (mLa g))), ((aa 8), .inl (ct 0, 5, .inl (mQ g))), ((aa 9), .inl (ct 0, 150, .inl (mT g))), ((aa 10), .inl (ct 0, 24, .inl (mD g))), ((aa 11), .inl (ct 0, 6, .inl (mW g))), ((aa 12), .inl (ct 0, 30, .inl (mX g))), ((aa 13), .inl (ct 0, 30, .inl (mZ g)))]) rfl rfl rfl (fun H locs hP hD hS => ?_)
  have hP : va_P D vwCl (((aa 0), .inr (3, [.int z.1, .int (nI (gN z.2.2)), .ref (aa 1), .ref (aa 2), .ref (aa 3), .ref (aa 4), .ref (aa 5), .ref (aa 6), .ref (aa 7), .ref (aa 8), .ref (aa 9), .int (nI (gd z.2.2)), .ref (aa 10), .int (nI (gc z.2.2)), .ref (aa 11), .ref (aa 12), .ref (aa 13)])) :: ((aa 1), .inl (ct 0, 60, .inl (mK z.2.2))) :: ((aa 2), .inl (ct 0, 60, .inl (mL z.2.2))) :: ((aa 3), .inl (ct 0, 5, .inl (mY z.2.2))) :: ((aa 4), .inl (ct 0, 60, .inl (mS z.2.2))) :: ((aa 5), .inl (ct 0, 720, .inl (mP z.2.2))) :: ((aa 6), .inl (ct 0, 5, .inl (mC z.2.2))) :: ((aa 7), .inl (ct 0, 5, .inl (mLa z.2.2))) :: ((aa 8), .inl (ct 0, 5, .inl (mQ z.2.2))) :: ((aa 9), .inl (ct 0, 150, .inl (mT z.2.2))) :: ((aa 10), .inl (ct 0, 24, .inl (mD z.2.2))) :: ((aa 11), .inl (ct 0, 6, .inl (mW z.2.2))) :: ((aa 12), .inl (ct 0, 30, .inl (mX z.2.2))) :: ((aa 13), .inl (ct 0, 30, .inl (mZ z.2.2))) :: hkLW ct b d9 z.2.2 o f9) H := hP
  have hD : va_D (fun q : Nat => s.heap.size ≤ q) (((aa 0), .inr (3, [.int z.1, .int (nI (gN z.2.2)), .ref (aa 1), .ref (aa 2), .ref (aa 3), .ref (aa 4), .ref (aa 5), .ref (aa 6), .ref (aa 7), .ref (aa 8), .ref (aa 9), .int (nI (gd z.2.2)), .ref (aa 10), .int (nI (gc z.2.2)), .ref (aa 11), .ref (aa 12), .ref (aa 13)])) :: ((aa 1), .inl (ct 0, 60, .inl (mK z.2.2))) :: ((aa 2), .inl (ct 0, 60, .inl (mL z.2.2))) :: ((aa 3), .inl (ct 0, 5, .inl (mY z.2.2))) :: ((aa 4), .inl (ct 0, 60, .inl (mS z.2.2))) :: ((aa 5), .inl (ct 0, 720, .inl (mP z.2.2))) :: ((aa 6), .inl (ct 0, 5, .inl (mC z.2.2))) :: ((aa 7), .inl (ct 0, 5, .inl (mLa z.2.2))) :: ((aa 8), .inl (ct 0, 5, .inl (mQ z.2.2))) :: ((aa 9), .inl (ct 0, 150, .inl (mT z.2.2))) :: ((aa 10), .inl (ct 0, 24, .inl (mD z.2.2))) :: ((aa 11), .inl (ct 0, 6, .inl (mW z.2.2))) :: ((aa 12), .inl (ct 0, 30, .inl (mX z.2.2))) :: ((aa 13), .inl (ct 0, 30, .inl (mZ z.2.2))) :: hkLW ct b d9 z.2.2 o f9) := hD
  refine lv_istore (lv' := [(6, .int z.2.1), (5, .int z.1), (0, .ref sb), (1, .ref (b 0)), (2, .ref (aa 0)), (3, .ref o), (4, .int (nI (4 * n)))]) hx hb dL_law_511 hl (by decide) rfl (fun ls hl => ?_)
  refine lv_aload_n hx hb dL_law_513 rfl (lv_at hl 4 rfl) ?_
  refine hk_R (rest := []) (va_Run.run (va_runV (As := []) (rest := []) ⟨hx, hb, hml, hown, hts⟩ (c_X3_thrown l D ct sa aa z.2.2 z.1) (cwV 0 hts gL_law_X3_thrown rfl rfl rfl (by decide +kernel) ⟨Nat.le_of_ble_eq_true rfl, Nat.le_of_ble_eq_true rfl⟩) (hk_preV hE (va_recv hE.1 hP (ci := 3) (q0 := 0) rfl rfl) (hP.sub (ws' := [((aa 0), .inr (3, [.int z.1, .int (nI (gN z.2.2)), .ref (aa 1), .ref (aa 2), .ref (aa 3), .ref (aa 4), .ref (aa 5), .ref (aa 6), .ref (aa 7), .ref (aa 8), .ref (aa 9), .int (nI (gd z.2.2)), .ref (aa 10), .int (nI (gc z.2.2)), .ref (aa 11), .ref (aa 12), .ref (aa 13)]))]) [0] rfl)) rfl rfl hl.1 rfl (lv_room (Nat.le_of_ble_eq_true rfl)) dL_law_514 ⟨by show _ ≤ 601024; omega, by show _ ≤ 7293034; omega⟩)) ?_
  refine lv_iload hx hb dL_law_517 (lv_at hl 1 rfl) ?_
  refine lv_icmp_eq (tgt := 524) hx hb dL_law_519 (by decide) (fun hq => ?_) (fun hq => ?_)
  · refine lv_iload hx hb dL_law_524 (lv_at hl 1 rfl) ?_
    refine lv_if_ne (tgt := 548) hx hb dL_law_526 (by decide) (fun hq0 => ?_) (fun hq0 => ?_)
    · refine lv_goto (tgt := 1492) hx hb dL_law_548 (by decide) ?_
      refine W.widen (k := cl + 6) (n := sl + 218) (by omega) (by omega) ?_
      exact kk d9 z.2.2 f9 z.1 _ _ ls hI2 hP hD hS (lv_sub hl [2, 3, 4, 5, 6] rfl)
    · have hv9 := hf9 hq0
      refine lv_aload_n hx hb dL_law_529 rfl (lv_at hl 5 rfl) ?_
      refine lv_iconst (v := nI 0) hx hb dL_law_530 (by decide) ?_
      refine hk_lld hx hb hE hP 14 rfl (j := 0) (by decide) (by decide) dL_law_531 ?_
      rw [hv9]
      refine lv_iload hx hb dL_law_532 (lv_at hl 0 rfl) ?_
      refine lv_if_eq (tgt := 541) hx hb dL_law_534 (by decide) (fun hq8 => ?_) (fun hq8 => ?_)
      · refine lv_lconst (v := z.2.1.toInt64) hx hb dL_law_541 (by rw [hq8]; rfl) ?_
        refine hk_lcmpE hx hb dL_law_542 ?_
        refine lv_if_eq (tgt := 548) hx hb dL_law_543 (by decide) (fun hq7 => ?_) (fun hq7 => ?_)
        · refine lv_goto (tgt := 1492) hx hb dL_law_548 (by decide) ?_
          refine W.widen (k := cl + 6) (n := sl + 218) (by omega) (by omega) ?_
          exact kk d9 z.2.2 f9 z.1 _ _ ls hI2 hP hD hS (lv_sub hl [2, 3, 4, 5, 6] rfl)
        · exact absurd rfl hq7
      · refine lv_lconst (v := z.2.1.toInt64) hx hb dL_law_537 (by rw [hz01.resolve_left hq8]; rfl) ?_
        refine lv_goto (tgt := 542) hx hb dL_law_538 (by decide) ?_
        refine hk_lcmpE hx hb dL_law_542 ?_
        refine lv_if_eq (tgt := 548) hx hb dL_law_543 (by decide) (fun hq7 => ?_) (fun hq7 => ?_)
        · refine lv_goto (tgt := 1492) hx hb dL_law_548 (by decide) ?_
          refine W.widen (k := cl + 6) (n := sl + 218) (by omega) (by omega) ?_
          exact kk d9 z.2.2 f9 z.1 _ _ ls hI2 hP hD hS (lv_sub hl [2, 3, 4, 5, 6] rfl)
        · exact absurd rfl hq7
  · exact absurd rfl hq

set_option maxHeartbeats 4000000 in
set_option maxRecDepth 100000 in
theorem lw_k_slips {p : Program} {e : Env} {s : State} {m : MethodId} {below : List Frame} {meth : Method} {c : Code} (l : Launch) (hfl : l.flags = flags0) {D : va_G} {ct : Nat → ClassId} {sa : Nat → Nat} {sb L : Nat} {xs : Nat → Int32} {b aa : Nat → Nat} {o : Nat} (hL : L ≤ 2048) (C0 : lw_At p s m meth c sb L xs) (hE : hkE D ct sa s) (hH0 : hkH s.heap.size s s.heap) {n cl sl : Nat} (hn : 4 * n + 4 ≤ L) (hcl : cl + 6 ≤ 601024) (hsl : sl + 218 ≤ 7293034) {g : Sg} {d : Ad} {f : Nat → Int64} {rf : Int32} {H : Heap} {locs : List Loc} {ls : Array Slot} (hI : Inv g) (hP : va_P D vwCl (mdW ct aa g rf ++ hkLW ct b d g o f) H) (hD : va_D (fun q : Nat => s.heap.size ≤ q) (mdW ct aa g rf ++ hkLW ct b d g o f)) (hS : va_S (fun q : Nat => s.heap.size ≤ q) s.heap H locs) (hl : lv_has ls 7 [(0, .ref sb), (1, .ref (b 0)), (2, .ref (aa 0)), (3, .ref o), (4, .int (nI (4 * n)))]) (kk : ∀ (d' : Ad) (g' : Sg) (f' : Nat → Int64) (rf' : Int32) (H1 : Heap) (locs1 : List Loc) (ls1 : Array Slot), Inv g' → va_P D vwCl (mdW ct aa g' rf' ++ hkLW ct b d' g' o f') H1 → va_D (fun q : Nat => s.heap.size ≤ q) (mdW ct aa g' rf' ++ hkLW ct b d' g' o f') → va_S (fun q : Nat => s.heap.size ≤ q) s.heap H1 locs1 → lv_has ls1 7 [(0, .ref sb), (1, .ref (b 0)), (2, .ref (aa 0)), (3, .ref o), (4, .int (nI (4 * n)))] → W p l e room_1 s m #[Value.ref sb] below meth c H1 locs1 (cl + 6) (sl + 218) (lw_Z below #[Value.ref sb] s) (F0 m 1492 ls1 [])) : W p l e room_1 s m #[Value.ref sb] below meth c H locs cl sl (lw_Z below #[Value.ref sb] s) (F0 m 551 ls []) := by
  obtain ⟨hx, hb, hr, hml, hown, hts, hX, hbl, hlocks, hgv⟩ := C0
  have hts : ∀ w ∈ wsL_law, w.before #[Value.ref sb] s = true := fun w h => hts w (wsL_law_in w h)
  have hA : ∀ q : Nat, s.heap.size ≤ q → (fun q : Nat => s.heap.size ≤ q) q := fun _ h => h
  have hbA : ¬ (fun q : Nat => s.heap.size ≤ q) sb := Nat.not_le.mpr hbl
  have hb : c.code = cL_law := hb
  have hH := hH0.at hS
  have cL := c_L_slips l hfl D ct sa s.heap.size H.size b d g o f (xs (4 * n + 1)) (xs (4 * n + 2)) (xs (4 * n + 3)) hI
  have cM := c_X3_slips l D ct sa aa g rf (xs (4 * n + 1)) (xs (4 * n + 2)) (xs (4 * n + 3)) hI
  have hI2 := inv_slips hI (xs (4 * n + 1)) (xs (4 * n + 2)) (xs (4 * n + 3))
  generalize hz9 : opSlips g (xs (4 * n + 1)) (xs (4 * n + 2)) (xs (4 * n + 3)) = z at cL cM hI2
  refine lv_aload_n hx hb dL_law_551 rfl (lv_at hl 1 rfl) ?_
  refine lv_aload_n hx hb dL_law_552 rfl (lv_at hl 0 rfl) ?_
  refine lv_iload hx hb dL_law_553 (lv_at hl 4 rfl) ?_
  refine lv_iconst (v := nI 1) hx hb dL_law_555 (by decide) ?_
  refine hk_addN hx hb dL_law_556 ?_
  refine hk_sld hx hb hX hbl hbA hS (j := (4 * n) + 1) (by omega) hL dL_law_557 ?_
  refine lv_aload_n hx hb dL_law_558 rfl (lv_at hl 0 rfl) ?_
  refine lv_iload hx hb dL_law_559 (lv_at hl 4 rfl) ?_
  refine lv_iconst (v := nI 2) hx hb dL_law_561 (by decide) ?_
  refine hk_addN hx hb dL_law_562 ?_
  refine hk_sld hx hb hX hbl hbA hS (j := (4 * n) + 2) (by omega) hL dL_law_563 ?_
  refine lv_aload_n hx hb dL_law_564 rfl (lv_at hl 0 rfl) ?_
  refine lv_iload hx hb dL_law_565 (lv_at hl 4 rfl) ?_
  refine lv_iconst (v := nI 3) hx hb dL_law_567 (by decide) ?_
  refine hk_addN hx hb dL_law_568 ?_
  refine hk_sld hx hb hX hbl hbA hS (j := (4 * n) + 3) (by omega) hL dL_law_569 ?_
  refine lv_aload_n hx hb dL_law_570 rfl (lv_at hl 3 rfl) ?_
  refine hk_LL (wr := mdW ct aa g rf) (rest := []) (vx_runSW (As := [.ref (b 0), .int (xs ((4 * n) + 1)), .int (xs ((4 * n) + 2)), .int (xs ((4 * n) + 3)), .ref o]) (rest := []) ⟨hx, hb, hml, hown, hts⟩ cL (vx_cwSW 5 hts gL_law_L_slips rfl rfl rfl (by decide +kernel) ⟨Nat.le_of_ble_eq_true rfl, Nat.le_of_ble_eq_true rfl⟩) (hk_prxS hE hH ⟨rfl, hP.right (w1 := mdW ct aa g rf), hD.right (w1 := mdW ct aa g rf)⟩) rfl rfl hl.1 rfl (lv_room (Nat.le_of_ble_eq_true rfl)) dL_law_571 ⟨by show _ ≤ 601024; omega, by show _ ≤ 7293034; omega⟩) rfl hP hD hS hA (fun d9 f9 H locs hf9 hP hD hS => ?_)
  have hP : va_P D vwCl (((aa 0), .inr (3, [.int rf, .int (nI (gN g)), .ref (aa 1), .ref (aa 2), .ref (aa 3), .ref (aa 4), .ref (aa 5), .ref (aa 6), .ref (aa 7), .ref (aa 8), .ref (aa 9), .int (nI (gd g)), .ref (aa 10), .int (nI (gc g)), .ref (aa 11), .ref (aa 12), .ref (aa 13)])) :: ((aa 1), .inl (ct 0, 60, .inl (mK g))) :: ((aa 2), .inl (ct 0, 60, .inl (mL g))) :: ((aa 3), .inl (ct 0, 5, .inl (mY g))) :: ((aa 4), .inl (ct 0, 60, .inl (mS g))) :: ((aa 5), .inl (ct 0, 720, .inl (mP g))) :: ((aa 6), .inl (ct 0, 5, .inl (mC g))) :: ((aa 7), .inl (ct 0, 5, .inl (mLa g))) :: ((aa 8), .inl (ct 0, 5, .inl (mQ g))) :: ((aa 9), .inl (ct 0, 150, .inl (mT g))) :: ((aa 10), .inl (ct 0, 24, .inl (mD g))) :: ((aa 11), .inl (ct 0, 6, .inl (mW g))) :: ((aa 12), .inl (ct 0, 30, .inl (mX g))) :: ((aa 13), .inl (ct 0, 30, .inl (mZ g))) :: hkLW ct b d9 z.2.2 o f9) H := hP
  have hD : va_D (fun q : Nat => s.heap.size ≤ q) (((aa 0), .inr (3, [.int rf, .int (nI (gN g)), .ref (aa 1), .ref (aa 2), .ref (aa 3), .ref (aa 4), .ref (aa 5), .ref (aa 6), .ref (aa 7), .ref (aa 8), .ref (aa 9), .int (nI (gd g)), .ref (aa 10), .int (nI (gc g)), .ref (aa 11), .ref (aa 12), .ref (aa 13)])) :: ((aa 1), .inl (ct 0, 60, .inl (mK g))) :: ((aa 2), .inl (ct 0, 60, .inl (mL g))) :: ((aa 3), .inl (ct 0, 5, .inl (mY g))) :: ((aa 4), .inl (ct 0, 60, .inl (mS g))) :: ((aa 5), .inl (ct 0, 720, .inl (mP g))) :: ((aa 6), .inl (ct 0, 5, .inl (mC g))) :: ((aa 7), .inl (ct 0, 5, .inl (mLa g))) :: ((aa 8), .inl (ct 0, 5, .inl (mQ g))) :: ((aa 9), .inl (ct 0, 150, .inl (mT g))) :: ((aa 10), .inl (ct 0, 24, .inl (mD g))) :: ((aa 11), .inl (ct 0, 6, .inl (mW g))) :: ((aa 12), .inl (ct 0, 30, .inl (mX g))) :: ((aa 13), .inl (ct 0, 30, .inl (mZ g))) :: hkLW ct b d9 z.2.2 o f9) := hD
  refine lv_istore (lv' := [(5, .int z.1), (0, .ref sb), (1, .ref (b 0)), (2, .ref (aa 0)), (3, .ref o), (4, .int (nI (4 * n)))]) hx hb dL_law_574 hl (by decide) rfl (fun ls hl => ?_)
  refine lv_aload_n hx hb dL_law_576 rfl (lv_at hl 3 rfl) ?_
  refine lv_aload_n hx hb dL_law_577 rfl (lv_at hl 1 rfl) ?_
  refine lv_iload hx hb dL_law_578 (lv_at hl 5 rfl) ?_
  refine lv_iconst (v := nI 1) hx hb dL_law_580 (by decide) ?_
  refine hk_addN hx hb dL_law_581 ?_
  refine hk_sld hx hb hX hbl hbA hS (j := (4 * n) + 1) (by omega) hL dL_law_582 ?_
  refine lv_aload_n hx hb dL_law_583 rfl (lv_at hl 1 rfl) ?_
  refine lv_iload hx hb dL_law_584 (lv_at hl 5 rfl) ?_
  refine lv_iconst (v := nI 2) hx hb dL_law_586 (by decide) ?_
  refine hk_addN hx hb dL_law_587 ?_
  refine hk_sld hx hb hX hbl hbA hS (j := (4 * n) + 2) (by omega) hL dL_law_588 ?_
  refine lv_aload_n hx hb dL_law_589 rfl (lv_at hl 1 rfl) ?_
  refine lv_iload hx hb dL_law_590 (lv_at hl 5 rfl) ?_
  refine lv_iconst (v := nI 3) hx hb dL_law_592 (by decide) ?_
  refine hk_addN hx hb dL_law_593 ?_
  refine hk_sld hx hb hX hbl hbA hS (j := (4 * n) + 3) (by omega) hL dL_law_594 ?_
  have hPm := hP.sub (ws' := [((aa 0), .inr (3, [.int rf, .int (nI (gN g)), .ref (aa 1), .ref (aa 2), .ref (aa 3), .ref (aa 4), .ref (aa 5), .ref (aa 6), .ref (aa 7), .ref (aa 8), .ref (aa 9), .int (nI (gd g)), .ref (aa 10), .int (nI (gc g)), .ref (aa 11), .ref (aa 12), .ref (aa 13)])), ((aa 1), .inl (ct 0, 60, .inl (mK g))), ((aa 2), .inl (ct 0, 60, .inl (mL g))), ((aa 3), .inl (ct 0, 5, .inl (mY g))), ((aa 4), .inl (ct 0, 60, .inl (mS g))), ((aa 5), .inl (ct 0, 720, .inl (mP g))), ((aa 6), .inl (ct 0, 5, .inl (mC g))), ((aa 7), .inl (ct 0, 5, .inl (mLa g))), ((aa 8), .inl (ct 0, 5, .inl (mQ g))), ((aa 9), .inl (ct 0, 150, .inl (mT g))), ((aa 10), .inl (ct 0, 24, .inl (mD g))), ((aa 11), .inl (ct 0, 6, .inl (mW g))), ((aa 12), .inl (ct 0, 30, .inl (mX g))), ((aa 13), .inl (ct 0, 30, .inl (mZ g)))]) [0, 1, 2, 3, 4, 5, 6, 7, 8, 9, 10, 11, 12, 13] rfl
  have hDm := hD.sub (ws' := [((aa 0), .inr (3, [.int rf, .int (nI (gN g)), .ref (aa 1), .ref (aa 2), .ref (aa 3), .ref (aa 4), .ref (aa 5), .ref (aa 6), .ref (aa 7), .ref (aa 8), .ref (aa 9), .int (nI (gd g)), .ref (aa 10), .int (nI (gc g)), .ref (aa 11), .ref (aa 12), .ref (aa 13)])), ((aa 1), .inl (ct 0, 60, .inl (mK g))), ((aa 2), .inl (ct 0, 60, .inl (mL g))), ((aa 3), .inl (ct 0, 5, .inl (mY g))), ((aa 4), .inl (ct 0, 60, .inl (mS g))), ((aa 5), .inl (ct 0, 720, .inl (mP g))), ((aa 6), .inl (ct 0, 5, .inl (mC g))), ((aa 7), .inl (ct 0, 5, .inl (mLa g))), ((aa 8), .inl (ct 0, 5, .inl (mQ g))), ((aa 9), .inl (ct 0, 150, .inl (mT g))), ((aa 10), .inl (ct 0, 24, .inl (mD g))), ((aa 11), .inl (ct 0, 6, .inl (mW g))), ((aa 12), .inl (ct 0, 30, .inl (mX g))), ((aa 13), .inl (ct 0, 30, .inl (mZ g)))]) [0, 1, 2, 3, 4, 5, 6, 7, 8, 9, 10, 11, 12, 13] (by decide) rfl
  refine hk_M (w1 := mdW ct aa z.2.2 z.1) (rest := []) (va_Run.run (va_runV (As := [.int (xs ((4 * n) + 1)), .int (xs ((4 * n) + 2)), .int (xs ((4 * n) + 3))]) (rest := []) ⟨hx, hb, hml, hown, hts⟩ cM (cwV 3 hts gL_law_X3_slips rfl rfl rfl (by decide +kernel) ⟨Nat.le_of_ble_eq_true rfl, Nat.le_of_ble_eq_true rfl⟩) (hk_preV hE (va_recv hE.1 hP (ci := 3) (q0 := 0) rfl rfl) ⟨hPm, hDm.weaken (fun _ _ _ _ => trivial)⟩) rfl rfl hl.1 rfl (lv_room (Nat.le_of_ble_eq_true rfl)) dL_law_595 ⟨by show _ ≤ 601024; omega, by show _ ≤ 7293034; omega⟩)) hP hD hS [0, 1, 2, 3, 4, 5, 6, 7, 8, 9, 10, 11, 12, 13] (wc := [((aa 0), .inr (3, [.int rf, .int (nI (gN g)), .ref (aa 1), .ref (aa 2), .ref (aa 3), .ref (aa 4), .ref (aa 5), .ref (aa 6), .ref (aa 7), .ref (aa 8), .ref (aa 9), .int (nI (gd g)), .ref (aa 10), .int (nI (gc g)), .ref (aa 11), .ref (aa 12), .ref (aa 13)])), ((aa 1), .inl (ct 0, 60, .inl (mK g))), ((aa 2), .inl (ct 0, 60, .inl (mL g))), ((aa 3), .inl (ct 0, 5, .inl (mY g))), ((aa 4), .inl (ct 0, 60, .inl (mS g))), ((aa 5), .inl (ct 0, 720, .inl (mP g))), ((aa 6), .inl (ct 0, 5, .inl (mC g))), ((aa 7), .inl (ct 0, 5, .inl (mLa g))), ((aa 8), .inl (ct 0, 5, .inl (mQ g))), ((aa 9), .inl (ct 0, 150, .inl (mT g))), ((aa 10), .inl (ct 0, 24, .inl (mD g))), ((aa 11), .inl (ct 0, 6, .inl (mW g))), ((aa 12), .inl (ct 0, 30, .inl (mX g))), ((aa 13), .inl (ct 0, 30, .inl (mZ g)))]) rfl rfl rfl (fun H locs hP hD hS => ?_)
  have hP : va_P D vwCl (((aa 0), .inr (3, [.int z.1, .int (nI (gN z.2.2)), .ref (aa 1), .ref (aa 2), .ref (aa 3), .ref (aa 4), .ref (aa 5), .ref (aa 6), .ref (aa 7), .ref (aa 8), .ref (aa 9), .int (nI (gd z.2.2)), .ref (aa 10), .int (nI (gc z.2.2)), .ref (aa 11), .ref (aa 12), .ref (aa 13)])) :: ((aa 1), .inl (ct 0, 60, .inl (mK z.2.2))) :: ((aa 2), .inl (ct 0, 60, .inl (mL z.2.2))) :: ((aa 3), .inl (ct 0, 5, .inl (mY z.2.2))) :: ((aa 4), .inl (ct 0, 60, .inl (mS z.2.2))) :: ((aa 5), .inl (ct 0, 720, .inl (mP z.2.2))) :: ((aa 6), .inl (ct 0, 5, .inl (mC z.2.2))) :: ((aa 7), .inl (ct 0, 5, .inl (mLa z.2.2))) :: ((aa 8), .inl (ct 0, 5, .inl (mQ z.2.2))) :: ((aa 9), .inl (ct 0, 150, .inl (mT z.2.2))) :: ((aa 10), .inl (ct 0, 24, .inl (mD z.2.2))) :: ((aa 11), .inl (ct 0, 6, .inl (mW z.2.2))) :: ((aa 12), .inl (ct 0, 30, .inl (mX z.2.2))) :: ((aa 13), .inl (ct 0, 30, .inl (mZ z.2.2))) :: hkLW ct b d9 z.2.2 o f9) H := hP
  have hD : va_D (fun q : Nat => s.heap.size ≤ q) (((aa 0), .inr (3, [.int z.1, .int (nI (gN z.2.2)), .ref (aa 1), .ref (aa 2), .ref (aa 3), .ref (aa 4), .ref (aa 5), .ref (aa 6), .ref (aa 7), .ref (aa 8), .ref (aa 9), .int (nI (gd z.2.2)), .ref (aa 10), .int (nI (gc z.2.2)), .ref (aa 11), .ref (aa 12), .ref (aa 13)])) :: ((aa 1), .inl (ct 0, 60, .inl (mK z.2.2))) :: ((aa 2), .inl (ct 0, 60, .inl (mL z.2.2))) :: ((aa 3), .inl (ct 0, 5, .inl (mY z.2.2))) :: ((aa 4), .inl (ct 0, 60, .inl (mS z.2.2))) :: ((aa 5), .inl (ct 0, 720, .inl (mP z.2.2))) :: ((aa 6), .inl (ct 0, 5, .inl (mC z.2.2))) :: ((aa 7), .inl (ct 0, 5, .inl (mLa z.2.2))) :: ((aa 8), .inl (ct 0, 5, .inl (mQ z.2.2))) :: ((aa 9), .inl (ct 0, 150, .inl (mT z.2.2))) :: ((aa 10), .inl (ct 0, 24, .inl (mD z.2.2))) :: ((aa 11), .inl (ct 0, 6, .inl (mW z.2.2))) :: ((aa 12), .inl (ct 0, 30, .inl (mX z.2.2))) :: ((aa 13), .inl (ct 0, 30, .inl (mZ z.2.2))) :: hkLW ct b d9 z.2.2 o f9) := hD
  refine lv_istore (lv' := [(6, .int z.2.1), (5, .int z.1), (0, .ref sb), (1, .ref (b 0)), (2, .ref (aa 0)), (3, .ref o), (4, .int (nI (4 * n)))]) hx hb dL_law_598 hl (by decide) rfl (fun ls hl => ?_)
  refine lv_aload_n hx hb dL_law_600 rfl (lv_at hl 4 rfl) ?_
  refine hk_R (rest := []) (va_Run.run (va_runV (As := []) (rest := []) ⟨hx, hb, hml, hown, hts⟩ (c_X3_thrown l D ct sa aa z.2.2 z.1) (cwV 0 hts gL_law_X3_thrown rfl rfl rfl (by decide +kernel) ⟨Nat.le_of_ble_eq_true rfl, Nat.le_of_ble_eq_true rfl⟩) (hk_preV hE (va_recv hE.1 hP (ci := 3) (q0 := 0) rfl rfl) (hP.sub (ws' := [((aa 0), .inr (3, [.int z.1, .int (nI (gN z.2.2)), .ref (aa 1), .ref (aa 2), .ref (aa 3), .ref (aa 4), .ref (aa 5), .ref (aa 6), .ref (aa 7), .ref (aa 8), .ref (aa 9), .int (nI (gd z.2.2)), .ref (aa 10), .int (nI (gc z.2.2)), .ref (aa 11), .ref (aa 12), .ref (aa 13)]))]) [0] rfl)) rfl rfl hl.1 rfl (lv_room (Nat.le_of_ble_eq_true rfl)) dL_law_601 ⟨by show _ ≤ 601024; omega, by show _ ≤ 7293034; omega⟩)) ?_
  refine lv_iload hx hb dL_law_604 (lv_at hl 1 rfl) ?_
  refine lv_icmp_eq (tgt := 611) hx hb dL_law_606 (by decide) (fun hq => ?_) (fun hq => ?_)
  · refine lv_iload hx hb dL_law_611 (lv_at hl 1 rfl) ?_
    refine lv_if_ne (tgt := 628) hx hb dL_law_613 (by decide) (fun hq0 => ?_) (fun hq0 => ?_)
    · refine lv_goto (tgt := 1492) hx hb dL_law_628 (by decide) ?_
      refine W.widen (k := cl + 6) (n := sl + 218) (by omega) (by omega) ?_
      exact kk d9 z.2.2 f9 z.1 _ _ ls hI2 hP hD hS (lv_sub hl [2, 3, 4, 5, 6] rfl)
    · have hv9 := hf9 hq0
      refine lv_aload_n hx hb dL_law_616 rfl (lv_at hl 5 rfl) ?_
      refine lv_iconst (v := nI 0) hx hb dL_law_617 (by decide) ?_
      refine hk_lld hx hb hE hP 14 rfl (j := 0) (by decide) (by decide) dL_law_618 ?_
      rw [hv9]
      refine lv_iload hx hb dL_law_619 (lv_at hl 0 rfl) ?_
      refine lv_i2l hx hb dL_law_621 rfl ?_
      refine hk_lcmpE hx hb dL_law_622 ?_
      refine lv_if_eq (tgt := 628) hx hb dL_law_623 (by decide) (fun hq7 => ?_) (fun hq7 => ?_)
      · refine lv_goto (tgt := 1492) hx hb dL_law_628 (by decide) ?_
        refine W.widen (k := cl + 6) (n := sl + 218) (by omega) (by omega) ?_
        exact kk d9 z.2.2 f9 z.1 _ _ ls hI2 hP hD hS (lv_sub hl [2, 3, 4, 5, 6] rfl)
      · exact absurd rfl hq7
  · exact absurd rfl hq

set_option maxHeartbeats 4000000 in
set_option maxRecDepth 100000 in
theorem lw_k_pair {p : Program} {e : Env} {s : State} {m : MethodId} {below : List Frame} {meth : Method} {c : Code} (l : Launch) (hfl : l.flags = flags0) {D : va_G} {ct : Nat → ClassId} {sa : Nat → Nat} {sb L : Nat} {xs : Nat → Int32} {b aa : Nat → Nat} {o : Nat} (hL : L ≤ 2048) (C0 : lw_At p s m meth c sb L xs) (hE : hkE D ct sa s) (hH0 : hkH s.heap.size s s.heap) {n cl sl : Nat} (hn : 4 * n + 4 ≤ L) (hcl : cl + 6 ≤ 601024) (hsl : sl + 218 ≤ 7293034) {g : Sg} {d : Ad} {f : Nat → Int64} {rf : Int32} {H : Heap} {locs : List Loc} {ls : Array Slot} (hI : Inv g) (hP : va_P D vwCl (mdW ct aa g rf ++ hkLW ct b d g o f) H) (hD : va_D (fun q : Nat => s.heap.size ≤ q) (mdW ct aa g rf ++ hkLW ct b d g o f)) (hS : va_S (fun q : Nat => s.heap.size ≤ q) s.heap H locs) (hl : lv_has ls 7 [(0, .ref sb), (1, .ref (b 0)), (2, .ref (aa 0)), (3, .ref o), (4, .int (nI (4 * n)))]) (kk : ∀ (d' : Ad) (g' : Sg) (f' : Nat → Int64) (rf' : Int32) (H1 : Heap) (locs1 : List Loc) (ls1 : Array Slot), Inv g' → va_P D vwCl (mdW ct aa g' rf' ++ hkLW ct b d' g' o f') H1 → va_D (fun q : Nat => s.heap.size ≤ q) (mdW ct aa g' rf' ++ hkLW ct b d' g' o f') → va_S (fun q : Nat => s.heap.size ≤ q) s.heap H1 locs1 → lv_has ls1 7 [(0, .ref sb), (1, .ref (b 0)), (2, .ref (aa 0)), (3, .ref o), (4, .int (nI (4 * n)))] → W p l e room_1 s m #[Value.ref sb] below meth c H1 locs1 (cl + 6) (sl + 218) (lw_Z below #[Value.ref sb] s) (F0 m 1492 ls1 [])) : W p l e room_1 s m #[Value.ref sb] below meth c H locs cl sl (lw_Z below #[Value.ref sb] s) (F0 m 631 ls []) := by
  obtain ⟨hx, hb, hr, hml, hown, hts, hX, hbl, hlocks, hgv⟩ := C0
  have hts : ∀ w ∈ wsL_law, w.before #[Value.ref sb] s = true := fun w h => hts w (wsL_law_in w h)
  have hA : ∀ q : Nat, s.heap.size ≤ q → (fun q : Nat => s.heap.size ≤ q) q := fun _ h => h
  have hbA : ¬ (fun q : Nat => s.heap.size ≤ q) sb := Nat.not_le.mpr hbl
  have hb : c.code = cL_law := hb
  have hH := hH0.at hS
  have cL := c_L_pair l hfl D ct sa s.heap.size H.size b d g o f (xs (4 * n + 1)) (xs (4 * n + 2)) (xs (4 * n + 3)) hI
  have cM := c_X3_pair l D ct sa aa g rf (xs (4 * n + 1)) (xs (4 * n + 2)) (xs (4 * n + 3)) hI
  have hI2 := inv_pair hI (xs (4 * n + 1)) (xs (4 * n + 2)) (xs (4 * n + 3))
  generalize hz9 : opPair g (xs (4 * n + 1)) (xs (4 * n + 2)) (xs (4 * n + 3)) = z at cL cM hI2
  refine lv_aload_n hx hb dL_law_631 rfl (lv_at hl 1 rfl) ?_
  refine lv_aload_n hx hb dL_law_632 rfl (lv_at hl 0 rfl) ?_
  refine lv_iload hx hb dL_law_633 (lv_at hl 4 rfl) ?_
  refine lv_iconst (v := nI 1) hx hb dL_law_635 (by decide) ?_
  refine hk_addN hx hb dL_law_636 ?_
  refine hk_sld hx hb hX hbl hbA hS (j := (4 * n) + 1) (by omega) hL dL_law_637 ?_
  refine lv_aload_n hx hb dL_law_638 rfl (lv_at hl 0 rfl) ?_
  refine lv_iload hx hb dL_law_639 (lv_at hl 4 rfl) ?_
  refine lv_iconst (v := nI 2) hx hb dL_law_641 (by decide) ?_
  refine hk_addN hx hb dL_law_642 ?_
  refine hk_sld hx hb hX hbl hbA hS (j := (4 * n) + 2) (by omega) hL dL_law_643 ?_
  refine lv_aload_n hx hb dL_law_644 rfl (lv_at hl 0 rfl) ?_
  refine lv_iload hx hb dL_law_645 (lv_at hl 4 rfl) ?_
  refine lv_iconst (v := nI 3) hx hb dL_law_647 (by decide) ?_
  refine hk_addN hx hb dL_law_648 ?_
  refine hk_sld hx hb hX hbl hbA hS (j := (4 * n) + 3) (by omega) hL dL_law_649 ?_
  refine lv_aload_n hx hb dL_law_650 rfl (lv_at hl 3 rfl) ?_
  refine hk_LL (wr := mdW ct aa g rf) (rest := []) (vx_runSW (As := [.ref (b 0), .int (xs ((4 * n) + 1)), .int (xs ((4 * n) + 2)), .int (xs ((4 * n) + 3)), .ref o]) (rest := []) ⟨hx, hb, hml, hown, hts⟩ cL (vx_cwSW 5 hts gL_law_L_pair rfl rfl rfl (by decide +kernel) ⟨Nat.le_of_ble_eq_true rfl, Nat.le_of_ble_eq_true rfl⟩) (hk_prxS hE hH ⟨rfl, hP.right (w1 := mdW ct aa g rf), hD.right (w1 := mdW ct aa g rf)⟩) rfl rfl hl.1 rfl (lv_room (Nat.le_of_ble_eq_true rfl)) dL_law_651 ⟨by show _ ≤ 601024; omega, by show _ ≤ 7293034; omega⟩) rfl hP hD hS hA (fun d9 f9 H locs hf9 hP hD hS => ?_)
  have hP : va_P D vwCl (((aa 0), .inr (3, [.int rf, .int (nI (gN g)), .ref (aa 1), .ref (aa 2), .ref (aa 3), .ref (aa 4), .ref (aa 5), .ref (aa 6), .ref (aa 7), .ref (aa 8), .ref (aa 9), .int (nI (gd g)), .ref (aa 10), .int (nI (gc g)), .ref (aa 11), .ref (aa 12), .ref (aa 13)])) :: ((aa 1), .inl (ct 0, 60, .inl (mK g))) :: ((aa 2), .inl (ct 0, 60, .inl (mL g))) :: ((aa 3), .inl (ct 0, 5, .inl (mY g))) :: ((aa 4), .inl (ct 0, 60, .inl (mS g))) :: ((aa 5), .inl (ct 0, 720, .inl (mP g))) :: ((aa 6), .inl (ct 0, 5, .inl (mC g))) :: ((aa 7), .inl (ct 0, 5, .inl (mLa g))) :: ((aa 8), .inl (ct 0, 5, .inl (mQ g))) :: ((aa 9), .inl (ct 0, 150, .inl (mT g))) :: ((aa 10), .inl (ct 0, 24, .inl (mD g))) :: ((aa 11), .inl (ct 0, 6, .inl (mW g))) :: ((aa 12), .inl (ct 0, 30, .inl (mX g))) :: ((aa 13), .inl (ct 0, 30, .inl (mZ g))) :: hkLW ct b d9 z.2.2 o f9) H := hP
  have hD : va_D (fun q : Nat => s.heap.size ≤ q) (((aa 0), .inr (3, [.int rf, .int (nI (gN g)), .ref (aa 1), .ref (aa 2), .ref (aa 3), .ref (aa 4), .ref (aa 5), .ref (aa 6), .ref (aa 7), .ref (aa 8), .ref (aa 9), .int (nI (gd g)), .ref (aa 10), .int (nI (gc g)), .ref (aa 11), .ref (aa 12), .ref (aa 13)])) :: ((aa 1), .inl (ct 0, 60, .inl (mK g))) :: ((aa 2), .inl (ct 0, 60, .inl (mL g))) :: ((aa 3), .inl (ct 0, 5, .inl (mY g))) :: ((aa 4), .inl (ct 0, 60, .inl (mS g))) :: ((aa 5), .inl (ct 0, 720, .inl (mP g))) :: ((aa 6), .inl (ct 0, 5, .inl (mC g))) :: ((aa 7), .inl (ct 0, 5, .inl (mLa g))) :: ((aa 8), .inl (ct 0, 5, .inl (mQ g))) :: ((aa 9), .inl (ct 0, 150, .inl (mT g))) :: ((aa 10), .inl (ct 0, 24, .inl (mD g))) :: ((aa 11), .inl (ct 0, 6, .inl (mW g))) :: ((aa 12), .inl (ct 0, 30, .inl (mX g))) :: ((aa 13), .inl (ct 0, 30, .inl (mZ g))) :: hkLW ct b d9 z.2.2 o f9) := hD
  refine lv_istore (lv' := [(5, .int z.1), (0, .ref sb), (1, .ref (b 0)), (2, .ref (aa 0)), (3, .ref o), (4, .int (nI (4 * n)))]) hx hb dL_law_654 hl (by decide) rfl (fun ls hl => ?_)
  refine lv_aload_n hx hb dL_law_656 rfl (lv_at hl 3 rfl) ?_
  refine lv_aload_n hx hb dL_law_657 rfl (lv_at hl 1 rfl) ?_
  refine lv_iload hx hb dL_law_658 (lv_at hl 5 rfl) ?_
  refine lv_iconst (v := nI 1) hx hb dL_law_660 (by decide) ?_
  refine hk_addN hx hb dL_law_661 ?_
  refine hk_sld hx hb hX hbl hbA hS (j := (4 * n) + 1) (by omega) hL dL_law_662 ?_
  refine lv_aload_n hx hb dL_law_663 rfl (lv_at hl 1 rfl) ?_
  refine lv_iload hx hb dL_law_664 (lv_at hl 5 rfl) ?_
  refine lv_iconst (v := nI 2) hx hb dL_law_666 (by decide) ?_
  refine hk_addN hx hb dL_law_667 ?_
  refine hk_sld hx hb hX hbl hbA hS (j := (4 * n) + 2) (by omega) hL dL_law_668 ?_
  refine lv_aload_n hx hb dL_law_669 rfl (lv_at hl 1 rfl) ?_
  refine lv_iload hx hb dL_law_670 (lv_at hl 5 rfl) ?_
  refine lv_iconst (v := nI 3) hx hb dL_law_672 (by decide) ?_
  refine hk_addN hx hb dL_law_673 ?_
  refine hk_sld hx hb hX hbl hbA hS (j := (4 * n) + 3) (by omega) hL dL_law_674 ?_
  have hPm := hP.sub (ws' := [((aa 0), .inr (3, [.int rf, .int (nI (gN g)), .ref (aa 1), .ref (aa 2), .ref (aa 3), .ref (aa 4), .ref (aa 5), .ref (aa 6), .ref (aa 7), .ref (aa 8), .ref (aa 9), .int (nI (gd g)), .ref (aa 10), .int (nI (gc g)), .ref (aa 11), .ref (aa 12), .ref (aa 13)])), ((aa 1), .inl (ct 0, 60, .inl (mK g))), ((aa 2), .inl (ct 0, 60, .inl (mL g))), ((aa 3), .inl (ct 0, 5, .inl (mY g))), ((aa 4), .inl (ct 0, 60, .inl (mS g))), ((aa 5), .inl (ct 0, 720, .inl (mP g))), ((aa 6), .inl (ct 0, 5, .inl (mC g))), ((aa 7), .inl (ct 0, 5, .inl (mLa g))), ((aa 8), .inl (ct 0, 5, .inl (mQ g))), ((aa 9), .inl (ct 0, 150, .inl (mT g))), ((aa 10), .inl (ct 0, 24, .inl (mD g))), ((aa 11), .inl (ct 0, 6, .inl (mW g))), ((aa 12), .inl (ct 0, 30, .inl (mX g))), ((aa 13), .inl (ct 0, 30, .inl (mZ g)))]) [0, 1, 2, 3, 4, 5, 6, 7, 8, 9, 10, 11, 12, 13] rfl
  have hDm := hD.sub (ws' := [((aa 0), .inr (3, [.int rf, .int (nI (gN g)), .ref (aa 1), .ref (aa 2), .ref (aa 3), .ref (aa 4), .ref (aa 5), .ref (aa 6), .ref (aa 7), .ref (aa 8), .ref (aa 9), .int (nI (gd g)), .ref (aa 10), .int (nI (gc g)), .ref (aa 11), .ref (aa 12), .ref (aa 13)])), ((aa 1), .inl (ct 0, 60, .inl (mK g))), ((aa 2), .inl (ct 0, 60, .inl (mL g))), ((aa 3), .inl (ct 0, 5, .inl (mY g))), ((aa 4), .inl (ct 0, 60, .inl (mS g))), ((aa 5), .inl (ct 0, 720, .inl (mP g))), ((aa 6), .inl (ct 0, 5, .inl (mC g))), ((aa 7), .inl (ct 0, 5, .inl (mLa g))), ((aa 8), .inl (ct 0, 5, .inl (mQ g))), ((aa 9), .inl (ct 0, 150, .inl (mT g))), ((aa 10), .inl (ct 0, 24, .inl (mD g))), ((aa 11), .inl (ct 0, 6, .inl (mW g))), ((aa 12), .inl (ct 0, 30, .inl (mX g))), ((aa 13), .inl (ct 0, 30, .inl (mZ g)))]) [0, 1, 2, 3, 4, 5, 6, 7, 8, 9, 10, 11, 12, 13] (by decide) rfl
  refine hk_M (w1 := mdW ct aa z.2.2 z.1) (rest := []) (va_Run.run (va_runV (As := [.int (xs ((4 * n) + 1)), .int (xs ((4 * n) + 2)), .int (xs ((4 * n) + 3))]) (rest := []) ⟨hx, hb, hml, hown, hts⟩ cM (cwV 3 hts gL_law_X3_pair rfl rfl rfl (by decide +kernel) ⟨Nat.le_of_ble_eq_true rfl, Nat.le_of_ble_eq_true rfl⟩) (hk_preV hE (va_recv hE.1 hP (ci := 3) (q0 := 0) rfl rfl) ⟨hPm, hDm.weaken (fun _ _ _ _ => trivial)⟩) rfl rfl hl.1 rfl (lv_room (Nat.le_of_ble_eq_true rfl)) dL_law_675 ⟨by show _ ≤ 601024; omega, by show _ ≤ 7293034; omega⟩)) hP hD hS [0, 1, 2, 3, 4, 5, 6, 7, 8, 9, 10, 11, 12, 13] (wc := [((aa 0), .inr (3, [.int rf, .int (nI (gN g)), .ref (aa 1), .ref (aa 2), .ref (aa 3), .ref (aa 4), .ref (aa 5), .ref (aa 6), .ref (aa 7), .ref (aa 8), .ref (aa 9), .int (nI (gd g)), .ref (aa 10), .int (nI (gc g)), .ref (aa 11), .ref (aa 12), .ref (aa 13)])), ((aa 1), .inl (ct 0, 60, .inl (mK g))), ((aa 2), .inl (ct 0, 60, .inl (mL g))), ((aa 3), .inl (ct 0, 5, .inl (mY g))), ((aa 4), .inl (ct 0, 60, .inl (mS g))), ((aa 5), .inl (ct 0, 720, .inl (mP g))), ((aa 6), .inl (ct 0, 5, .inl (mC g))), ((aa 7), .inl (ct 0, 5, .inl (mLa g))), ((aa 8), .inl (ct 0, 5, .inl (mQ g))), ((aa 9), .inl (ct 0, 150, .inl (mT g))), ((aa 10), .inl (ct 0, 24, .inl (mD g))), ((aa 11), .inl (ct 0, 6, .inl (mW g))), ((aa 12), .inl (ct 0, 30, .inl (mX g))), ((aa 13), .inl (ct 0, 30, .inl (mZ g)))]) rfl rfl rfl (fun H locs hP hD hS => ?_)
  have hP : va_P D vwCl (((aa 0), .inr (3, [.int z.1, .int (nI (gN z.2.2)), .ref (aa 1), .ref (aa 2), .ref (aa 3), .ref (aa 4), .ref (aa 5), .ref (aa 6), .ref (aa 7), .ref (aa 8), .ref (aa 9), .int (nI (gd z.2.2)), .ref (aa 10), .int (nI (gc z.2.2)), .ref (aa 11), .ref (aa 12), .ref (aa 13)])) :: ((aa 1), .inl (ct 0, 60, .inl (mK z.2.2))) :: ((aa 2), .inl (ct 0, 60, .inl (mL z.2.2))) :: ((aa 3), .inl (ct 0, 5, .inl (mY z.2.2))) :: ((aa 4), .inl (ct 0, 60, .inl (mS z.2.2))) :: ((aa 5), .inl (ct 0, 720, .inl (mP z.2.2))) :: ((aa 6), .inl (ct 0, 5, .inl (mC z.2.2))) :: ((aa 7), .inl (ct 0, 5, .inl (mLa z.2.2))) :: ((aa 8), .inl (ct 0, 5, .inl (mQ z.2.2))) :: ((aa 9), .inl (ct 0, 150, .inl (mT z.2.2))) :: ((aa 10), .inl (ct 0, 24, .inl (mD z.2.2))) :: ((aa 11), .inl (ct 0, 6, .inl (mW z.2.2))) :: ((aa 12), .inl (ct 0, 30, .inl (mX z.2.2))) :: ((aa 13), .inl (ct 0, 30, .inl (mZ z.2.2))) :: hkLW ct b d9 z.2.2 o f9) H := hP
  have hD : va_D (fun q : Nat => s.heap.size ≤ q) (((aa 0), .inr (3, [.int z.1, .int (nI (gN z.2.2)), .ref (aa 1), .ref (aa 2), .ref (aa 3), .ref (aa 4), .ref (aa 5), .ref (aa 6), .ref (aa 7), .ref (aa 8), .ref (aa 9), .int (nI (gd z.2.2)), .ref (aa 10), .int (nI (gc z.2.2)), .ref (aa 11), .ref (aa 12), .ref (aa 13)])) :: ((aa 1), .inl (ct 0, 60, .inl (mK z.2.2))) :: ((aa 2), .inl (ct 0, 60, .inl (mL z.2.2))) :: ((aa 3), .inl (ct 0, 5, .inl (mY z.2.2))) :: ((aa 4), .inl (ct 0, 60, .inl (mS z.2.2))) :: ((aa 5), .inl (ct 0, 720, .inl (mP z.2.2))) :: ((aa 6), .inl (ct 0, 5, .inl (mC z.2.2))) :: ((aa 7), .inl (ct 0, 5, .inl (mLa z.2.2))) :: ((aa 8), .inl (ct 0, 5, .inl (mQ z.2.2))) :: ((aa 9), .inl (ct 0, 150, .inl (mT z.2.2))) :: ((aa 10), .inl (ct 0, 24, .inl (mD z.2.2))) :: ((aa 11), .inl (ct 0, 6, .inl (mW z.2.2))) :: ((aa 12), .inl (ct 0, 30, .inl (mX z.2.2))) :: ((aa 13), .inl (ct 0, 30, .inl (mZ z.2.2))) :: hkLW ct b d9 z.2.2 o f9) := hD
  refine lv_istore (lv' := [(6, .int z.2.1), (5, .int z.1), (0, .ref sb), (1, .ref (b 0)), (2, .ref (aa 0)), (3, .ref o), (4, .int (nI (4 * n)))]) hx hb dL_law_678 hl (by decide) rfl (fun ls hl => ?_)
  refine lv_aload_n hx hb dL_law_680 rfl (lv_at hl 4 rfl) ?_
  refine hk_R (rest := []) (va_Run.run (va_runV (As := []) (rest := []) ⟨hx, hb, hml, hown, hts⟩ (c_X3_thrown l D ct sa aa z.2.2 z.1) (cwV 0 hts gL_law_X3_thrown rfl rfl rfl (by decide +kernel) ⟨Nat.le_of_ble_eq_true rfl, Nat.le_of_ble_eq_true rfl⟩) (hk_preV hE (va_recv hE.1 hP (ci := 3) (q0 := 0) rfl rfl) (hP.sub (ws' := [((aa 0), .inr (3, [.int z.1, .int (nI (gN z.2.2)), .ref (aa 1), .ref (aa 2), .ref (aa 3), .ref (aa 4), .ref (aa 5), .ref (aa 6), .ref (aa 7), .ref (aa 8), .ref (aa 9), .int (nI (gd z.2.2)), .ref (aa 10), .int (nI (gc z.2.2)), .ref (aa 11), .ref (aa 12), .ref (aa 13)]))]) [0] rfl)) rfl rfl hl.1 rfl (lv_room (Nat.le_of_ble_eq_true rfl)) dL_law_681 ⟨by show _ ≤ 601024; omega, by show _ ≤ 7293034; omega⟩)) ?_
  refine lv_iload hx hb dL_law_684 (lv_at hl 1 rfl) ?_
  refine lv_icmp_eq (tgt := 691) hx hb dL_law_686 (by decide) (fun hq => ?_) (fun hq => ?_)
  · refine lv_iload hx hb dL_law_691 (lv_at hl 1 rfl) ?_
    refine lv_if_ne (tgt := 708) hx hb dL_law_693 (by decide) (fun hq0 => ?_) (fun hq0 => ?_)
    · refine lv_goto (tgt := 1492) hx hb dL_law_708 (by decide) ?_
      refine W.widen (k := cl + 6) (n := sl + 218) (by omega) (by omega) ?_
      exact kk d9 z.2.2 f9 z.1 _ _ ls hI2 hP hD hS (lv_sub hl [2, 3, 4, 5, 6] rfl)
    · have hv9 := hf9 hq0
      refine lv_aload_n hx hb dL_law_696 rfl (lv_at hl 5 rfl) ?_
      refine lv_iconst (v := nI 0) hx hb dL_law_697 (by decide) ?_
      refine hk_lld hx hb hE hP 14 rfl (j := 0) (by decide) (by decide) dL_law_698 ?_
      rw [hv9]
      refine lv_iload hx hb dL_law_699 (lv_at hl 0 rfl) ?_
      refine lv_i2l hx hb dL_law_701 rfl ?_
      refine hk_lcmpE hx hb dL_law_702 ?_
      refine lv_if_eq (tgt := 708) hx hb dL_law_703 (by decide) (fun hq7 => ?_) (fun hq7 => ?_)
      · refine lv_goto (tgt := 1492) hx hb dL_law_708 (by decide) ?_
        refine W.widen (k := cl + 6) (n := sl + 218) (by omega) (by omega) ?_
        exact kk d9 z.2.2 f9 z.1 _ _ ls hI2 hP hD hS (lv_sub hl [2, 3, 4, 5, 6] rfl)
      · exact absurd rfl hq7
  · exact absurd rfl hq

set_option maxHeartbeats 4000000 in
set_option maxRecDepth 100000 in
theorem lw_k_pressed {p : Program} {e : Env} {s : State} {m : MethodId} {below : List Frame} {meth : Method} {c : Code} (l : Launch) (hfl : l.flags = flags0) {D : va_G} {ct : Nat → ClassId} {sa : Nat → Nat} {sb L : Nat} {xs : Nat → Int32} {b aa : Nat → Nat} {o : Nat} (hL : L ≤ 2048) (C0 : lw_At p s m meth c sb L xs) (hE : hkE D ct sa s) (hH0 : hkH s.heap.size s s.heap) {n cl sl : Nat} (hn : 4 * n + 4 ≤ L) (hcl : cl + 6 ≤ 601024) (hsl : sl + 218 ≤ 7293034) {g : Sg} {d : Ad} {f : Nat → Int64} {rf : Int32} {H : Heap} {locs : List Loc} {ls : Array Slot} (hI : Inv g) (hP : va_P D vwCl (mdW ct aa g rf ++ hkLW ct b d g o f) H) (hD : va_D (fun q : Nat => s.heap.size ≤ q) (mdW ct aa g rf ++ hkLW ct b d g o f)) (hS : va_S (fun q : Nat => s.heap.size ≤ q) s.heap H locs) (hl : lv_has ls 7 [(0, .ref sb), (1, .ref (b 0)), (2, .ref (aa 0)), (3, .ref o), (4, .int (nI (4 * n)))]) (kk : ∀ (d' : Ad) (g' : Sg) (f' : Nat → Int64) (rf' : Int32) (H1 : Heap) (locs1 : List Loc) (ls1 : Array Slot), Inv g' → va_P D vwCl (mdW ct aa g' rf' ++ hkLW ct b d' g' o f') H1 → va_D (fun q : Nat => s.heap.size ≤ q) (mdW ct aa g' rf' ++ hkLW ct b d' g' o f') → va_S (fun q : Nat => s.heap.size ≤ q) s.heap H1 locs1 → lv_has ls1 7 [(0, .ref sb), (1, .ref (b 0)), (2, .ref (aa 0)), (3, .ref o), (4, .int (nI (4 * n)))] → W p l e room_1 s m #[Value.ref sb] below meth c H1 locs1 (cl + 6) (sl + 218) (lw_Z below #[Value.ref sb] s) (F0 m 1492 ls1 [])) : W p l e room_1 s m #[Value.ref sb] below meth c H locs cl sl (lw_Z below #[Value.ref sb] s) (F0 m 711 ls []) := by
  obtain ⟨hx, hb, hr, hml, hown, hts, hX, hbl, hlocks, hgv⟩ := C0
  have hts : ∀ w ∈ wsL_law, w.before #[Value.ref sb] s = true := fun w h => hts w (wsL_law_in w h)
  have hA : ∀ q : Nat, s.heap.size ≤ q → (fun q : Nat => s.heap.size ≤ q) q := fun _ h => h
  have hbA : ¬ (fun q : Nat => s.heap.size ≤ q) sb := Nat.not_le.mpr hbl
  have hb : c.code = cL_law := hb
  have hH := hH0.at hS
  have cL := c_L_pressed l hfl D ct sa s.heap.size H.size b d g o f (xs (4 * n + 1)) hI
  have cM := c_X3_pressed l D ct sa aa g rf (xs (4 * n + 1)) hI
  have hI2 := inv_pressed hI (xs (4 * n + 1))
  generalize hz9 : opPressed g (xs (4 * n + 1)) = z at cL cM hI2
  refine lv_aload_n hx hb dL_law_711 rfl (lv_at hl 1 rfl) ?_
  refine lv_aload_n hx hb dL_law_712 rfl (lv_at hl 0 rfl) ?_
  refine lv_iload hx hb dL_law_713 (lv_at hl 4 rfl) ?_
  refine lv_iconst (v := nI 1) hx hb dL_law_715 (by decide) ?_
  refine hk_addN hx hb dL_law_716 ?_
  refine hk_sld hx hb hX hbl hbA hS (j := (4 * n) + 1) (by omega) hL dL_law_717 ?_
  refine lv_aload_n hx hb dL_law_718 rfl (lv_at hl 3 rfl) ?_
  refine hk_LL (wr := mdW ct aa g rf) (rest := []) (vx_runSW (As := [.ref (b 0), .int (xs ((4 * n) + 1)), .ref o]) (rest := []) ⟨hx, hb, hml, hown, hts⟩ cL (vx_cwSW 3 hts gL_law_L_pressed rfl rfl rfl (by decide +kernel) ⟨Nat.le_of_ble_eq_true rfl, Nat.le_of_ble_eq_true rfl⟩) (hk_prxS hE hH ⟨rfl, hP.right (w1 := mdW ct aa g rf), hD.right (w1 := mdW ct aa g rf)⟩) rfl rfl hl.1 rfl (lv_room (Nat.le_of_ble_eq_true rfl)) dL_law_719 ⟨by show _ ≤ 601024; omega, by show _ ≤ 7293034; omega⟩) rfl hP hD hS hA (fun d9 f9 H locs hf9 hP hD hS => ?_)
  have hP : va_P D vwCl (((aa 0), .inr (3, [.int rf, .int (nI (gN g)), .ref (aa 1), .ref (aa 2), .ref (aa 3), .ref (aa 4), .ref (aa 5), .ref (aa 6), .ref (aa 7), .ref (aa 8), .ref (aa 9), .int (nI (gd g)), .ref (aa 10), .int (nI (gc g)), .ref (aa 11), .ref (aa 12), .ref (aa 13)])) :: ((aa 1), .inl (ct 0, 60, .inl (mK g))) :: ((aa 2), .inl (ct 0, 60, .inl (mL g))) :: ((aa 3), .inl (ct 0, 5, .inl (mY g))) :: ((aa 4), .inl (ct 0, 60, .inl (mS g))) :: ((aa 5), .inl (ct 0, 720, .inl (mP g))) :: ((aa 6), .inl (ct 0, 5, .inl (mC g))) :: ((aa 7), .inl (ct 0, 5, .inl (mLa g))) :: ((aa 8), .inl (ct 0, 5, .inl (mQ g))) :: ((aa 9), .inl (ct 0, 150, .inl (mT g))) :: ((aa 10), .inl (ct 0, 24, .inl (mD g))) :: ((aa 11), .inl (ct 0, 6, .inl (mW g))) :: ((aa 12), .inl (ct 0, 30, .inl (mX g))) :: ((aa 13), .inl (ct 0, 30, .inl (mZ g))) :: hkLW ct b d9 z.2.2 o f9) H := hP
  have hD : va_D (fun q : Nat => s.heap.size ≤ q) (((aa 0), .inr (3, [.int rf, .int (nI (gN g)), .ref (aa 1), .ref (aa 2), .ref (aa 3), .ref (aa 4), .ref (aa 5), .ref (aa 6), .ref (aa 7), .ref (aa 8), .ref (aa 9), .int (nI (gd g)), .ref (aa 10), .int (nI (gc g)), .ref (aa 11), .ref (aa 12), .ref (aa 13)])) :: ((aa 1), .inl (ct 0, 60, .inl (mK g))) :: ((aa 2), .inl (ct 0, 60, .inl (mL g))) :: ((aa 3), .inl (ct 0, 5, .inl (mY g))) :: ((aa 4), .inl (ct 0, 60, .inl (mS g))) :: ((aa 5), .inl (ct 0, 720, .inl (mP g))) :: ((aa 6), .inl (ct 0, 5, .inl (mC g))) :: ((aa 7), .inl (ct 0, 5, .inl (mLa g))) :: ((aa 8), .inl (ct 0, 5, .inl (mQ g))) :: ((aa 9), .inl (ct 0, 150, .inl (mT g))) :: ((aa 10), .inl (ct 0, 24, .inl (mD g))) :: ((aa 11), .inl (ct 0, 6, .inl (mW g))) :: ((aa 12), .inl (ct 0, 30, .inl (mX g))) :: ((aa 13), .inl (ct 0, 30, .inl (mZ g))) :: hkLW ct b d9 z.2.2 o f9) := hD
  refine lv_istore (lv' := [(5, .int z.1), (0, .ref sb), (1, .ref (b 0)), (2, .ref (aa 0)), (3, .ref o), (4, .int (nI (4 * n)))]) hx hb dL_law_722 hl (by decide) rfl (fun ls hl => ?_)
  refine lv_aload_n hx hb dL_law_724 rfl (lv_at hl 3 rfl) ?_
  refine lv_aload_n hx hb dL_law_725 rfl (lv_at hl 1 rfl) ?_
  refine lv_iload hx hb dL_law_726 (lv_at hl 5 rfl) ?_
  refine lv_iconst (v := nI 1) hx hb dL_law_728 (by decide) ?_
  refine hk_addN hx hb dL_law_729 ?_
  refine hk_sld hx hb hX hbl hbA hS (j := (4 * n) + 1) (by omega) hL dL_law_730 ?_
  have hPm := hP.sub (ws' := [((aa 0), .inr (3, [.int rf, .int (nI (gN g)), .ref (aa 1), .ref (aa 2), .ref (aa 3), .ref (aa 4), .ref (aa 5), .ref (aa 6), .ref (aa 7), .ref (aa 8), .ref (aa 9), .int (nI (gd g)), .ref (aa 10), .int (nI (gc g)), .ref (aa 11), .ref (aa 12), .ref (aa 13)])), ((aa 1), .inl (ct 0, 60, .inl (mK g))), ((aa 2), .inl (ct 0, 60, .inl (mL g))), ((aa 3), .inl (ct 0, 5, .inl (mY g))), ((aa 4), .inl (ct 0, 60, .inl (mS g))), ((aa 5), .inl (ct 0, 720, .inl (mP g))), ((aa 6), .inl (ct 0, 5, .inl (mC g))), ((aa 7), .inl (ct 0, 5, .inl (mLa g))), ((aa 8), .inl (ct 0, 5, .inl (mQ g))), ((aa 9), .inl (ct 0, 150, .inl (mT g))), ((aa 10), .inl (ct 0, 24, .inl (mD g))), ((aa 11), .inl (ct 0, 6, .inl (mW g))), ((aa 12), .inl (ct 0, 30, .inl (mX g))), ((aa 13), .inl (ct 0, 30, .inl (mZ g)))]) [0, 1, 2, 3, 4, 5, 6, 7, 8, 9, 10, 11, 12, 13] rfl
  have hDm := hD.sub (ws' := [((aa 0), .inr (3, [.int rf, .int (nI (gN g)), .ref (aa 1), .ref (aa 2), .ref (aa 3), .ref (aa 4), .ref (aa 5), .ref (aa 6), .ref (aa 7), .ref (aa 8), .ref (aa 9), .int (nI (gd g)), .ref (aa 10), .int (nI (gc g)), .ref (aa 11), .ref (aa 12), .ref (aa 13)])), ((aa 1), .inl (ct 0, 60, .inl (mK g))), ((aa 2), .inl (ct 0, 60, .inl (mL g))), ((aa 3), .inl (ct 0, 5, .inl (mY g))), ((aa 4), .inl (ct 0, 60, .inl (mS g))), ((aa 5), .inl (ct 0, 720, .inl (mP g))), ((aa 6), .inl (ct 0, 5, .inl (mC g))), ((aa 7), .inl (ct 0, 5, .inl (mLa g))), ((aa 8), .inl (ct 0, 5, .inl (mQ g))), ((aa 9), .inl (ct 0, 150, .inl (mT g))), ((aa 10), .inl (ct 0, 24, .inl (mD g))), ((aa 11), .inl (ct 0, 6, .inl (mW g))), ((aa 12), .inl (ct 0, 30, .inl (mX g))), ((aa 13), .inl (ct 0, 30, .inl (mZ g)))]) [0, 1, 2, 3, 4, 5, 6, 7, 8, 9, 10, 11, 12, 13] (by decide) rfl
  refine hk_M (w1 := mdW ct aa z.2.2 z.1) (rest := []) (va_Run.run (va_runV (As := [.int (xs ((4 * n) + 1))]) (rest := []) ⟨hx, hb, hml, hown, hts⟩ cM (cwV 1 hts gL_law_X3_pressed rfl rfl rfl (by decide +kernel) ⟨Nat.le_of_ble_eq_true rfl, Nat.le_of_ble_eq_true rfl⟩) (hk_preV hE (va_recv hE.1 hP (ci := 3) (q0 := 0) rfl rfl) ⟨hPm, hDm.weaken (fun _ _ _ _ => trivial)⟩) rfl rfl hl.1 rfl (lv_room (Nat.le_of_ble_eq_true rfl)) dL_law_731 ⟨by show _ ≤ 601024; omega, by show _ ≤ 7293034; omega⟩)) hP hD hS [0, 1, 2, 3, 4, 5, 6, 7, 8, 9, 10, 11, 12, 13] (wc := [((aa 0), .inr (3, [.int rf, .int (nI (gN g)), .ref (aa 1), .ref (aa 2), .ref (aa 3), .ref (aa 4), .ref (aa 5), .ref (aa 6), .ref (aa 7), .ref (aa 8), .ref (aa 9), .int (nI (gd g)), .ref (aa 10), .int (nI (gc g)), .ref (aa 11), .ref (aa 12), .ref (aa 13)])), ((aa 1), .inl (ct 0, 60, .inl (mK g))), ((aa 2), .inl (ct 0, 60, .inl (mL g))), ((aa 3), .inl (ct 0, 5, .inl (mY g))), ((aa 4), .inl (ct 0, 60, .inl (mS g))), ((aa 5), .inl (ct 0, 720, .inl (mP g))), ((aa 6), .inl (ct 0, 5, .inl (mC g))), ((aa 7), .inl (ct 0, 5, .inl (mLa g))), ((aa 8), .inl (ct 0, 5, .inl (mQ g))), ((aa 9), .inl (ct 0, 150, .inl (mT g))), ((aa 10), .inl (ct 0, 24, .inl (mD g))), ((aa 11), .inl (ct 0, 6, .inl (mW g))), ((aa 12), .inl (ct 0, 30, .inl (mX g))), ((aa 13), .inl (ct 0, 30, .inl (mZ g)))]) rfl rfl rfl (fun H locs hP hD hS => ?_)
  have hP : va_P D vwCl (((aa 0), .inr (3, [.int z.1, .int (nI (gN z.2.2)), .ref (aa 1), .ref (aa 2), .ref (aa 3), .ref (aa 4), .ref (aa 5), .ref (aa 6), .ref (aa 7), .ref (aa 8), .ref (aa 9), .int (nI (gd z.2.2)), .ref (aa 10), .int (nI (gc z.2.2)), .ref (aa 11), .ref (aa 12), .ref (aa 13)])) :: ((aa 1), .inl (ct 0, 60, .inl (mK z.2.2))) :: ((aa 2), .inl (ct 0, 60, .inl (mL z.2.2))) :: ((aa 3), .inl (ct 0, 5, .inl (mY z.2.2))) :: ((aa 4), .inl (ct 0, 60, .inl (mS z.2.2))) :: ((aa 5), .inl (ct 0, 720, .inl (mP z.2.2))) :: ((aa 6), .inl (ct 0, 5, .inl (mC z.2.2))) :: ((aa 7), .inl (ct 0, 5, .inl (mLa z.2.2))) :: ((aa 8), .inl (ct 0, 5, .inl (mQ z.2.2))) :: ((aa 9), .inl (ct 0, 150, .inl (mT z.2.2))) :: ((aa 10), .inl (ct 0, 24, .inl (mD z.2.2))) :: ((aa 11), .inl (ct 0, 6, .inl (mW z.2.2))) :: ((aa 12), .inl (ct 0, 30, .inl (mX z.2.2))) :: ((aa 13), .inl (ct 0, 30, .inl (mZ z.2.2))) :: hkLW ct b d9 z.2.2 o f9) H := hP
  have hD : va_D (fun q : Nat => s.heap.size ≤ q) (((aa 0), .inr (3, [.int z.1, .int (nI (gN z.2.2)), .ref (aa 1), .ref (aa 2), .ref (aa 3), .ref (aa 4), .ref (aa 5), .ref (aa 6), .ref (aa 7), .ref (aa 8), .ref (aa 9), .int (nI (gd z.2.2)), .ref (aa 10), .int (nI (gc z.2.2)), .ref (aa 11), .ref (aa 12), .ref (aa 13)])) :: ((aa 1), .inl (ct 0, 60, .inl (mK z.2.2))) :: ((aa 2), .inl (ct 0, 60, .inl (mL z.2.2))) :: ((aa 3), .inl (ct 0, 5, .inl (mY z.2.2))) :: ((aa 4), .inl (ct 0, 60, .inl (mS z.2.2))) :: ((aa 5), .inl (ct 0, 720, .inl (mP z.2.2))) :: ((aa 6), .inl (ct 0, 5, .inl (mC z.2.2))) :: ((aa 7), .inl (ct 0, 5, .inl (mLa z.2.2))) :: ((aa 8), .inl (ct 0, 5, .inl (mQ z.2.2))) :: ((aa 9), .inl (ct 0, 150, .inl (mT z.2.2))) :: ((aa 10), .inl (ct 0, 24, .inl (mD z.2.2))) :: ((aa 11), .inl (ct 0, 6, .inl (mW z.2.2))) :: ((aa 12), .inl (ct 0, 30, .inl (mX z.2.2))) :: ((aa 13), .inl (ct 0, 30, .inl (mZ z.2.2))) :: hkLW ct b d9 z.2.2 o f9) := hD
  refine lv_istore (lv' := [(6, .int z.2.1), (5, .int z.1), (0, .ref sb), (1, .ref (b 0)), (2, .ref (aa 0)), (3, .ref o), (4, .int (nI (4 * n)))]) hx hb dL_law_734 hl (by decide) rfl (fun ls hl => ?_)
  refine lv_aload_n hx hb dL_law_736 rfl (lv_at hl 4 rfl) ?_
  refine hk_R (rest := []) (va_Run.run (va_runV (As := []) (rest := []) ⟨hx, hb, hml, hown, hts⟩ (c_X3_thrown l D ct sa aa z.2.2 z.1) (cwV 0 hts gL_law_X3_thrown rfl rfl rfl (by decide +kernel) ⟨Nat.le_of_ble_eq_true rfl, Nat.le_of_ble_eq_true rfl⟩) (hk_preV hE (va_recv hE.1 hP (ci := 3) (q0 := 0) rfl rfl) (hP.sub (ws' := [((aa 0), .inr (3, [.int z.1, .int (nI (gN z.2.2)), .ref (aa 1), .ref (aa 2), .ref (aa 3), .ref (aa 4), .ref (aa 5), .ref (aa 6), .ref (aa 7), .ref (aa 8), .ref (aa 9), .int (nI (gd z.2.2)), .ref (aa 10), .int (nI (gc z.2.2)), .ref (aa 11), .ref (aa 12), .ref (aa 13)]))]) [0] rfl)) rfl rfl hl.1 rfl (lv_room (Nat.le_of_ble_eq_true rfl)) dL_law_737 ⟨by show _ ≤ 601024; omega, by show _ ≤ 7293034; omega⟩)) ?_
  refine lv_iload hx hb dL_law_740 (lv_at hl 1 rfl) ?_
  refine lv_icmp_eq (tgt := 747) hx hb dL_law_742 (by decide) (fun hq => ?_) (fun hq => ?_)
  · refine lv_iload hx hb dL_law_747 (lv_at hl 1 rfl) ?_
    refine lv_if_ne (tgt := 764) hx hb dL_law_749 (by decide) (fun hq0 => ?_) (fun hq0 => ?_)
    · refine lv_goto (tgt := 1492) hx hb dL_law_764 (by decide) ?_
      refine W.widen (k := cl + 6) (n := sl + 218) (by omega) (by omega) ?_
      exact kk d9 z.2.2 f9 z.1 _ _ ls hI2 hP hD hS (lv_sub hl [2, 3, 4, 5, 6] rfl)
    · have hv9 := hf9 hq0
      refine lv_aload_n hx hb dL_law_752 rfl (lv_at hl 5 rfl) ?_
      refine lv_iconst (v := nI 0) hx hb dL_law_753 (by decide) ?_
      refine hk_lld hx hb hE hP 14 rfl (j := 0) (by decide) (by decide) dL_law_754 ?_
      rw [hv9]
      refine lv_iload hx hb dL_law_755 (lv_at hl 0 rfl) ?_
      refine lv_i2l hx hb dL_law_757 rfl ?_
      refine hk_lcmpE hx hb dL_law_758 ?_
      refine lv_if_eq (tgt := 764) hx hb dL_law_759 (by decide) (fun hq7 => ?_) (fun hq7 => ?_)
      · refine lv_goto (tgt := 1492) hx hb dL_law_764 (by decide) ?_
        refine W.widen (k := cl + 6) (n := sl + 218) (by omega) (by omega) ?_
        exact kk d9 z.2.2 f9 z.1 _ _ ls hI2 hP hD hS (lv_sub hl [2, 3, 4, 5, 6] rfl)
      · exact absurd rfl hq7
  · exact absurd rfl hq

set_option maxHeartbeats 4000000 in
set_option maxRecDepth 100000 in
theorem lw_k_history {p : Program} {e : Env} {s : State} {m : MethodId} {below : List Frame} {meth : Method} {c : Code} (l : Launch) (hfl : l.flags = flags0) {D : va_G} {ct : Nat → ClassId} {sa : Nat → Nat} {sb L : Nat} {xs : Nat → Int32} {b aa : Nat → Nat} {o : Nat} (hL : L ≤ 2048) (C0 : lw_At p s m meth c sb L xs) (hE : hkE D ct sa s) (hH0 : hkH s.heap.size s s.heap) {n cl sl : Nat} (hn : 4 * n + 4 ≤ L) (hcl : cl + 6 ≤ 601024) (hsl : sl + 218 ≤ 7293034) {g : Sg} {d : Ad} {f : Nat → Int64} {rf : Int32} {H : Heap} {locs : List Loc} {ls : Array Slot} (hI : Inv g) (hP : va_P D vwCl (mdW ct aa g rf ++ hkLW ct b d g o f) H) (hD : va_D (fun q : Nat => s.heap.size ≤ q) (mdW ct aa g rf ++ hkLW ct b d g o f)) (hS : va_S (fun q : Nat => s.heap.size ≤ q) s.heap H locs) (hl : lv_has ls 7 [(0, .ref sb), (1, .ref (b 0)), (2, .ref (aa 0)), (3, .ref o), (4, .int (nI (4 * n)))]) (kk : ∀ (d' : Ad) (g' : Sg) (f' : Nat → Int64) (rf' : Int32) (H1 : Heap) (locs1 : List Loc) (ls1 : Array Slot), Inv g' → va_P D vwCl (mdW ct aa g' rf' ++ hkLW ct b d' g' o f') H1 → va_D (fun q : Nat => s.heap.size ≤ q) (mdW ct aa g' rf' ++ hkLW ct b d' g' o f') → va_S (fun q : Nat => s.heap.size ≤ q) s.heap H1 locs1 → lv_has ls1 7 [(0, .ref sb), (1, .ref (b 0)), (2, .ref (aa 0)), (3, .ref o), (4, .int (nI (4 * n)))] → W p l e room_1 s m #[Value.ref sb] below meth c H1 locs1 (cl + 6) (sl + 218) (lw_Z below #[Value.ref sb] s) (F0 m 1492 ls1 [])) : W p l e room_1 s m #[Value.ref sb] below meth c H locs cl sl (lw_Z below #[Value.ref sb] s) (F0 m 767 ls []) := by
  obtain ⟨hx, hb, hr, hml, hown, hts, hX, hbl, hlocks, hgv⟩ := C0
  have hts : ∀ w ∈ wsL_law, w.before #[Value.ref sb] s = true := fun w h => hts w (wsL_law_in w h)
  have hA : ∀ q : Nat, s.heap.size ≤ q → (fun q : Nat => s.heap.size ≤ q) q := fun _ h => h
  have hbA : ¬ (fun q : Nat => s.heap.size ≤ q) sb := Nat.not_le.mpr hbl
  have hb : c.code = cL_law := hb
  have hH := hH0.at hS
  have cL := c_L_history l hfl D ct sa s.heap.size H.size b d g o f (xs (4 * n + 1)) (xs (4 * n + 2)) hI
  have cM := c_X3_history l D ct sa aa g rf (xs (4 * n + 1)) (xs (4 * n + 2)) hI
  have hI2 := inv_history hI (xs (4 * n + 1)) (xs (4 * n + 2))
  generalize hz9 : opHistory g (xs (4 * n + 1)) (xs (4 * n + 2)) = z at cL cM hI2
  refine lv_aload_n hx hb dL_law_767 rfl (lv_at hl 1 rfl) ?_
  refine lv_aload_n hx hb dL_law_768 rfl (lv_at hl 0 rfl) ?_
  refine lv_iload hx hb dL_law_769 (lv_at hl 4 rfl) ?_
  refine lv_iconst (v := nI 1) hx hb dL_law_771 (by decide) ?_
  refine hk_addN hx hb dL_law_772 ?_
  refine hk_sld hx hb hX hbl hbA hS (j := (4 * n) + 1) (by omega) hL dL_law_773 ?_
  refine lv_aload_n hx hb dL_law_774 rfl (lv_at hl 0 rfl) ?_
  refine lv_iload hx hb dL_law_775 (lv_at hl 4 rfl) ?_
  refine lv_iconst (v := nI 2) hx hb dL_law_777 (by decide) ?_
  refine hk_addN hx hb dL_law_778 ?_
  refine hk_sld hx hb hX hbl hbA hS (j := (4 * n) + 2) (by omega) hL dL_law_779 ?_
  refine lv_aload_n hx hb dL_law_780 rfl (lv_at hl 3 rfl) ?_
  refine hk_LL (wr := mdW ct aa g rf) (rest := []) (vx_runSW (As := [.ref (b 0), .int (xs ((4 * n) + 1)), .int (xs ((4 * n) + 2)), .ref o]) (rest := []) ⟨hx, hb, hml, hown, hts⟩ cL (vx_cwSW 4 hts gL_law_L_history rfl rfl rfl (by decide +kernel) ⟨Nat.le_of_ble_eq_true rfl, Nat.le_of_ble_eq_true rfl⟩) (hk_prxS hE hH ⟨rfl, hP.right (w1 := mdW ct aa g rf), hD.right (w1 := mdW ct aa g rf)⟩) rfl rfl hl.1 rfl (lv_room (Nat.le_of_ble_eq_true rfl)) dL_law_781 ⟨by show _ ≤ 601024; omega, by show _ ≤ 7293034; omega⟩) rfl hP hD hS hA (fun d9 f9 H locs hf9 hP hD hS => ?_)
  have hP : va_P D vwCl (((aa 0), .inr (3, [.int rf, .int (nI (gN g)), .ref (aa 1), .ref (aa 2), .ref (aa 3), .ref (aa 4), .ref (aa 5), .ref (aa 6), .ref (aa 7), .ref (aa 8), .ref (aa 9), .int (nI (gd g)), .ref (aa 10), .int (nI (gc g)), .ref (aa 11), .ref (aa 12), .ref (aa 13)])) :: ((aa 1), .inl (ct 0, 60, .inl (mK g))) :: ((aa 2), .inl (ct 0, 60, .inl (mL g))) :: ((aa 3), .inl (ct 0, 5, .inl (mY g))) :: ((aa 4), .inl (ct 0, 60, .inl (mS g))) :: ((aa 5), .inl (ct 0, 720, .inl (mP g))) :: ((aa 6), .inl (ct 0, 5, .inl (mC g))) :: ((aa 7), .inl (ct 0, 5, .inl (mLa g))) :: ((aa 8), .inl (ct 0, 5, .inl (mQ g))) :: ((aa 9), .inl (ct 0, 150, .inl (mT g))) :: ((aa 10), .inl (ct 0, 24, .inl (mD g))) :: ((aa 11), .inl (ct 0, 6, .inl (mW g))) :: ((aa 12), .inl (ct 0, 30, .inl (mX g))) :: ((aa 13), .inl (ct 0, 30, .inl (mZ g))) :: hkLW ct b d9 z.2.2 o f9) H := hP
  have hD : va_D (fun q : Nat => s.heap.size ≤ q) (((aa 0), .inr (3, [.int rf, .int (nI (gN g)), .ref (aa 1), .ref (aa 2), .ref (aa 3), .ref (aa 4), .ref (aa 5), .ref (aa 6), .ref (aa 7), .ref (aa 8), .ref (aa 9), .int (nI (gd g)), .ref (aa 10), .int (nI (gc g)), .ref (aa 11), .ref (aa 12), .ref (aa 13)])) :: ((aa 1), .inl (ct 0, 60, .inl (mK g))) :: ((aa 2), .inl (ct 0, 60, .inl (mL g))) :: ((aa 3), .inl (ct 0, 5, .inl (mY g))) :: ((aa 4), .inl (ct 0, 60, .inl (mS g))) :: ((aa 5), .inl (ct 0, 720, .inl (mP g))) :: ((aa 6), .inl (ct 0, 5, .inl (mC g))) :: ((aa 7), .inl (ct 0, 5, .inl (mLa g))) :: ((aa 8), .inl (ct 0, 5, .inl (mQ g))) :: ((aa 9), .inl (ct 0, 150, .inl (mT g))) :: ((aa 10), .inl (ct 0, 24, .inl (mD g))) :: ((aa 11), .inl (ct 0, 6, .inl (mW g))) :: ((aa 12), .inl (ct 0, 30, .inl (mX g))) :: ((aa 13), .inl (ct 0, 30, .inl (mZ g))) :: hkLW ct b d9 z.2.2 o f9) := hD
  refine lv_istore (lv' := [(5, .int z.1), (0, .ref sb), (1, .ref (b 0)), (2, .ref (aa 0)), (3, .ref o), (4, .int (nI (4 * n)))]) hx hb dL_law_784 hl (by decide) rfl (fun ls hl => ?_)
  refine lv_aload_n hx hb dL_law_786 rfl (lv_at hl 3 rfl) ?_
  refine lv_aload_n hx hb dL_law_787 rfl (lv_at hl 1 rfl) ?_
  refine lv_iload hx hb dL_law_788 (lv_at hl 5 rfl) ?_
  refine lv_iconst (v := nI 1) hx hb dL_law_790 (by decide) ?_
  refine hk_addN hx hb dL_law_791 ?_
  refine hk_sld hx hb hX hbl hbA hS (j := (4 * n) + 1) (by omega) hL dL_law_792 ?_
  refine lv_aload_n hx hb dL_law_793 rfl (lv_at hl 1 rfl) ?_
  refine lv_iload hx hb dL_law_794 (lv_at hl 5 rfl) ?_
  refine lv_iconst (v := nI 2) hx hb dL_law_796 (by decide) ?_
  refine hk_addN hx hb dL_law_797 ?_
  refine hk_sld hx hb hX hbl hbA hS (j := (4 * n) + 2) (by omega) hL dL_law_798 ?_
  have hPm := hP.sub (ws' := [((aa 0), .inr (3, [.int rf, .int (nI (gN g)), .ref (aa 1), .ref (aa 2), .ref (aa 3), .ref (aa 4), .ref (aa 5), .ref (aa 6), .ref (aa 7), .ref (aa 8), .ref (aa 9), .int (nI (gd g)), .ref (aa 10), .int (nI (gc g)), .ref (aa 11), .ref (aa 12), .ref (aa 13)])), ((aa 1), .inl (ct 0, 60, .inl (mK g))), ((aa 2), .inl (ct 0, 60, .inl (mL g))), ((aa 3), .inl (ct 0, 5, .inl (mY g))), ((aa 4), .inl (ct 0, 60, .inl (mS g))), ((aa 5), .inl (ct 0, 720, .inl (mP g))), ((aa 6), .inl (ct 0, 5, .inl (mC g))), ((aa 7), .inl (ct 0, 5, .inl (mLa g))), ((aa 8), .inl (ct 0, 5, .inl (mQ g))), ((aa 9), .inl (ct 0, 150, .inl (mT g))), ((aa 10), .inl (ct 0, 24, .inl (mD g))), ((aa 11), .inl (ct 0, 6, .inl (mW g))), ((aa 12), .inl (ct 0, 30, .inl (mX g))), ((aa 13), .inl (ct 0, 30, .inl (mZ g)))]) [0, 1, 2, 3, 4, 5, 6, 7, 8, 9, 10, 11, 12, 13] rfl
  have hDm := hD.sub (ws' := [((aa 0), .inr (3, [.int rf, .int (nI (gN g)), .ref (aa 1), .ref (aa 2), .ref (aa 3), .ref (aa 4), .ref (aa 5), .ref (aa 6), .ref (aa 7), .ref (aa 8), .ref (aa 9), .int (nI (gd g)), .ref (aa 10), .int (nI (gc g)), .ref (aa 11), .ref (aa 12), .ref (aa 13)])), ((aa 1), .inl (ct 0, 60, .inl (mK g))), ((aa 2), .inl (ct 0, 60, .inl (mL g))), ((aa 3), .inl (ct 0, 5, .inl (mY g))), ((aa 4), .inl (ct 0, 60, .inl (mS g))), ((aa 5), .inl (ct 0, 720, .inl (mP g))), ((aa 6), .inl (ct 0, 5, .inl (mC g))), ((aa 7), .inl (ct 0, 5, .inl (mLa g))), ((aa 8), .inl (ct 0, 5, .inl (mQ g))), ((aa 9), .inl (ct 0, 150, .inl (mT g))), ((aa 10), .inl (ct 0, 24, .inl (mD g))), ((aa 11), .inl (ct 0, 6, .inl (mW g))), ((aa 12), .inl (ct 0, 30, .inl (mX g))), ((aa 13), .inl (ct 0, 30, .inl (mZ g)))]) [0, 1, 2, 3, 4, 5, 6, 7, 8, 9, 10, 11, 12, 13] (by decide) rfl
  refine hk_M (w1 := mdW ct aa z.2.2 z.1) (rest := []) (va_Run.run (va_runV (As := [.int (xs ((4 * n) + 1)), .int (xs ((4 * n) + 2))]) (rest := []) ⟨hx, hb, hml, hown, hts⟩ cM (cwV 2 hts gL_law_X3_history rfl rfl rfl (by decide +kernel) ⟨Nat.le_of_ble_eq_true rfl, Nat.le_of_ble_eq_true rfl⟩) (hk_preV hE (va_recv hE.1 hP (ci := 3) (q0 := 0) rfl rfl) ⟨hPm, hDm.weaken (fun _ _ _ _ => trivial)⟩) rfl rfl hl.1 rfl (lv_room (Nat.le_of_ble_eq_true rfl)) dL_law_799 ⟨by show _ ≤ 601024; omega, by show _ ≤ 7293034; omega⟩)) hP hD hS [0, 1, 2, 3, 4, 5, 6, 7, 8, 9, 10, 11, 12, 13] (wc := [((aa 0), .inr (3, [.int rf, .int (nI (gN g)), .ref (aa 1), .ref (aa 2), .ref (aa 3), .ref (aa 4), .ref (aa 5), .ref (aa 6), .ref (aa 7), .ref (aa 8), .ref (aa 9), .int (nI (gd g)), .ref (aa 10), .int (nI (gc g)), .ref (aa 11), .ref (aa 12), .ref (aa 13)])), ((aa 1), .inl (ct 0, 60, .inl (mK g))), ((aa 2), .inl (ct 0, 60, .inl (mL g))), ((aa 3), .inl (ct 0, 5, .inl (mY g))), ((aa 4), .inl (ct 0, 60, .inl (mS g))), ((aa 5), .inl (ct 0, 720, .inl (mP g))), ((aa 6), .inl (ct 0, 5, .inl (mC g))), ((aa 7), .inl (ct 0, 5, .inl (mLa g))), ((aa 8), .inl (ct 0, 5, .inl (mQ g))), ((aa 9), .inl (ct 0, 150, .inl (mT g))), ((aa 10), .inl (ct 0, 24, .inl (mD g))), ((aa 11), .inl (ct 0, 6, .inl (mW g))), ((aa 12), .inl (ct 0, 30, .inl (mX g))), ((aa 13), .inl (ct 0, 30, .inl (mZ g)))]) rfl rfl rfl (fun H locs hP hD hS => ?_)
  have hP : va_P D vwCl (((aa 0), .inr (3, [.int z.1, .int (nI (gN z.2.2)), .ref (aa 1), .ref (aa 2), .ref (aa 3), .ref (aa 4), .ref (aa 5), .ref (aa 6), .ref (aa 7), .ref (aa 8), .ref (aa 9), .int (nI (gd z.2.2)), .ref (aa 10), .int (nI (gc z.2.2)), .ref (aa 11), .ref (aa 12), .ref (aa 13)])) :: ((aa 1), .inl (ct 0, 60, .inl (mK z.2.2))) :: ((aa 2), .inl (ct 0, 60, .inl (mL z.2.2))) :: ((aa 3), .inl (ct 0, 5, .inl (mY z.2.2))) :: ((aa 4), .inl (ct 0, 60, .inl (mS z.2.2))) :: ((aa 5), .inl (ct 0, 720, .inl (mP z.2.2))) :: ((aa 6), .inl (ct 0, 5, .inl (mC z.2.2))) :: ((aa 7), .inl (ct 0, 5, .inl (mLa z.2.2))) :: ((aa 8), .inl (ct 0, 5, .inl (mQ z.2.2))) :: ((aa 9), .inl (ct 0, 150, .inl (mT z.2.2))) :: ((aa 10), .inl (ct 0, 24, .inl (mD z.2.2))) :: ((aa 11), .inl (ct 0, 6, .inl (mW z.2.2))) :: ((aa 12), .inl (ct 0, 30, .inl (mX z.2.2))) :: ((aa 13), .inl (ct 0, 30, .inl (mZ z.2.2))) :: hkLW ct b d9 z.2.2 o f9) H := hP
  have hD : va_D (fun q : Nat => s.heap.size ≤ q) (((aa 0), .inr (3, [.int z.1, .int (nI (gN z.2.2)), .ref (aa 1), .ref (aa 2), .ref (aa 3), .ref (aa 4), .ref (aa 5), .ref (aa 6), .ref (aa 7), .ref (aa 8), .ref (aa 9), .int (nI (gd z.2.2)), .ref (aa 10), .int (nI (gc z.2.2)), .ref (aa 11), .ref (aa 12), .ref (aa 13)])) :: ((aa 1), .inl (ct 0, 60, .inl (mK z.2.2))) :: ((aa 2), .inl (ct 0, 60, .inl (mL z.2.2))) :: ((aa 3), .inl (ct 0, 5, .inl (mY z.2.2))) :: ((aa 4), .inl (ct 0, 60, .inl (mS z.2.2))) :: ((aa 5), .inl (ct 0, 720, .inl (mP z.2.2))) :: ((aa 6), .inl (ct 0, 5, .inl (mC z.2.2))) :: ((aa 7), .inl (ct 0, 5, .inl (mLa z.2.2))) :: ((aa 8), .inl (ct 0, 5, .inl (mQ z.2.2))) :: ((aa 9), .inl (ct 0, 150, .inl (mT z.2.2))) :: ((aa 10), .inl (ct 0, 24, .inl (mD z.2.2))) :: ((aa 11), .inl (ct 0, 6, .inl (mW z.2.2))) :: ((aa 12), .inl (ct 0, 30, .inl (mX z.2.2))) :: ((aa 13), .inl (ct 0, 30, .inl (mZ z.2.2))) :: hkLW ct b d9 z.2.2 o f9) := hD
  refine lv_istore (lv' := [(6, .int z.2.1), (5, .int z.1), (0, .ref sb), (1, .ref (b 0)), (2, .ref (aa 0)), (3, .ref o), (4, .int (nI (4 * n)))]) hx hb dL_law_802 hl (by decide) rfl (fun ls hl => ?_)
  refine lv_aload_n hx hb dL_law_804 rfl (lv_at hl 4 rfl) ?_
  refine hk_R (rest := []) (va_Run.run (va_runV (As := []) (rest := []) ⟨hx, hb, hml, hown, hts⟩ (c_X3_thrown l D ct sa aa z.2.2 z.1) (cwV 0 hts gL_law_X3_thrown rfl rfl rfl (by decide +kernel) ⟨Nat.le_of_ble_eq_true rfl, Nat.le_of_ble_eq_true rfl⟩) (hk_preV hE (va_recv hE.1 hP (ci := 3) (q0 := 0) rfl rfl) (hP.sub (ws' := [((aa 0), .inr (3, [.int z.1, .int (nI (gN z.2.2)), .ref (aa 1), .ref (aa 2), .ref (aa 3), .ref (aa 4), .ref (aa 5), .ref (aa 6), .ref (aa 7), .ref (aa 8), .ref (aa 9), .int (nI (gd z.2.2)), .ref (aa 10), .int (nI (gc z.2.2)), .ref (aa 11), .ref (aa 12), .ref (aa 13)]))]) [0] rfl)) rfl rfl hl.1 rfl (lv_room (Nat.le_of_ble_eq_true rfl)) dL_law_805 ⟨by show _ ≤ 601024; omega, by show _ ≤ 7293034; omega⟩)) ?_
  refine lv_iload hx hb dL_law_808 (lv_at hl 1 rfl) ?_
  refine lv_icmp_eq (tgt := 815) hx hb dL_law_810 (by decide) (fun hq => ?_) (fun hq => ?_)
  · refine lv_iload hx hb dL_law_815 (lv_at hl 1 rfl) ?_
    refine lv_if_ne (tgt := 832) hx hb dL_law_817 (by decide) (fun hq0 => ?_) (fun hq0 => ?_)
    · refine lv_goto (tgt := 1492) hx hb dL_law_832 (by decide) ?_
      refine W.widen (k := cl + 6) (n := sl + 218) (by omega) (by omega) ?_
      exact kk d9 z.2.2 f9 z.1 _ _ ls hI2 hP hD hS (lv_sub hl [2, 3, 4, 5, 6] rfl)
    · have hv9 := hf9 hq0
      refine lv_aload_n hx hb dL_law_820 rfl (lv_at hl 5 rfl) ?_
      refine lv_iconst (v := nI 0) hx hb dL_law_821 (by decide) ?_
      refine hk_lld hx hb hE hP 14 rfl (j := 0) (by decide) (by decide) dL_law_822 ?_
      rw [hv9]
      refine lv_iload hx hb dL_law_823 (lv_at hl 0 rfl) ?_
      refine lv_i2l hx hb dL_law_825 rfl ?_
      refine hk_lcmpE hx hb dL_law_826 ?_
      refine lv_if_eq (tgt := 832) hx hb dL_law_827 (by decide) (fun hq7 => ?_) (fun hq7 => ?_)
      · refine lv_goto (tgt := 1492) hx hb dL_law_832 (by decide) ?_
        refine W.widen (k := cl + 6) (n := sl + 218) (by omega) (by omega) ?_
        exact kk d9 z.2.2 f9 z.1 _ _ ls hI2 hP hD hS (lv_sub hl [2, 3, 4, 5, 6] rfl)
      · exact absurd rfl hq7
  · exact absurd rfl hq
