theorem hk_topr {p : Program} {l : Launch} {e : Env} {R : Room} {s : State} {m : MethodId} {args : Array Value} {below : List Frame} {meth : Method} {c : Code} {H : Heap} {locs : List Loc} {cells slots : Nat} {Q : State → Prop} {pc : Nat} {ls : Array Slot} {rest : List Value} {f : Option Nat} {a : Nat} (h : f = some a) (k : W p l e R s m args below meth c H locs cells slots Q (F0 m pc ls (.ref a :: rest))) : W p l e R s m args below meth c H locs cells slots Q (F0 m pc ls (va_rf f :: rest)) := by rw [h]; exact k
theorem hk_topn {p : Program} {l : Launch} {e : Env} {R : Room} {s : State} {m : MethodId} {args : Array Value} {below : List Frame} {meth : Method} {c : Code} {H : Heap} {locs : List Loc} {cells slots : Nat} {Q : State → Prop} {pc : Nat} {ls : Array Slot} {rest : List Value} {f : Option Nat} (h : f = none) (k : W p l e R s m args below meth c H locs cells slots Q (F0 m pc ls (.null :: rest))) : W p l e R s m args below meth c H locs cells slots Q (F0 m pc ls (va_rf f :: rest)) := by rw [h]; exact k
theorem hk_ng0 : ∀ w ∈ (vx_atS RX2 37 "java/lang/IllegalStateException" ["java/lang/RuntimeException", "java/lang/Exception"]).filter (fun w => !goodWord w), w ∈ hkN := by decide +kernel
theorem hk_ot0 : (Cond.classLink RX2 33 "java/lang/IllegalStateException" :: Cond.initialized "java/lang/IllegalStateException" :: vx_atS RX2 37 "java/lang/IllegalStateException" ["java/lang/RuntimeException", "java/lang/Exception"]).all vx_ot = true := by decide +kernel
theorem hk_ng1 : ∀ w ∈ (vx_atS RX2 106 "java/lang/IndexOutOfBoundsException" ["java/lang/RuntimeException", "java/lang/Exception"]).filter (fun w => !goodWord w), w ∈ hkN := by decide +kernel
theorem hk_ot1 : (Cond.classLink RX2 102 "java/lang/IndexOutOfBoundsException" :: Cond.initialized "java/lang/IndexOutOfBoundsException" :: vx_atS RX2 106 "java/lang/IndexOutOfBoundsException" ["java/lang/RuntimeException", "java/lang/Exception"]).all vx_ot = true := by decide +kernel
theorem hk_ng2 : ∀ w ∈ (vx_atS RX2 48 "java/lang/IllegalArgumentException" ["java/lang/RuntimeException", "java/lang/Exception"]).filter (fun w => !goodWord w), w ∈ hkN := by decide +kernel
theorem hk_ot2 : (Cond.classLink RX2 44 "java/lang/IllegalArgumentException" :: Cond.initialized "java/lang/IllegalArgumentException" :: vx_atS RX2 48 "java/lang/IllegalArgumentException" ["java/lang/RuntimeException", "java/lang/Exception"]).all vx_ot = true := by decide +kernel
theorem rfs_in {n j : Nat} {a : Nat → Nat → Nat} (h : j < n) : rfs n a j = some (a j 0) := if_pos h
theorem rfs_out {n j : Nat} {a : Nat → Nat → Nat} (h : ¬ j < n) : rfs n a j = none := if_neg h
theorem bd_not {j n : Nat} (h : ¬ j < n) (hn : n < 2 ^ 31) (hj : j < 2 ^ 31) : bd (nI j) n := bd_ge hn ((nI_leI hn hj).mpr (by omega))
theorem bd_le {x : Int32} {n N : Nat} (h : n ≤ N) (hb : bd x N) : bd x n := hb.elim Or.inl (fun q => Or.inr (Nat.le_trans h q))
theorem bd_lt' {x : Int32} {n : Nat} (hn : n < 2 ^ 31) (h1 : ¬ x < 0) (h2 : x < nI n) : ¬ bd x n := by
  obtain ⟨j, hj, rfl⟩ := hk_lt_of (j := 0) hn h1 h2
  exact bd_nI hj hn
theorem bd_nlt {x : Int32} {n : Nat} (hn : n < 2 ^ 31) (h2 : ¬ x < nI n) : bd x n := bd_ge hn (Int32.not_lt.mp h2)
theorem hk_ent {X : Nat → Nat} {w : Nat} {x : Int32} (hw : w ≤ 5) (h1 : ∀ j, j < w → 2 ≤ X j ∧ X j ≤ 200) (h2 : ∀ j, w ≤ j → X j = 0) : (0 < hkAt 5 (fun j => nI (X j)) x ∧ ¬ bd x w ∧ hkAt 5 (fun j => nI (X j)) x = nI (X x.toNatClampNeg)) ∨ (¬ 0 < hkAt 5 (fun j => nI (X j)) x ∧ bd x w) := by
  by_cases hb : bd x 5
  · refine Or.inr ⟨?_, bd_le hw hb⟩
    unfold hkAt
    rw [if_pos hb]
    decide
  · obtain ⟨j, hj, rfl⟩ := bd_of (by decide) hb
    rw [hkAt_in hj (by decide), nI_clamp (by omega)]
    by_cases h : j < w
    · refine Or.inl ⟨?_, bd_nI h (by omega), rfl⟩
      have h3 := h1 j h
      exact (nI_ltI (a := 0) (by decide) (by omega)).mpr (by omega)
    · refine Or.inr ⟨?_, bd_not h (by omega) (by omega)⟩
      show ¬ 0 < nI (X j)
      rw [h2 j (by omega)]
      decide
set_option maxHeartbeats 4000000 in
set_option maxRecDepth 100000 in
theorem c_X2_needLetter (l : Launch) (hfl : l.flags = flags0) (D : va_G) (ct : Nat → ClassId) (sa : Nat → Nat) (G0 : Nat) (x : Int32) : vx_Met l yX2_needLetter wsX2_needLetter ({ frames := 6, cells := 1, slots := 6, locals := 82 }) (hkPx D ct sa G0 [.int x] (fun _ => True)) (hkR none (¬ bd x 12)) (hkXC (fun E => E = "java/lang/IndexOutOfBoundsException" ∧ bd x 12)) 1 6 (fun _ => False) := by
  refine vx_ofW (cc := cX2_needLetter) (maxL := 1) (ret := none) (by decide) rfl ?_
  intro p e s m args below meth c s₁ B hml hout hv
  obtain ⟨rfl, hE, hH, -⟩ := hv
  have hx := B.exec
  have hb := B.bytes
  have hr := B.returns
  have hts := atoms_spec (ws := wsX2_needLetter) B.pre
  have hown : s.vm.findClass RX2 = some m.cls := findClass_of_methodNamed B.named
  have hlocks := B.notSynchronized
  have hl := lv_entry ([.int x]) (n := 1) (Nat.le_of_ble_eq_true rfl)
  rw [lg_entry_eq]
  generalize (lg_sl ([.int x]) ++ List.replicate (1 - (lg_sl ([.int x])).length) Slot.unset).toArray = ls at hl ⊢
  have hl : lv_has ls 1 [(0, .int x)] := hl
  refine lv_iload_n hx hb dX2_needLetter_0 rfl (lv_at hl 0 rfl) ?_
  refine lv_if_lt (tgt := 10) hx hb dX2_needLetter_1 (by decide) (fun hc => ?_) (fun hc0 => ?_)
  · exact hk_throw (G0 := G0) hx hb hfl (cls := "java/lang/IndexOutOfBoundsException") (text := "no such letter") (ik := 102) (is := 187) (ic := 106) (k := 5) hown (by decide +kernel) (hts (.classLink RX2 102 "java/lang/IndexOutOfBoundsException") (by decide +kernel)) (hts (.initialized "java/lang/IndexOutOfBoundsException") (by decide +kernel)) (fun w hw => hts w (List.mem_cons_of_mem _ (List.mem_append_right _ hw))) hk_ng1 hk_ot1 hE hH (List.mem_of_getElem? (i := 5) rfl) (hl.1.trans hml.symm) dX2_needLetter_10 dX2_needLetter_13 dX2_needLetter_14 dX2_needLetter_16 dX2_needLetter_19 hout (Nat.le_of_ble_eq_true rfl) (Nat.le_of_ble_eq_true rfl) (Nat.le_of_ble_eq_true rfl) (Nat.le_of_ble_eq_true rfl) hlocks ⟨rfl, Or.inl hc⟩ (Nat.le_of_ble_eq_true rfl) (Nat.le_of_ble_eq_true rfl)
  · refine lv_iload_n hx hb dX2_needLetter_4 rfl (lv_at hl 0 rfl) ?_
    refine lv_bipush (v := nI 12) hx hb dX2_needLetter_5 (by decide) ?_
    refine lv_icmp_lt (tgt := 20) hx hb dX2_needLetter_7 (by decide) (fun hc1 => ?_) (fun hc1 => ?_)
    · refine W.widen (k := 1) (n := 6) (Nat.le_of_ble_eq_true rfl) (Nat.le_of_ble_eq_true rfl) ?_
      exact vx_ret (W.vret hx hb hr (fun t ht hW => ⟨rfl, bd_lt' (by decide) hc0 hc1, ht⟩) (fun _ h => nomatch h) dX2_needLetter_20)
    · exact hk_throw (G0 := G0) hx hb hfl (cls := "java/lang/IndexOutOfBoundsException") (text := "no such letter") (ik := 102) (is := 187) (ic := 106) (k := 5) hown (by decide +kernel) (hts (.classLink RX2 102 "java/lang/IndexOutOfBoundsException") (by decide +kernel)) (hts (.initialized "java/lang/IndexOutOfBoundsException") (by decide +kernel)) (fun w hw => hts w (List.mem_cons_of_mem _ (List.mem_append_right _ hw))) hk_ng1 hk_ot1 hE hH (List.mem_of_getElem? (i := 5) rfl) (hl.1.trans hml.symm) dX2_needLetter_10 dX2_needLetter_13 dX2_needLetter_14 dX2_needLetter_16 dX2_needLetter_19 hout (Nat.le_of_ble_eq_true rfl) (Nat.le_of_ble_eq_true rfl) (Nat.le_of_ble_eq_true rfl) (Nat.le_of_ble_eq_true rfl) hlocks ⟨rfl, bd_nlt (by decide) hc1⟩ (Nat.le_of_ble_eq_true rfl) (Nat.le_of_ble_eq_true rfl)

set_option maxHeartbeats 4000000 in
set_option maxRecDepth 100000 in
theorem c_X2_needKey (l : Launch) (hfl : l.flags = flags0) (D : va_G) (ct : Nat → ClassId) (sa : Nat → Nat) (G0 : Nat) (x : Int32) : vx_Met l yX2_needKey wsX2_needKey ({ frames := 6, cells := 1, slots := 6, locals := 82 }) (hkPx D ct sa G0 [.int x] (fun _ => True)) (hkR none (¬ bd x 12)) (hkXC (fun E => E = "java/lang/IndexOutOfBoundsException" ∧ bd x 12)) 1 6 (fun _ => False) := by
  refine vx_ofW (cc := cX2_needKey) (maxL := 1) (ret := none) (by decide) rfl ?_
  intro p e s m args below meth c s₁ B hml hout hv
  obtain ⟨rfl, hE, hH, -⟩ := hv
  have hx := B.exec
  have hb := B.bytes
  have hr := B.returns
  have hts := atoms_spec (ws := wsX2_needKey) B.pre
  have hown : s.vm.findClass RX2 = some m.cls := findClass_of_methodNamed B.named
  have hlocks := B.notSynchronized
  have hl := lv_entry ([.int x]) (n := 1) (Nat.le_of_ble_eq_true rfl)
  rw [lg_entry_eq]
  generalize (lg_sl ([.int x]) ++ List.replicate (1 - (lg_sl ([.int x])).length) Slot.unset).toArray = ls at hl ⊢
  have hl : lv_has ls 1 [(0, .int x)] := hl
  refine lv_iload_n hx hb dX2_needKey_0 rfl (lv_at hl 0 rfl) ?_
  refine lv_if_lt (tgt := 10) hx hb dX2_needKey_1 (by decide) (fun hc => ?_) (fun hc0 => ?_)
  · exact hk_throw (G0 := G0) hx hb hfl (cls := "java/lang/IndexOutOfBoundsException") (text := "no such key") (ik := 102) (is := 189) (ic := 106) (k := 3) hown (by decide +kernel) (hts (.classLink RX2 102 "java/lang/IndexOutOfBoundsException") (by decide +kernel)) (hts (.initialized "java/lang/IndexOutOfBoundsException") (by decide +kernel)) (fun w hw => hts w (List.mem_cons_of_mem _ (List.mem_append_right _ hw))) hk_ng1 hk_ot1 hE hH (List.mem_of_getElem? (i := 3) rfl) (hl.1.trans hml.symm) dX2_needKey_10 dX2_needKey_13 dX2_needKey_14 dX2_needKey_16 dX2_needKey_19 hout (Nat.le_of_ble_eq_true rfl) (Nat.le_of_ble_eq_true rfl) (Nat.le_of_ble_eq_true rfl) (Nat.le_of_ble_eq_true rfl) hlocks ⟨rfl, Or.inl hc⟩ (Nat.le_of_ble_eq_true rfl) (Nat.le_of_ble_eq_true rfl)
  · refine lv_iload_n hx hb dX2_needKey_4 rfl (lv_at hl 0 rfl) ?_
    refine lv_bipush (v := nI 12) hx hb dX2_needKey_5 (by decide) ?_
    refine lv_icmp_lt (tgt := 20) hx hb dX2_needKey_7 (by decide) (fun hc1 => ?_) (fun hc1 => ?_)
    · refine W.widen (k := 1) (n := 6) (Nat.le_of_ble_eq_true rfl) (Nat.le_of_ble_eq_true rfl) ?_
      exact vx_ret (W.vret hx hb hr (fun t ht hW => ⟨rfl, bd_lt' (by decide) hc0 hc1, ht⟩) (fun _ h => nomatch h) dX2_needKey_20)
    · exact hk_throw (G0 := G0) hx hb hfl (cls := "java/lang/IndexOutOfBoundsException") (text := "no such key") (ik := 102) (is := 189) (ic := 106) (k := 3) hown (by decide +kernel) (hts (.classLink RX2 102 "java/lang/IndexOutOfBoundsException") (by decide +kernel)) (hts (.initialized "java/lang/IndexOutOfBoundsException") (by decide +kernel)) (fun w hw => hts w (List.mem_cons_of_mem _ (List.mem_append_right _ hw))) hk_ng1 hk_ot1 hE hH (List.mem_of_getElem? (i := 3) rfl) (hl.1.trans hml.symm) dX2_needKey_10 dX2_needKey_13 dX2_needKey_14 dX2_needKey_16 dX2_needKey_19 hout (Nat.le_of_ble_eq_true rfl) (Nat.le_of_ble_eq_true rfl) (Nat.le_of_ble_eq_true rfl) (Nat.le_of_ble_eq_true rfl) hlocks ⟨rfl, bd_nlt (by decide) hc1⟩ (Nat.le_of_ble_eq_true rfl) (Nat.le_of_ble_eq_true rfl)

set_option maxHeartbeats 4000000 in
set_option maxRecDepth 100000 in
theorem c_X2_needTwoKeys (l : Launch) (hfl : l.flags = flags0) (D : va_G) (ct : Nat → ClassId) (sa : Nat → Nat) (G0 : Nat) (x y : Int32) : vx_Met l yX2_needTwoKeys wsX2_needTwoKeys ({ frames := 7, cells := 3, slots := 18, locals := 102 }) (hkPx D ct sa G0 [.int x, .int y] (fun _ => True)) (hkR none (¬ bd x 12 ∧ ¬ bd y 12 ∧ ¬ x = y)) (hkXC (fun E => (E = "java/lang/IndexOutOfBoundsException" ∧ (bd x 12 ∨ bd y 12)) ∨ (E = "java/lang/IllegalArgumentException" ∧ ¬ bd x 12 ∧ ¬ bd y 12 ∧ x = y))) 3 18 (fun _ => False) := by
  refine vx_ofW (cc := cX2_needTwoKeys) (maxL := 2) (ret := none) (by decide) rfl ?_
  intro p e s m args below meth c s₁ B hml hout hv
  obtain ⟨rfl, hE, hH, -⟩ := hv
  have hx := B.exec
  have hb := B.bytes
  have hr := B.returns
  have hts := atoms_spec (ws := wsX2_needTwoKeys) B.pre
  have hown : s.vm.findClass RX2 = some m.cls := findClass_of_methodNamed B.named
  have hlocks := B.notSynchronized
  have hl := lv_entry ([.int x, .int y]) (n := 2) (Nat.le_of_ble_eq_true rfl)
  rw [lg_entry_eq]
  generalize (lg_sl ([.int x, .int y]) ++ List.replicate (2 - (lg_sl ([.int x, .int y])).length) Slot.unset).toArray = ls at hl ⊢
  have hl : lv_has ls 2 [(0, .int x), (1, .int y)] := hl
  refine lv_iload_n hx hb dX2_needTwoKeys_0 rfl (lv_at hl 0 rfl) ?_
  refine hk_XR (rest := []) (vx_runS (As := [.int x]) (rest := []) ⟨hx, hb, hml, hown, hts⟩ (c_X2_needKey l hfl D ct sa G0 x) (va_cwS 1 hts gX2_needTwoKeys_X2_needKey rfl rfl rfl (by decide +kernel) ⟨Nat.le_of_ble_eq_true rfl, Nat.le_of_ble_eq_true rfl⟩) (hk_prxS hE hH trivial) rfl rfl hl.1 rfl (lv_room (Nat.le_of_ble_eq_true rfl)) dX2_needTwoKeys_1 ⟨Nat.le_of_ble_eq_true rfl, Nat.le_of_ble_eq_true rfl⟩) (fun E ce q9 H1 ho hF9 hce hcv hcl => ?_) (fun hq => ?_)
  · exact hk_out hout hlocks hF9 (Or.inl ⟨ho.1, Or.inl ho.2⟩) hce hcv hcl (Nat.le_of_ble_eq_true rfl) (Nat.le_of_ble_eq_true rfl)
  have hqx := hq
  refine lv_iload_n hx hb dX2_needTwoKeys_4 rfl (lv_at hl 1 rfl) ?_
  refine hk_XR (rest := []) (vx_runS (As := [.int y]) (rest := []) ⟨hx, hb, hml, hown, hts⟩ (c_X2_needKey l hfl D ct sa G0 y) (va_cwS 1 hts gX2_needTwoKeys_X2_needKey rfl rfl rfl (by decide +kernel) ⟨Nat.le_of_ble_eq_true rfl, Nat.le_of_ble_eq_true rfl⟩) (hk_prxS hE hH trivial) rfl rfl hl.1 rfl (lv_room (Nat.le_of_ble_eq_true rfl)) dX2_needTwoKeys_5 ⟨Nat.le_of_ble_eq_true rfl, Nat.le_of_ble_eq_true rfl⟩) (fun E ce q9 H1 ho hF9 hce hcv hcl => ?_) (fun hq => ?_)
  · exact hk_out hout hlocks hF9 (Or.inl ⟨ho.1, Or.inr ho.2⟩) hce hcv hcl (Nat.le_of_ble_eq_true rfl) (Nat.le_of_ble_eq_true rfl)
  refine lv_iload_n hx hb dX2_needTwoKeys_8 rfl (lv_at hl 0 rfl) ?_
  refine lv_iload_n hx hb dX2_needTwoKeys_9 rfl (lv_at hl 1 rfl) ?_
  refine lv_icmp_ne (tgt := 23) hx hb dX2_needTwoKeys_10 (by decide) (fun hc => ?_) (fun hc => ?_)
  · refine W.widen (k := 3) (n := 18) (Nat.le_of_ble_eq_true rfl) (Nat.le_of_ble_eq_true rfl) ?_
    exact vx_ret (W.vret hx hb hr (fun t ht hW => ⟨rfl, ⟨hqx, hq, hc⟩, ht⟩) (fun _ h => nomatch h) dX2_needTwoKeys_23)
  · exact hk_throw (G0 := G0) hx hb hfl (cls := "java/lang/IllegalArgumentException") (text := "both keys are the same") (ik := 44) (is := 191) (ic := 48) (k := 4) hown (by decide +kernel) (hts (.classLink RX2 44 "java/lang/IllegalArgumentException") (by decide +kernel)) (hts (.initialized "java/lang/IllegalArgumentException") (by decide +kernel)) (fun w hw => hts w (List.mem_cons_of_mem _ (List.mem_append_left _ (List.mem_append_right _ hw)))) hk_ng2 hk_ot2 hE hH (List.mem_of_getElem? (i := 4) rfl) (hl.1.trans hml.symm) dX2_needTwoKeys_13 dX2_needTwoKeys_16 dX2_needTwoKeys_17 dX2_needTwoKeys_19 dX2_needTwoKeys_22 hout (Nat.le_of_ble_eq_true rfl) (Nat.le_of_ble_eq_true rfl) (Nat.le_of_ble_eq_true rfl) (Nat.le_of_ble_eq_true rfl) hlocks (Or.inr ⟨rfl, hqx, hq, hc⟩) (Nat.le_of_ble_eq_true rfl) (Nat.le_of_ble_eq_true rfl)

set_option maxHeartbeats 4000000 in
set_option maxRecDepth 100000 in
theorem c_X2_studentAt (l : Launch) (hfl : l.flags = flags0) (D : va_G) (ct : Nat → ClassId) (sa : Nat → Nat) (G0 : Nat) (q0 q1 q2 q3 q4 n : Nat) (x3 : Int32) (a : Nat → Nat → Nat) (x : Int32) (hn : n ≤ 5) : vx_Met l yX2_studentAt wsX2_studentAt ({ frames := 6, cells := 1, slots := 6, locals := 82 }) (hkPx D ct sa G0 [.ref q0, .int x] (fun H => va_P D vwCl [(q0, .inr (2, [.ref q1, .ref q2, .ref q3, .int x3, .ref q4])), (q1, .inl (ct 1, 5, .inr (.inr (.inr (.inr (rfs n a))))))] H)) (hkR (some (.ref (a x.toNatClampNeg 0))) (¬ bd x n)) (hkXC (fun E => E = "java/lang/IndexOutOfBoundsException" ∧ bd x n)) 1 6 (fun _ => False) := by
  refine vx_ofW (cc := cX2_studentAt) (maxL := 3) (ret := (some (.object "Homekeys$Student"))) (by decide) rfl ?_
  intro p e s m args below meth c s₁ B hml hout hv
  obtain ⟨rfl, hE, hH, hP⟩ := hv
  have hx := B.exec
  have hb := B.bytes
  have hr := B.returns
  have hts := atoms_spec (ws := wsX2_studentAt) B.pre
  have hown : s.vm.findClass RX2 = some m.cls := findClass_of_methodNamed B.named
  have hlocks := B.notSynchronized
  have hin2 : ∀ w ∈ wsX20, w ∈ wsX2_studentAt := by decide +kernel
  have hl := lv_entry ([.ref q0, .int x]) (n := 3) (Nat.le_of_ble_eq_true rfl)
  rw [lg_entry_eq]
  generalize (lg_sl ([.ref q0, .int x]) ++ List.replicate (3 - (lg_sl ([.ref q0, .int x])).length) Slot.unset).toArray = ls at hl ⊢
  have hl : lv_has ls 3 [(0, .ref q0), (1, .int x)] := hl
  refine lv_iload_n hx hb dX2_studentAt_0 rfl (lv_at hl 1 rfl) ?_
  refine lv_if_lt (tgt := 26) hx hb dX2_studentAt_1 (by decide) (fun hc => ?_) (fun hc0 => ?_)
  · exact hk_throw (G0 := G0) hx hb hfl (cls := "java/lang/IndexOutOfBoundsException") (text := "no such student") (ik := 102) (is := 178) (ic := 106) (k := 1) hown (by decide +kernel) (hts (.classLink RX2 102 "java/lang/IndexOutOfBoundsException") (by decide +kernel)) (hts (.initialized "java/lang/IndexOutOfBoundsException") (by decide +kernel)) (fun w hw => hts w (List.mem_cons_of_mem _ (List.mem_append_right _ hw))) hk_ng1 hk_ot1 hE hH (List.mem_of_getElem? (i := 1) rfl) (hl.1.trans hml.symm) dX2_studentAt_26 dX2_studentAt_29 dX2_studentAt_30 dX2_studentAt_32 dX2_studentAt_35 hout (Nat.le_of_ble_eq_true rfl) (Nat.le_of_ble_eq_true rfl) (Nat.le_of_ble_eq_true rfl) (Nat.le_of_ble_eq_true rfl) hlocks ⟨rfl, Or.inl hc⟩ (Nat.le_of_ble_eq_true rfl) (Nat.le_of_ble_eq_true rfl)
  · refine lv_iload_n hx hb dX2_studentAt_4 rfl (lv_at hl 1 rfl) ?_
    refine lv_aload_n hx hb dX2_studentAt_5 rfl (lv_at hl 0 rfl) ?_
    refine va_get (D := D) (ci := 2) (v := .ref q1) (C := RX2) (T := TX2) (N := 5) hx hb hts hin2 hown hE.1 hP 0 rfl rfl 0 (by decide) (hts (.fieldLink RX2 11 "Homekeys" "students" "[LHomekeys$Student;") (by decide +kernel)) (fun _ h9 => h9) rfl dX2_studentAt_6 ?_
    refine hk_alen1 hx hb hE hP 1 rfl dX2_studentAt_9 ?_
    refine lv_icmp_ge (tgt := 26) hx hb dX2_studentAt_10 (by decide) (fun hc1 => ?_) (fun hc1 => ?_)
    · exact hk_throw (G0 := G0) hx hb hfl (cls := "java/lang/IndexOutOfBoundsException") (text := "no such student") (ik := 102) (is := 178) (ic := 106) (k := 1) hown (by decide +kernel) (hts (.classLink RX2 102 "java/lang/IndexOutOfBoundsException") (by decide +kernel)) (hts (.initialized "java/lang/IndexOutOfBoundsException") (by decide +kernel)) (fun w hw => hts w (List.mem_cons_of_mem _ (List.mem_append_right _ hw))) hk_ng1 hk_ot1 hE hH (List.mem_of_getElem? (i := 1) rfl) (hl.1.trans hml.symm) dX2_studentAt_26 dX2_studentAt_29 dX2_studentAt_30 dX2_studentAt_32 dX2_studentAt_35 hout (Nat.le_of_ble_eq_true rfl) (Nat.le_of_ble_eq_true rfl) (Nat.le_of_ble_eq_true rfl) (Nat.le_of_ble_eq_true rfl) hlocks ⟨rfl, bd_le hn (bd_ge (by decide) hc1)⟩ (Nat.le_of_ble_eq_true rfl) (Nat.le_of_ble_eq_true rfl)
    · obtain ⟨j, hj, rfl⟩ := hk_ix (by decide) hc0 hc1
      refine lv_aload_n hx hb dX2_studentAt_13 rfl (lv_at hl 0 rfl) ?_
      refine va_get (D := D) (ci := 2) (v := .ref q1) (C := RX2) (T := TX2) (N := 5) hx hb hts hin2 hown hE.1 hP 0 rfl rfl 0 (by decide) (hts (.fieldLink RX2 11 "Homekeys" "students" "[LHomekeys$Student;") (by decide +kernel)) (fun _ h9 => h9) rfl dX2_studentAt_14 ?_
      refine lv_iload_n hx hb dX2_studentAt_17 rfl (lv_at hl 1 rfl) ?_
      refine hk_aald1 hx hb hE hP 1 rfl (j := j) (by omega) (by omega) dX2_studentAt_18 ?_
      by_cases hjn : j < n
      · refine hk_topr (a := (a j 0)) (rfs_in hjn) ?_
        refine lv_astore_n (lv' := [(2, .ref (a j 0)), (0, .ref q0), (1, .int (nI j))]) hx hb dX2_studentAt_19 rfl hl (by decide) rfl (fun ls hl => ?_)
        refine lv_aload_n hx hb dX2_studentAt_20 rfl (lv_at hl 0 rfl) ?_
        refine lv_ifnull hx hb dX2_studentAt_21 ?_
        refine lv_aload_n hx hb dX2_studentAt_24 rfl (lv_at hl 0 rfl) ?_
        refine W.widen (k := 1) (n := 6) (Nat.le_of_ble_eq_true rfl) (Nat.le_of_ble_eq_true rfl) ?_
        exact vx_ret (W.aret (v := .ref (a j 0)) hx hb hr (Or.inl ⟨_, rfl⟩) (Or.inr ⟨_, rfl⟩) (fun t ht hW => ⟨by rw [nI_clamp (by omega)], bd_nI hjn (by omega), ht⟩) (fun _ h => nomatch h) dX2_studentAt_25)
      · refine hk_topn (rfs_out hjn) ?_
        refine lv_astore_nN (lv' := [(2, .null), (0, .ref q0), (1, .int (nI j))]) hx hb dX2_studentAt_19 rfl hl (by decide) rfl (fun ls hl => ?_)
        refine lv_aload_nN hx hb dX2_studentAt_20 rfl (lv_at hl 0 rfl) ?_
        refine lv_ifnullN (tgt := 26) hx hb dX2_studentAt_21 (by decide) ?_
        exact hk_throw (G0 := G0) hx hb hfl (cls := "java/lang/IndexOutOfBoundsException") (text := "no such student") (ik := 102) (is := 178) (ic := 106) (k := 1) hown (by decide +kernel) (hts (.classLink RX2 102 "java/lang/IndexOutOfBoundsException") (by decide +kernel)) (hts (.initialized "java/lang/IndexOutOfBoundsException") (by decide +kernel)) (fun w hw => hts w (List.mem_cons_of_mem _ (List.mem_append_right _ hw))) hk_ng1 hk_ot1 hE hH (List.mem_of_getElem? (i := 1) rfl) (hl.1.trans hml.symm) dX2_studentAt_26 dX2_studentAt_29 dX2_studentAt_30 dX2_studentAt_32 dX2_studentAt_35 hout (Nat.le_of_ble_eq_true rfl) (Nat.le_of_ble_eq_true rfl) (Nat.le_of_ble_eq_true rfl) (Nat.le_of_ble_eq_true rfl) hlocks ⟨rfl, bd_not hjn (by omega) (by omega)⟩ (Nat.le_of_ble_eq_true rfl) (Nat.le_of_ble_eq_true rfl)

set_option maxHeartbeats 4000000 in
set_option maxRecDepth 100000 in
theorem c_X2_contestAt (l : Launch) (hfl : l.flags = flags0) (D : va_G) (ct : Nat → ClassId) (sa : Nat → Nat) (G0 : Nat) (q0 q1 q2 q3 q4 n : Nat) (x3 : Int32) (a : Nat → Nat → Nat) (x : Int32) (hn : n ≤ 6) : vx_Met l yX2_contestAt wsX2_contestAt ({ frames := 6, cells := 1, slots := 6, locals := 82 }) (hkPx D ct sa G0 [.ref q0, .int x] (fun H => va_P D vwCl [(q0, .inr (2, [.ref q1, .ref q2, .ref q3, .int x3, .ref q4])), (q2, .inl (ct 2, 6, .inr (.inr (.inr (.inr (rfs n a))))))] H)) (hkR (some (.ref (a x.toNatClampNeg 0))) (¬ bd x n)) (hkXC (fun E => E = "java/lang/IndexOutOfBoundsException" ∧ bd x n)) 1 6 (fun _ => False) := by
  refine vx_ofW (cc := cX2_contestAt) (maxL := 3) (ret := (some (.object "Homekeys$Contest"))) (by decide) rfl ?_
  intro p e s m args below meth c s₁ B hml hout hv
  obtain ⟨rfl, hE, hH, hP⟩ := hv
  have hx := B.exec
  have hb := B.bytes
  have hr := B.returns
  have hts := atoms_spec (ws := wsX2_contestAt) B.pre
  have hown : s.vm.findClass RX2 = some m.cls := findClass_of_methodNamed B.named
  have hlocks := B.notSynchronized
  have hin2 : ∀ w ∈ wsX20, w ∈ wsX2_contestAt := by decide +kernel
  have hl := lv_entry ([.ref q0, .int x]) (n := 3) (Nat.le_of_ble_eq_true rfl)
  rw [lg_entry_eq]
  generalize (lg_sl ([.ref q0, .int x]) ++ List.replicate (3 - (lg_sl ([.ref q0, .int x])).length) Slot.unset).toArray = ls at hl ⊢
  have hl : lv_has ls 3 [(0, .ref q0), (1, .int x)] := hl
  refine lv_iload_n hx hb dX2_contestAt_0 rfl (lv_at hl 1 rfl) ?_
  refine lv_if_lt (tgt := 26) hx hb dX2_contestAt_1 (by decide) (fun hc => ?_) (fun hc0 => ?_)
  · exact hk_throw (G0 := G0) hx hb hfl (cls := "java/lang/IndexOutOfBoundsException") (text := "no such contest") (ik := 102) (is := 180) (ic := 106) (k := 11) hown (by decide +kernel) (hts (.classLink RX2 102 "java/lang/IndexOutOfBoundsException") (by decide +kernel)) (hts (.initialized "java/lang/IndexOutOfBoundsException") (by decide +kernel)) (fun w hw => hts w (List.mem_cons_of_mem _ (List.mem_append_right _ hw))) hk_ng1 hk_ot1 hE hH (List.mem_of_getElem? (i := 11) rfl) (hl.1.trans hml.symm) dX2_contestAt_26 dX2_contestAt_29 dX2_contestAt_30 dX2_contestAt_32 dX2_contestAt_35 hout (Nat.le_of_ble_eq_true rfl) (Nat.le_of_ble_eq_true rfl) (Nat.le_of_ble_eq_true rfl) (Nat.le_of_ble_eq_true rfl) hlocks ⟨rfl, Or.inl hc⟩ (Nat.le_of_ble_eq_true rfl) (Nat.le_of_ble_eq_true rfl)
  · refine lv_iload_n hx hb dX2_contestAt_4 rfl (lv_at hl 1 rfl) ?_
    refine lv_aload_n hx hb dX2_contestAt_5 rfl (lv_at hl 0 rfl) ?_
    refine va_get (D := D) (ci := 2) (v := .ref q2) (C := RX2) (T := TX2) (N := 5) hx hb hts hin2 hown hE.1 hP 0 rfl rfl 1 (by decide) (hts (.fieldLink RX2 17 "Homekeys" "contests" "[LHomekeys$Contest;") (by decide +kernel)) (fun _ h9 => h9) rfl dX2_contestAt_6 ?_
    refine hk_alen2 hx hb hE hP 1 rfl dX2_contestAt_9 ?_
    refine lv_icmp_ge (tgt := 26) hx hb dX2_contestAt_10 (by decide) (fun hc1 => ?_) (fun hc1 => ?_)
    · exact hk_throw (G0 := G0) hx hb hfl (cls := "java/lang/IndexOutOfBoundsException") (text := "no such contest") (ik := 102) (is := 180) (ic := 106) (k := 11) hown (by decide +kernel) (hts (.classLink RX2 102 "java/lang/IndexOutOfBoundsException") (by decide +kernel)) (hts (.initialized "java/lang/IndexOutOfBoundsException") (by decide +kernel)) (fun w hw => hts w (List.mem_cons_of_mem _ (List.mem_append_right _ hw))) hk_ng1 hk_ot1 hE hH (List.mem_of_getElem? (i := 11) rfl) (hl.1.trans hml.symm) dX2_contestAt_26 dX2_contestAt_29 dX2_contestAt_30 dX2_contestAt_32 dX2_contestAt_35 hout (Nat.le_of_ble_eq_true rfl) (Nat.le_of_ble_eq_true rfl) (Nat.le_of_ble_eq_true rfl) (Nat.le_of_ble_eq_true rfl) hlocks ⟨rfl, bd_le hn (bd_ge (by decide) hc1)⟩ (Nat.le_of_ble_eq_true rfl) (Nat.le_of_ble_eq_true rfl)
    · obtain ⟨j, hj, rfl⟩ := hk_ix (by decide) hc0 hc1
      refine lv_aload_n hx hb dX2_contestAt_13 rfl (lv_at hl 0 rfl) ?_
      refine va_get (D := D) (ci := 2) (v := .ref q2) (C := RX2) (T := TX2) (N := 5) hx hb hts hin2 hown hE.1 hP 0 rfl rfl 1 (by decide) (hts (.fieldLink RX2 17 "Homekeys" "contests" "[LHomekeys$Contest;") (by decide +kernel)) (fun _ h9 => h9) rfl dX2_contestAt_14 ?_
      refine lv_iload_n hx hb dX2_contestAt_17 rfl (lv_at hl 1 rfl) ?_
      refine hk_aald2 hx hb hE hP 1 rfl (j := j) (by omega) (by omega) dX2_contestAt_18 ?_
      by_cases hjn : j < n
      · refine hk_topr (a := (a j 0)) (rfs_in hjn) ?_
        refine lv_astore_n (lv' := [(2, .ref (a j 0)), (0, .ref q0), (1, .int (nI j))]) hx hb dX2_contestAt_19 rfl hl (by decide) rfl (fun ls hl => ?_)
        refine lv_aload_n hx hb dX2_contestAt_20 rfl (lv_at hl 0 rfl) ?_
        refine lv_ifnull hx hb dX2_contestAt_21 ?_
        refine lv_aload_n hx hb dX2_contestAt_24 rfl (lv_at hl 0 rfl) ?_
        refine W.widen (k := 1) (n := 6) (Nat.le_of_ble_eq_true rfl) (Nat.le_of_ble_eq_true rfl) ?_
        exact vx_ret (W.aret (v := .ref (a j 0)) hx hb hr (Or.inl ⟨_, rfl⟩) (Or.inr ⟨_, rfl⟩) (fun t ht hW => ⟨by rw [nI_clamp (by omega)], bd_nI hjn (by omega), ht⟩) (fun _ h => nomatch h) dX2_contestAt_25)
      · refine hk_topn (rfs_out hjn) ?_
        refine lv_astore_nN (lv' := [(2, .null), (0, .ref q0), (1, .int (nI j))]) hx hb dX2_contestAt_19 rfl hl (by decide) rfl (fun ls hl => ?_)
        refine lv_aload_nN hx hb dX2_contestAt_20 rfl (lv_at hl 0 rfl) ?_
        refine lv_ifnullN (tgt := 26) hx hb dX2_contestAt_21 (by decide) ?_
        exact hk_throw (G0 := G0) hx hb hfl (cls := "java/lang/IndexOutOfBoundsException") (text := "no such contest") (ik := 102) (is := 180) (ic := 106) (k := 11) hown (by decide +kernel) (hts (.classLink RX2 102 "java/lang/IndexOutOfBoundsException") (by decide +kernel)) (hts (.initialized "java/lang/IndexOutOfBoundsException") (by decide +kernel)) (fun w hw => hts w (List.mem_cons_of_mem _ (List.mem_append_right _ hw))) hk_ng1 hk_ot1 hE hH (List.mem_of_getElem? (i := 11) rfl) (hl.1.trans hml.symm) dX2_contestAt_26 dX2_contestAt_29 dX2_contestAt_30 dX2_contestAt_32 dX2_contestAt_35 hout (Nat.le_of_ble_eq_true rfl) (Nat.le_of_ble_eq_true rfl) (Nat.le_of_ble_eq_true rfl) (Nat.le_of_ble_eq_true rfl) hlocks ⟨rfl, bd_not hjn (by omega) (by omega)⟩ (Nat.le_of_ble_eq_true rfl) (Nat.le_of_ble_eq_true rfl)

set_option maxHeartbeats 4000000 in
set_option maxRecDepth 100000 in
theorem c_X2_entrantTime (l : Launch) (hfl : l.flags = flags0) (D : va_G) (ct : Nat → ClassId) (sa : Nat → Nat) (G0 : Nat) (q0 q1 q2 q3 w : Nat) (X : Nat → Nat) (x : Int32) (hw : w ≤ 5) (h1 : ∀ j, j < w → 2 ≤ X j ∧ X j ≤ 200) (h2 : ∀ j, w ≤ j → X j = 0) : vx_Met l yX2_entrantTime wsX2_entrantTime ({ frames := 6, cells := 1, slots := 6, locals := 82 }) (hkPx D ct sa G0 [.ref q0, .int x] (fun H => va_P D vwCl [(q0, .inr (0, [.ref q1, .ref q2, .ref q3])), (q1, .inl (ct 0, 5, .inl (fun j => nI (X j))))] H)) (hkR (some (.int (nI (X x.toNatClampNeg)))) (¬ bd x w)) (hkXC (fun E => E = "java/lang/IndexOutOfBoundsException" ∧ bd x w)) 1 6 (fun _ => False) := by
  refine vx_ofW (cc := cX2_entrantTime) (maxL := 3) (ret := (some .int)) (by decide) rfl ?_
  intro p e s m args below meth c s₁ B hml hout hv
  obtain ⟨rfl, hE, hH, hP⟩ := hv
  have hx := B.exec
  have hb := B.bytes
  have hr := B.returns
  have hts := atoms_spec (ws := wsX2_entrantTime) B.pre
  have hown : s.vm.findClass RX2 = some m.cls := findClass_of_methodNamed B.named
  have hlocks := B.notSynchronized
  have hin0 : ∀ w ∈ wsX00, w ∈ wsX2_entrantTime := by decide +kernel
  have hl := lv_entry ([.ref q0, .int x]) (n := 3) (Nat.le_of_ble_eq_true rfl)
  rw [lg_entry_eq]
  generalize (lg_sl ([.ref q0, .int x]) ++ List.replicate (3 - (lg_sl ([.ref q0, .int x])).length) Slot.unset).toArray = ls at hl ⊢
  have hl : lv_has ls 3 [(0, .ref q0), (1, .int x)] := hl
  refine lv_aload_n hx hb dX2_entrantTime_0 rfl (lv_at hl 0 rfl) ?_
  refine va_getN (D := D) (host := RX2) (ci := 0) (v := .ref q1) (C := RX0) (T := TX0) (N := 3) hx hb hts hin0 hown hE.1 hP 0 rfl rfl 0 (by decide) (hE.use hkN_X2_182) (fun _ h9 => h9) rfl dX2_entrantTime_1 ?_
  refine lv_iload_n hx hb dX2_entrantTime_4 rfl (lv_at hl 1 rfl) ?_
  refine hk_R (rest := []) (va_Run.run (va_runS (As := [.ref q1, .int x]) (rest := []) ⟨hx, hb, hml, hown, hts⟩ (c_X2_at l D ct sa q1 5 (fun j => nI (X j)) x (by decide)) (va_cwS 2 hts gX2_entrantTime_X2_at rfl rfl rfl (by decide +kernel) ⟨Nat.le_of_ble_eq_true rfl, Nat.le_of_ble_eq_true rfl⟩) (hk_preS hE (hP.sub (ws' := [(q1, .inl (ct 0, 5, .inl (fun j => nI (X j))))]) [1] rfl)) rfl rfl hl.1 rfl (lv_room (Nat.le_of_ble_eq_true rfl)) dX2_entrantTime_5 ⟨Nat.zero_le _, Nat.zero_le _⟩)) ?_
  refine lv_istore_n (lv' := [(2, .int (hkAt 5 (fun j => nI (X j)) x)), (0, .ref q0), (1, .int x)]) hx hb dX2_entrantTime_8 rfl hl (by decide) rfl (fun ls hl => ?_)
  refine lv_iload_n hx hb dX2_entrantTime_9 rfl (lv_at hl 0 rfl) ?_
  refine lv_if_gt (tgt := 23) hx hb dX2_entrantTime_10 (by decide) (fun hc => ?_) (fun hc => ?_)
  · obtain ⟨-, he1, he2⟩ := (hk_ent (x := x) hw h1 h2).resolve_right (fun z => z.1 hc)
    refine lv_iload_n hx hb dX2_entrantTime_23 rfl (lv_at hl 0 rfl) ?_
    refine W.widen (k := 1) (n := 6) (Nat.le_of_ble_eq_true rfl) (Nat.le_of_ble_eq_true rfl) ?_
    exact vx_ret (W.iret (v := hkAt 5 (fun j => nI (X j)) x) hx hb hr (fun t ht hW => ⟨by rw [he2], he1, ht⟩) (fun _ h => nomatch h) dX2_entrantTime_24)
  · exact hk_throw (G0 := G0) hx hb hfl (cls := "java/lang/IndexOutOfBoundsException") (text := "no such student of the contest") (ik := 102) (is := 185) (ic := 106) (k := 12) hown (by decide +kernel) (hts (.classLink RX2 102 "java/lang/IndexOutOfBoundsException") (by decide +kernel)) (hts (.initialized "java/lang/IndexOutOfBoundsException") (by decide +kernel)) (fun w hw => hts w (List.mem_cons_of_mem _ (List.mem_append_right _ hw))) hk_ng1 hk_ot1 hE hH (List.mem_of_getElem? (i := 12) rfl) (hl.1.trans hml.symm) dX2_entrantTime_13 dX2_entrantTime_16 dX2_entrantTime_17 dX2_entrantTime_19 dX2_entrantTime_22 hout (Nat.le_of_ble_eq_true rfl) (Nat.le_of_ble_eq_true rfl) (Nat.le_of_ble_eq_true rfl) (Nat.le_of_ble_eq_true rfl) hlocks ⟨rfl, (hk_ent hw h1 h2).elim (fun z => absurd z.1 hc) (fun z => z.2)⟩ (Nat.le_of_ble_eq_true rfl) (Nat.le_of_ble_eq_true rfl)
