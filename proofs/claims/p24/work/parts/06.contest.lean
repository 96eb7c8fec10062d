def hasR (Z : Nat → Int32) (i : Nat) : Int32 := if 0 < Z i then 1 else 0
def hkTo (X : Nat → Nat) (Z : Nat → Int32) (i : Nat) (x : Int32) : Int32 := if x = 1 then Z i else if x = 2 then scr X Z i else nI (rk X Z i 5)
set_option maxHeartbeats 4000000 in
set_option maxRecDepth 100000 in
theorem c_X0_init (l : Launch) (D : va_G) (ct : Nat → ClassId) (sa : Nat → Nat) (q0 sz : Nat) : Met l yX0_init wsX0_init ({ frames := 1, cells := 3, slots := 15, locals := 12 }) (hkPc D ct sa [.ref q0] (fun H => H.size = sz ∧ va_P D vwCl [(q0, .inr (0, [.null, .null, .null]))] H ∧ va_D (fun _ => True) [(q0, .inr (0, [.null, .null, .null]))])) (va_Qv (fun _ : Nat × Nat × Nat => True) (hkB D (va_A [(q0, .inr (0, [.null, .null, .null]))] sz) (fun u => [(q0, .inr (0, [.ref u.1, .ref u.2.1, .ref u.2.2])), (u.1, .inl (ct 0, 5, .inl (fun _ => 0))), (u.2.1, .inl (ct 0, 5, .inl (fun _ => 0))), (u.2.2, .inl (ct 0, 5, .inl (fun _ => 0)))])) (va_A [(q0, .inr (0, [.null, .null, .null]))] sz)) 3 15 (va_A [(q0, .inr (0, [.null, .null, .null]))] sz) := by
  refine Met.ofW (cc := cX0_init) (maxL := 1) (ret := none) (by decide) rfl ?_
  intro p e s m args below meth c s₁ B hml hv
  obtain ⟨rfl, hE, hp⟩ := hv
  have hx := B.exec
  have hb := B.bytes
  have hr := B.returns
  have hts := atoms_spec (ws := wsX0_init) B.pre
  have hown : s.vm.findClass RX0 = some m.cls := findClass_of_methodNamed B.named
  have hlocks := B.notSynchronized
  have hin0 : ∀ w ∈ wsX00, w ∈ wsX0_init := by decide +kernel
  have hin : meth.name = "<init>" := (name_of_methodNamed B.named B.method).1
  obtain ⟨hsz, hP, hD0⟩ := hp
  subst hsz
  have hD := hD0.self (sz := s.heap.size)
  generalize hAe : va_A [(q0, .inr (0, [.null, .null, .null]))] s.heap.size = A at hD ⊢
  have hA : ∀ q : Nat, s.heap.size ≤ q → A q := fun q h => by rw [← hAe]; exact Or.inr h
  have hS : va_S A s.heap s.heap [] := va_S.rf
  have hl := lv_entry ([.ref q0]) (n := 1) (Nat.le_of_ble_eq_true rfl)
  rw [lg_entry_eq]
  generalize (lg_sl ([.ref q0]) ++ List.replicate (1 - (lg_sl ([.ref q0])).length) Slot.unset).toArray = ls at hl ⊢
  have hl : lv_has ls 1 [(0, .ref q0)] := hl
  refine lv_aload_n hx hb dX0_init_0 rfl (lv_at hl 0 rfl) ?_
  refine W.objInit hx hb hown (hts (.methodLink RX0 3 objectInit) (by decide +kernel)) (hts (.instanceMethod objectInit) (by decide +kernel)) (hts (.code objectInit ⟨#[0xb1]⟩ 1 none) (by decide +kernel)) rfl (by rw [hml]; exact hl.1) rfl dX0_init_1 (Nat.le_of_ble_eq_true rfl) (Nat.le_of_ble_eq_true rfl) ?_
  refine W.eq (g2 := F0 m 4 ls []) rfl ?_
  refine lv_aload_n hx hb dX0_init_4 rfl (lv_at hl 0 rfl) ?_
  refine lv_iconst (v := nI 5) hx hb dX0_init_5 (by decide) ?_
  refine hk_newi hx hb (hts (.arrayClass .int) (by decide +kernel)) hE hP hD hS hA (n := 5) (by decide) (by decide) (Nat.le_of_ble_eq_true rfl) (Nat.le_of_ble_eq_true rfl) dX0_init_6 (fun q1 H hP hD hS => ?_)
  have hP : va_P D vwCl [(q0, .inr (0, [.null, .null, .null])), (q1, .inl (ct 0, 5, .inl (fun _ => 0)))] H := hP
  have hD : va_D A [(q0, .inr (0, [.null, .null, .null])), (q1, .inl (ct 0, 5, .inl (fun _ => 0)))] := hD
  refine va_putF (D := D) (ci := 0) (v := .ref q1) (ty := .array .int) (C := RX0) (T := TX0) (N := 3) hx hb hts hin0 tyX0 tyX0_ok nmX0 hown hE.1 hP hD hS 0 rfl rfl 0 (by decide) (hts (.fieldLink RX0 9 "Homekeys$Contest" "times" "[I") (by decide +kernel)) (fun _ h9 => h9) rfl hin rfl (by decide +kernel) rfl rfl (Nat.le_of_ble_eq_true rfl) dX0_init_8 (fun H locs hP hD hS => ?_)
  have hP : va_P D vwCl [(q0, .inr (0, [.ref q1, .null, .null])), (q1, .inl (ct 0, 5, .inl (fun _ => 0)))] H := hP
  have hD : va_D A [(q0, .inr (0, [.ref q1, .null, .null])), (q1, .inl (ct 0, 5, .inl (fun _ => 0)))] := hD
  refine lv_aload_n hx hb dX0_init_11 rfl (lv_at hl 0 rfl) ?_
  refine lv_iconst (v := nI 5) hx hb dX0_init_12 (by decide) ?_
  refine hk_newi hx hb (hts (.arrayClass .int) (by decide +kernel)) hE hP hD hS hA (n := 5) (by decide) (by decide) (Nat.le_of_ble_eq_true rfl) (Nat.le_of_ble_eq_true rfl) dX0_init_13 (fun q2 H hP hD hS => ?_)
  have hP : va_P D vwCl [(q0, .inr (0, [.ref q1, .null, .null])), (q1, .inl (ct 0, 5, .inl (fun _ => 0))), (q2, .inl (ct 0, 5, .inl (fun _ => 0)))] H := hP
  have hD : va_D A [(q0, .inr (0, [.ref q1, .null, .null])), (q1, .inl (ct 0, 5, .inl (fun _ => 0))), (q2, .inl (ct 0, 5, .inl (fun _ => 0)))] := hD
  refine va_putF (D := D) (ci := 0) (v := .ref q2) (ty := .array .int) (C := RX0) (T := TX0) (N := 3) hx hb hts hin0 tyX0 tyX0_ok nmX0 hown hE.1 hP hD hS 0 rfl rfl 1 (by decide) (hts (.fieldLink RX0 15 "Homekeys$Contest" "ticks" "[I") (by decide +kernel)) (fun _ h9 => h9) rfl hin rfl (by decide +kernel) rfl rfl (Nat.le_of_ble_eq_true rfl) dX0_init_15 (fun H locs hP hD hS => ?_)
  have hP : va_P D vwCl [(q0, .inr (0, [.ref q1, .ref q2, .null])), (q1, .inl (ct 0, 5, .inl (fun _ => 0))), (q2, .inl (ct 0, 5, .inl (fun _ => 0)))] H := hP
  have hD : va_D A [(q0, .inr (0, [.ref q1, .ref q2, .null])), (q1, .inl (ct 0, 5, .inl (fun _ => 0))), (q2, .inl (ct 0, 5, .inl (fun _ => 0)))] := hD
  refine lv_aload_n hx hb dX0_init_18 rfl (lv_at hl 0 rfl) ?_
  refine lv_iconst (v := nI 5) hx hb dX0_init_19 (by decide) ?_
  refine hk_newi hx hb (hts (.arrayClass .int) (by decide +kernel)) hE hP hD hS hA (n := 5) (by decide) (by decide) (Nat.le_of_ble_eq_true rfl) (Nat.le_of_ble_eq_true rfl) dX0_init_20 (fun q3 H hP hD hS => ?_)
  have hP : va_P D vwCl [(q0, .inr (0, [.ref q1, .ref q2, .null])), (q1, .inl (ct 0, 5, .inl (fun _ => 0))), (q2, .inl (ct 0, 5, .inl (fun _ => 0))), (q3, .inl (ct 0, 5, .inl (fun _ => 0)))] H := hP
  have hD : va_D A [(q0, .inr (0, [.ref q1, .ref q2, .null])), (q1, .inl (ct 0, 5, .inl (fun _ => 0))), (q2, .inl (ct 0, 5, .inl (fun _ => 0))), (q3, .inl (ct 0, 5, .inl (fun _ => 0)))] := hD
  refine va_putF (D := D) (ci := 0) (v := .ref q3) (ty := .array .int) (C := RX0) (T := TX0) (N := 3) hx hb hts hin0 tyX0 tyX0_ok nmX0 hown hE.1 hP hD hS 0 rfl rfl 2 (by decide) (hts (.fieldLink RX0 18 "Homekeys$Contest" "scores" "[I") (by decide +kernel)) (fun _ h9 => h9) rfl hin rfl (by decide +kernel) rfl rfl (Nat.le_of_ble_eq_true rfl) dX0_init_22 (fun H locs hP hD hS => ?_)
  have hP : va_P D vwCl [(q0, .inr (0, [.ref q1, .ref q2, .ref q3])), (q1, .inl (ct 0, 5, .inl (fun _ => 0))), (q2, .inl (ct 0, 5, .inl (fun _ => 0))), (q3, .inl (ct 0, 5, .inl (fun _ => 0)))] H := hP
  have hD : va_D A [(q0, .inr (0, [.ref q1, .ref q2, .ref q3])), (q1, .inl (ct 0, 5, .inl (fun _ => 0))), (q2, .inl (ct 0, 5, .inl (fun _ => 0))), (q3, .inl (ct 0, 5, .inl (fun _ => 0)))] := hD
  have hP9 : va_P D vwCl [(q0, .inr (0, [.ref q1, .ref q2, .ref q3])), (q1, .inl (ct 0, 5, .inl (fun _ => 0))), (q2, .inl (ct 0, 5, .inl (fun _ => 0))), (q3, .inl (ct 0, 5, .inl (fun _ => 0)))] H := hP
  have hD9 : va_D A [(q0, .inr (0, [.ref q1, .ref q2, .ref q3])), (q1, .inl (ct 0, 5, .inl (fun _ => 0))), (q2, .inl (ct 0, 5, .inl (fun _ => 0))), (q3, .inl (ct 0, 5, .inl (fun _ => 0)))] := hD
  exact W.vret hx hb hr (fun t ht hW => ⟨⟨(q1, q2, q3), rfl, trivial, by rw [ht]; exact hP9, hD9⟩, hS.F ht⟩) hS.2.2 dX0_init_25

set_option maxHeartbeats 4000000 in
set_option maxRecDepth 100000 in
theorem c_X0_hasResult (l : Launch) (D : va_G) (ct : Nat → ClassId) (sa : Nat → Nat) (q0 q1 q2 q3 : Nat) (X : Nat → Nat) (Z : Nat → Int32) (i : Nat) (hi : i < 5) : Met l yX0_hasResult wsX0_hasResult ({ frames := 1, cells := 0, slots := 0, locals := 21 }) (hkPc D ct sa [.ref q0, .int (nI i)] (fun H => va_P D vwCl [(q0, .inr (0, [.ref q1, .ref q2, .ref q3])), (q1, .inl (ct 0, 5, .inl (fun j => nI (X j)))), (q2, .inl (ct 0, 5, .inl Z)), (q3, .inl (ct 0, 5, .inl (scr X Z)))] H)) (QcRead (hasR Z i)) 0 0 (fun _ => False) := by
  refine Met.ofW (cc := cX0_hasResult) (maxL := 2) (ret := (some .boolean)) (by decide) rfl ?_
  intro p e s m args below meth c s₁ B hml hv
  obtain ⟨rfl, hE, hP⟩ := hv
  have hx := B.exec
  have hb := B.bytes
  have hr := B.returns
  have hts := atoms_spec (ws := wsX0_hasResult) B.pre
  have hown : s.vm.findClass RX0 = some m.cls := findClass_of_methodNamed B.named
  have hlocks := B.notSynchronized
  have hin0 : ∀ w ∈ wsX00, w ∈ wsX0_hasResult := by decide +kernel
  have hl := lv_entry ([.ref q0, .int (nI i)]) (n := 2) (Nat.le_of_ble_eq_true rfl)
  rw [lg_entry_eq]
  generalize (lg_sl ([.ref q0, .int (nI i)]) ++ List.replicate (2 - (lg_sl ([.ref q0, .int (nI i)])).length) Slot.unset).toArray = ls at hl ⊢
  have hl : lv_has ls 2 [(0, .ref q0), (1, .int (nI i))] := hl
  refine lv_aload_n hx hb dX0_hasResult_0 rfl (lv_at hl 0 rfl) ?_
  refine va_get (D := D) (ci := 0) (v := .ref q2) (C := RX0) (T := TX0) (N := 3) hx hb hts hin0 hown hE.1 hP 0 rfl rfl 1 (by decide) (hts (.fieldLink RX0 15 "Homekeys$Contest" "ticks" "[I") (by decide +kernel)) (fun _ h9 => h9) rfl dX0_hasResult_1 ?_
  refine lv_iload_n hx hb dX0_hasResult_4 rfl (lv_at hl 1 rfl) ?_
  refine hk_R (rest := []) (va_Run.run (va_runSN (host := RX2) (As := [.ref q2, .int (nI i)]) (rest := []) ⟨hx, hb, hml, hown, hts⟩ (c_X2_at l D ct sa q2 5 (Z) (nI i) (by decide)) ⟨va_cnB 2 hts gX0_hasResult_X2_at_n21 rfl rfl rfl (hE.nw hkN_X0_21) (hts (.initialized RX2) (by decide +kernel)) (by decide +kernel) ⟨Nat.le_of_ble_eq_true rfl, Nat.le_of_ble_eq_true rfl⟩, hts (.static yX2_at) (by decide +kernel), trivial⟩ (hk_preS hE (hP.sub (ws' := [(q2, .inl (ct 0, 5, .inl Z))]) [2] rfl)) rfl rfl hl.1 rfl (lv_room (Nat.le_of_ble_eq_true rfl)) dX0_hasResult_5 ⟨Nat.zero_le _, Nat.zero_le _⟩)) ?_
  refine hk_top (y := Z i) (hkAt_in hi (by decide)) ?_
  refine lv_if_le (tgt := 15) hx hb dX0_hasResult_8 (by decide) (fun hc => ?_) (fun hc => ?_)
  · refine lv_iconst (v := nI 0) hx hb dX0_hasResult_15 (by decide) ?_
    exact W.zret (v := nI 0) hx hb hr rfl (fun t ht hW => ⟨by rw [hasR, if_neg (Int32.not_lt.mpr hc)]; rfl, ht⟩) (fun _ h => nomatch h) dX0_hasResult_16
  · refine lv_iconst (v := nI 1) hx hb dX0_hasResult_11 (by decide) ?_
    refine lv_goto (tgt := 16) hx hb dX0_hasResult_12 (by decide) ?_
    exact W.zret (v := nI 1) hx hb hr rfl (fun t ht hW => ⟨by rw [hasR, if_pos (Int32.not_le.mp hc)]; rfl, ht⟩) (fun _ h => nomatch h) dX0_hasResult_16

set_option maxHeartbeats 4000000 in
set_option maxRecDepth 100000 in
theorem c_X0_rankOf (l : Launch) (D : va_G) (ct : Nat → ClassId) (sa : Nat → Nat) (q0 q1 q2 q3 : Nat) (X : Nat → Nat) (Z : Nat → Int32) (i : Nat) (hi : i < 5) : Met l yX0_rankOf wsX0_rankOf ({ frames := 2, cells := 0, slots := 0, locals := 42 }) (hkPc D ct sa [.ref q0, .int (nI i)] (fun H => va_P D vwCl [(q0, .inr (0, [.ref q1, .ref q2, .ref q3])), (q1, .inl (ct 0, 5, .inl (fun j => nI (X j)))), (q2, .inl (ct 0, 5, .inl Z)), (q3, .inl (ct 0, 5, .inl (scr X Z)))] H)) (QcRead (nI (rk X Z i 5))) 0 0 (fun _ => False) := by
  refine Met.ofW (cc := cX0_rankOf) (maxL := 6) (ret := (some .int)) (by decide) rfl ?_
  intro p e s m args below meth c s₁ B hml hv
  obtain ⟨rfl, hE, hP⟩ := hv
  have hx := B.exec
  have hb := B.bytes
  have hr := B.returns
  have hts := atoms_spec (ws := wsX0_rankOf) B.pre
  have hown : s.vm.findClass RX0 = some m.cls := findClass_of_methodNamed B.named
  have hlocks := B.notSynchronized
  have hin0 : ∀ w ∈ wsX00, w ∈ wsX0_rankOf := by decide +kernel
  have hl := lv_entry ([.ref q0, .int (nI i)]) (n := 6) (Nat.le_of_ble_eq_true rfl)
  rw [lg_entry_eq]
  generalize (lg_sl ([.ref q0, .int (nI i)]) ++ List.replicate (6 - (lg_sl ([.ref q0, .int (nI i)])).length) Slot.unset).toArray = ls at hl ⊢
  have hl : lv_has ls 6 [(0, .ref q0), (1, .int (nI i))] := hl
  refine lv_aload_n hx hb dX0_rankOf_0 rfl (lv_at hl 0 rfl) ?_
  refine va_get (D := D) (ci := 0) (v := .ref q3) (C := RX0) (T := TX0) (N := 3) hx hb hts hin0 hown hE.1 hP 0 rfl rfl 2 (by decide) (hts (.fieldLink RX0 18 "Homekeys$Contest" "scores" "[I") (by decide +kernel)) (fun _ h9 => h9) rfl dX0_rankOf_1 ?_
  refine lv_iload_n hx hb dX0_rankOf_4 rfl (lv_at hl 1 rfl) ?_
  refine hk_R (rest := []) (va_Run.run (va_runSN (host := RX2) (As := [.ref q3, .int (nI i)]) (rest := []) ⟨hx, hb, hml, hown, hts⟩ (c_X2_at l D ct sa q3 5 (scr X Z) (nI i) (by decide)) ⟨va_cnB 2 hts gX0_rankOf_X2_at_n21 rfl rfl rfl (hE.nw hkN_X0_21) (hts (.initialized RX2) (by decide +kernel)) (by decide +kernel) ⟨Nat.le_of_ble_eq_true rfl, Nat.le_of_ble_eq_true rfl⟩, hts (.static yX2_at) (by decide +kernel), trivial⟩ (hk_preS hE (hP.sub (ws' := [(q3, .inl (ct 0, 5, .inl (scr X Z)))]) [3] rfl)) rfl rfl hl.1 rfl (lv_room (Nat.le_of_ble_eq_true rfl)) dX0_rankOf_5 ⟨Nat.zero_le _, Nat.zero_le _⟩)) ?_
  refine hk_top (y := scr X Z i) (hkAt_in hi (by decide)) ?_
  refine lv_istore_n (lv' := [(2, .int (scr X Z i)), (0, .ref q0), (1, .int (nI i))]) hx hb dX0_rankOf_8 rfl hl (by decide) rfl (fun ls hl => ?_)
  refine lv_iconst (v := nI 0) hx hb dX0_rankOf_9 (by decide) ?_
  refine lv_istore_n (lv' := [(3, .int (nI 0)), (2, .int (scr X Z i)), (0, .ref q0), (1, .int (nI i))]) hx hb dX0_rankOf_10 rfl hl (by decide) rfl (fun ls hl => ?_)
  refine lv_iconst (v := nI 0) hx hb dX0_rankOf_11 (by decide) ?_
  refine lv_istore (lv' := [(4, .int (nI 0)), (3, .int (nI 0)), (2, .int (scr X Z i)), (0, .ref q0), (1, .int (nI i))]) hx hb dX0_rankOf_12 hl (by decide) rfl (fun ls hl => ?_)
  have loop : ∀ (k : Nat) (r : Nat), 5 < r + k → r ≤ 5 → ∀ (ls : Array Slot), lv_has ls 6 [(0, .ref q0), (1, .int (nI i)), (2, .int (scr X Z i)), (3, .int (nI (rk X Z i r))), (4, .int (nI r))] → W p l e (headSpec wsX0_rankOf ({ frames := 2, cells := 0, slots := 0, locals := 42 })).room s m ([.ref q0, .int (nI i)] : List Value).toArray below meth c s.heap [] 0 0 (MQ below (QcRead (nI (rk X Z i 5))) ([.ref q0, .int (nI i)] : List Value).toArray s 0 0 (fun _ => False)) (F0 m 14 ls []) := by
    intro k
    induction k with
    | zero => intro r hk; intros; exact absurd hk (by omega)
    | succ k ih_loop =>
      intro r hk hr9 ls hl
      refine lv_iload hx hb dX0_rankOf_14 (lv_at hl 4 rfl) ?_
      refine lv_iconst (v := nI 5) hx hb dX0_rankOf_16 (by decide) ?_
      refine hk_geN (tgt := 67) hx hb (by omega) (by omega) dX0_rankOf_17 (by decide) (fun hc => ?_) (fun hc => ?_)
      · obtain rfl : r = 5 := by omega
        refine lv_iload_n hx hb dX0_rankOf_67 rfl (lv_at hl 3 rfl) ?_
        exact W.iret (v := nI (rk X Z i 5)) hx hb hr (fun t ht hW => ⟨rfl, ht⟩) (fun _ h => nomatch h) dX0_rankOf_68
      · refine lv_aload_n hx hb dX0_rankOf_20 rfl (lv_at hl 0 rfl) ?_
        refine va_get (D := D) (ci := 0) (v := .ref q3) (C := RX0) (T := TX0) (N := 3) hx hb hts hin0 hown hE.1 hP 0 rfl rfl 2 (by decide) (hts (.fieldLink RX0 18 "Homekeys$Contest" "scores" "[I") (by decide +kernel)) (fun _ h9 => h9) rfl dX0_rankOf_21 ?_
        refine lv_iload hx hb dX0_rankOf_24 (lv_at hl 4 rfl) ?_
        refine hk_R (rest := []) (va_Run.run (va_runSN (host := RX2) (As := [.ref q3, .int (nI r)]) (rest := []) ⟨hx, hb, hml, hown, hts⟩ (c_X2_at l D ct sa q3 5 (scr X Z) (nI r) (by decide)) ⟨va_cnB 2 hts gX0_rankOf_X2_at_n21 rfl rfl rfl (hE.nw hkN_X0_21) (hts (.initialized RX2) (by decide +kernel)) (by decide +kernel) ⟨Nat.le_of_ble_eq_true rfl, Nat.le_of_ble_eq_true rfl⟩, hts (.static yX2_at) (by decide +kernel), trivial⟩ (hk_preS hE (hP.sub (ws' := [(q3, .inl (ct 0, 5, .inl (scr X Z)))]) [3] rfl)) rfl rfl hl.1 rfl (lv_room (Nat.le_of_ble_eq_true rfl)) dX0_rankOf_26 ⟨Nat.zero_le _, Nat.zero_le _⟩)) ?_
        refine hk_top (y := scr X Z r) (hkAt_in hc (by decide)) ?_
        refine lv_istore (lv' := [(5, .int (scr X Z r)), (0, .ref q0), (1, .int (nI i)), (2, .int (scr X Z i)), (3, .int (nI (rk X Z i r))), (4, .int (nI r))]) hx hb dX0_rankOf_29 hl (by decide) rfl (fun ls hl => ?_)
        refine lv_aload_n hx hb dX0_rankOf_31 rfl (lv_at hl 1 rfl) ?_
        refine lv_iload hx hb dX0_rankOf_32 (lv_at hl 5 rfl) ?_
        refine hk_R (rest := []) (va_Run.run (va_runV (As := [.int (nI r)]) (rest := []) ⟨hx, hb, hml, hown, hts⟩ (c_X0_hasResult l D ct sa q0 q1 q2 q3 X Z r hc) (cwV 1 hts gX0_rankOf_X0_hasResult rfl rfl rfl (by decide +kernel) ⟨Nat.le_of_ble_eq_true rfl, Nat.le_of_ble_eq_true rfl⟩) (hk_preV hE (va_recv hE.1 hP (ci := 0) (q0 := 0) rfl rfl) hP) rfl rfl hl.1 rfl (lv_room (Nat.le_of_ble_eq_true rfl)) dX0_rankOf_34 ⟨Nat.zero_le _, Nat.zero_le _⟩)) ?_
        by_cases hz : 0 < Z r
        · refine hk_top (y := 1) (if_pos hz) ?_
          refine lv_if_eq (tgt := 61) hx hb dX0_rankOf_37 (by decide) (fun h0 => ?_) (fun h0 => ?_)
          · exact absurd h0 (by decide)
          · refine lv_iload hx hb dX0_rankOf_40 (lv_at hl 0 rfl) ?_
            refine lv_iload_n hx hb dX0_rankOf_42 rfl (lv_at hl 3 rfl) ?_
            refine lv_icmp_lt (tgt := 58) hx hb dX0_rankOf_43 (by decide) (fun h1 => ?_) (fun h1 => ?_)
            · refine lv_iinc (v := nI (rk X Z i r + 1)) (lv' := [(3, .int (nI (rk X Z i r + 1))), (5, .int (scr X Z r)), (0, .ref q0), (1, .int (nI i)), (2, .int (scr X Z i)), (4, .int (nI r))]) hx hb dX0_rankOf_58 hl (k := 4) rfl (nI_add _ _) (by decide) rfl (fun ls hl => ?_)
              refine lv_iinc (v := nI (r + 1)) (lv' := [(4, .int (nI (r + 1))), (3, .int (nI (rk X Z i r + 1))), (5, .int (scr X Z r)), (0, .ref q0), (1, .int (nI i)), (2, .int (scr X Z i))]) hx hb dX0_rankOf_61 hl (k := 5) rfl (nI_add _ _) (by decide) rfl (fun ls hl => ?_)
              refine lv_goto (tgt := 14) hx hb dX0_rankOf_64 (by decide) ?_
              exact ih_loop (r + 1) (by omega) (by omega) ls (by rw [rk, if_pos (⟨hz, Or.inl h1⟩)]; exact lv_sub hl [3, 4, 5, 1, 0] rfl)
            · refine lv_iload hx hb dX0_rankOf_46 (lv_at hl 0 rfl) ?_
              refine lv_iload_n hx hb dX0_rankOf_48 rfl (lv_at hl 3 rfl) ?_
              refine lv_icmp_ne (tgt := 61) hx hb dX0_rankOf_49 (by decide) (fun h2 => ?_) (fun h2 => ?_)
              · refine lv_iinc (v := nI (r + 1)) (lv' := [(4, .int (nI (r + 1))), (5, .int (scr X Z r)), (0, .ref q0), (1, .int (nI i)), (2, .int (scr X Z i)), (3, .int (nI (rk X Z i r)))]) hx hb dX0_rankOf_61 hl (k := 5) rfl (nI_add _ _) (by decide) rfl (fun ls hl => ?_)
                refine lv_goto (tgt := 14) hx hb dX0_rankOf_64 (by decide) ?_
                exact ih_loop (r + 1) (by omega) (by omega) ls (by rw [rk, if_neg (fun z => z.2.elim h1 (fun y => h2 y.1))]; exact lv_sub hl [2, 3, 4, 5, 0] rfl)
              · refine lv_iload hx hb dX0_rankOf_52 (lv_at hl 5 rfl) ?_
                refine lv_iload_n hx hb dX0_rankOf_54 rfl (lv_at hl 2 rfl) ?_
                refine hk_geN (tgt := 61) hx hb (by omega) (by omega) dX0_rankOf_55 (by decide) (fun h3 => ?_) (fun h3 => ?_)
                · refine lv_iinc (v := nI (r + 1)) (lv' := [(4, .int (nI (r + 1))), (5, .int (scr X Z r)), (0, .ref q0), (1, .int (nI i)), (2, .int (scr X Z i)), (3, .int (nI (rk X Z i r)))]) hx hb dX0_rankOf_61 hl (k := 5) rfl (nI_add _ _) (by decide) rfl (fun ls hl => ?_)
                  refine lv_goto (tgt := 14) hx hb dX0_rankOf_64 (by decide) ?_
                  exact ih_loop (r + 1) (by omega) (by omega) ls (by rw [rk, if_neg (fun z => z.2.elim h1 (fun y => absurd y.2 (by omega)))]; exact lv_sub hl [2, 3, 4, 5, 0] rfl)
                · refine lv_iinc (v := nI (rk X Z i r + 1)) (lv' := [(3, .int (nI (rk X Z i r + 1))), (5, .int (scr X Z r)), (0, .ref q0), (1, .int (nI i)), (2, .int (scr X Z i)), (4, .int (nI r))]) hx hb dX0_rankOf_58 hl (k := 4) rfl (nI_add _ _) (by decide) rfl (fun ls hl => ?_)
                  refine lv_iinc (v := nI (r + 1)) (lv' := [(4, .int (nI (r + 1))), (3, .int (nI (rk X Z i r + 1))), (5, .int (scr X Z r)), (0, .ref q0), (1, .int (nI i)), (2, .int (scr X Z i))]) hx hb dX0_rankOf_61 hl (k := 5) rfl (nI_add _ _) (by decide) rfl (fun ls hl => ?_)
                  refine lv_goto (tgt := 14) hx hb dX0_rankOf_64 (by decide) ?_
                  exact ih_loop (r + 1) (by omega) (by omega) ls (by rw [rk, if_pos (⟨hz, Or.inr ⟨h2, h3⟩⟩)]; exact lv_sub hl [3, 4, 5, 1, 0] rfl)
        · refine hk_top (y := 0) (if_neg hz) ?_
          refine lv_if_eq (tgt := 61) hx hb dX0_rankOf_37 (by decide) (fun h0 => ?_) (fun h0 => ?_)
          · refine lv_iinc (v := nI (r + 1)) (lv' := [(4, .int (nI (r + 1))), (5, .int (scr X Z r)), (0, .ref q0), (1, .int (nI i)), (2, .int (scr X Z i)), (3, .int (nI (rk X Z i r)))]) hx hb dX0_rankOf_61 hl (k := 5) rfl (nI_add _ _) (by decide) rfl (fun ls hl => ?_)
            refine lv_goto (tgt := 14) hx hb dX0_rankOf_64 (by decide) ?_
            exact ih_loop (r + 1) (by omega) (by omega) ls (by rw [rk, if_neg (fun z => hz z.1)]; exact lv_sub hl [2, 3, 4, 5, 0] rfl)
          · exact absurd rfl h0
  exact loop 6 0 (by omega) (by omega) ls (lv_sub hl [3, 4, 2, 1, 0] rfl)

set_option maxHeartbeats 4000000 in
set_option maxRecDepth 100000 in
theorem c_X0_told (l : Launch) (D : va_G) (ct : Nat → ClassId) (sa : Nat → Nat) (q0 q1 q2 q3 : Nat) (X : Nat → Nat) (Z : Nat → Int32) (i : Nat) (x : Int32) (hi : i < 5) (hx3 : x = 1 ∨ x = 2 ∨ x = 3) : Met l yX0_told wsX0_told ({ frames := 3, cells := 0, slots := 0, locals := 67 }) (hkPc D ct sa [.ref q0, .int (nI i), .int x] (fun H => va_P D vwCl [(q0, .inr (0, [.ref q1, .ref q2, .ref q3])), (q1, .inl (ct 0, 5, .inl (fun j => nI (X j)))), (q2, .inl (ct 0, 5, .inl Z)), (q3, .inl (ct 0, 5, .inl (scr X Z)))] H)) (QcRead (hkTo X Z i x)) 0 0 (fun _ => False) := by
  refine Met.ofW (cc := cX0_told) (maxL := 3) (ret := (some .int)) (by decide) rfl ?_
  intro p e s m args below meth c s₁ B hml hv
  obtain ⟨rfl, hE, hP⟩ := hv
  have hx := B.exec
  have hb := B.bytes
  have hr := B.returns
  have hts := atoms_spec (ws := wsX0_told) B.pre
  have hown : s.vm.findClass RX0 = some m.cls := findClass_of_methodNamed B.named
  have hlocks := B.notSynchronized
  have hin0 : ∀ w ∈ wsX00, w ∈ wsX0_told := by decide +kernel
  have hl := lv_entry ([.ref q0, .int (nI i), .int x]) (n := 3) (Nat.le_of_ble_eq_true rfl)
  rw [lg_entry_eq]
  generalize (lg_sl ([.ref q0, .int (nI i), .int x]) ++ List.replicate (3 - (lg_sl ([.ref q0, .int (nI i), .int x])).length) Slot.unset).toArray = ls at hl ⊢
  have hl : lv_has ls 3 [(0, .ref q0), (1, .int (nI i)), (2, .int x)] := hl
  refine lv_iload_n hx hb dX0_told_0 rfl (lv_at hl 2 rfl) ?_
  rcases hx3 with rfl | rfl | rfl
  · refine lv_lookup (tgt := 28) (off := 27) hx hb dX0_told_1 (by decide) (by decide) (by decide) ?_
    refine lv_aload_n hx hb dX0_told_28 rfl (lv_at hl 0 rfl) ?_
    refine va_get (D := D) (ci := 0) (v := .ref q2) (C := RX0) (T := TX0) (N := 3) hx hb hts hin0 hown hE.1 hP 0 rfl rfl 1 (by decide) (hts (.fieldLink RX0 15 "Homekeys$Contest" "ticks" "[I") (by decide +kernel)) (fun _ h9 => h9) rfl dX0_told_29 ?_
    refine lv_iload_n hx hb dX0_told_32 rfl (lv_at hl 1 rfl) ?_
    refine hk_R (rest := []) (va_Run.run (va_runSN (host := RX2) (As := [.ref q2, .int (nI i)]) (rest := []) ⟨hx, hb, hml, hown, hts⟩ (c_X2_at l D ct sa q2 5 (Z) (nI i) (by decide)) ⟨va_cnB 2 hts gX0_told_X2_at_n21 rfl rfl rfl (hE.nw hkN_X0_21) (hts (.initialized RX2) (by decide +kernel)) (by decide +kernel) ⟨Nat.le_of_ble_eq_true rfl, Nat.le_of_ble_eq_true rfl⟩, hts (.static yX2_at) (by decide +kernel), trivial⟩ (hk_preS hE (hP.sub (ws' := [(q2, .inl (ct 0, 5, .inl Z))]) [2] rfl)) rfl rfl hl.1 rfl (lv_room (Nat.le_of_ble_eq_true rfl)) dX0_told_33 ⟨Nat.zero_le _, Nat.zero_le _⟩)) ?_
    refine hk_top (y := Z i) (hkAt_in hi (by decide)) ?_
    exact W.iret (v := Z i) hx hb hr (fun t ht hW => ⟨rfl, ht⟩) (fun _ h => nomatch h) dX0_told_36
  · refine lv_lookup (tgt := 37) (off := 36) hx hb dX0_told_1 (by decide) (by decide) (by decide) ?_
    refine lv_aload_n hx hb dX0_told_37 rfl (lv_at hl 0 rfl) ?_
    refine va_get (D := D) (ci := 0) (v := .ref q3) (C := RX0) (T := TX0) (N := 3) hx hb hts hin0 hown hE.1 hP 0 rfl rfl 2 (by decide) (hts (.fieldLink RX0 18 "Homekeys$Contest" "scores" "[I") (by decide +kernel)) (fun _ h9 => h9) rfl dX0_told_38 ?_
    refine lv_iload_n hx hb dX0_told_41 rfl (lv_at hl 1 rfl) ?_
    refine hk_R (rest := []) (va_Run.run (va_runSN (host := RX2) (As := [.ref q3, .int (nI i)]) (rest := []) ⟨hx, hb, hml, hown, hts⟩ (c_X2_at l D ct sa q3 5 (scr X Z) (nI i) (by decide)) ⟨va_cnB 2 hts gX0_told_X2_at_n21 rfl rfl rfl (hE.nw hkN_X0_21) (hts (.initialized RX2) (by decide +kernel)) (by decide +kernel) ⟨Nat.le_of_ble_eq_true rfl, Nat.le_of_ble_eq_true rfl⟩, hts (.static yX2_at) (by decide +kernel), trivial⟩ (hk_preS hE (hP.sub (ws' := [(q3, .inl (ct 0, 5, .inl (scr X Z)))]) [3] rfl)) rfl rfl hl.1 rfl (lv_room (Nat.le_of_ble_eq_true rfl)) dX0_told_42 ⟨Nat.zero_le _, Nat.zero_le _⟩)) ?_
    refine hk_top (y := scr X Z i) (hkAt_in hi (by decide)) ?_
    exact W.iret (v := scr X Z i) hx hb hr (fun t ht hW => ⟨rfl, ht⟩) (fun _ h => nomatch h) dX0_told_45
  · refine lv_lookup (tgt := 46) (off := 45) hx hb dX0_told_1 (by decide) (by decide) (by decide) ?_
    refine lv_aload_n hx hb dX0_told_46 rfl (lv_at hl 0 rfl) ?_
    refine lv_iload_n hx hb dX0_told_47 rfl (lv_at hl 1 rfl) ?_
    refine hk_R (rest := []) (va_Run.run (va_runV (As := [.int (nI i)]) (rest := []) ⟨hx, hb, hml, hown, hts⟩ (c_X0_rankOf l D ct sa q0 q1 q2 q3 X Z i hi) (cwV 1 hts gX0_told_X0_rankOf rfl rfl rfl (by decide +kernel) ⟨Nat.le_of_ble_eq_true rfl, Nat.le_of_ble_eq_true rfl⟩) (hk_preV hE (va_recv hE.1 hP (ci := 0) (q0 := 0) rfl rfl) hP) rfl rfl hl.1 rfl (lv_room (Nat.le_of_ble_eq_true rfl)) dX0_told_48 ⟨Nat.zero_le _, Nat.zero_le _⟩)) ?_
    exact W.iret (v := nI (rk X Z i 5)) hx hb hr (fun t ht hW => ⟨rfl, ht⟩) (fun _ h => nomatch h) dX0_told_51

set_option maxHeartbeats 4000000 in
set_option maxRecDepth 100000 in
theorem c_X0_holderOf (l : Launch) (D : va_G) (ct : Nat → ClassId) (sa : Nat → Nat) (q0 q1 q2 q3 : Nat) (X : Nat → Nat) (Z : Nat → Int32) (x : Int32) : Met l yX0_holderOf wsX0_holderOf ({ frames := 3, cells := 0, slots := 0, locals := 67 }) (hkPc D ct sa [.ref q0, .int x] (fun H => va_P D vwCl [(q0, .inr (0, [.ref q1, .ref q2, .ref q3])), (q1, .inl (ct 0, 5, .inl (fun j => nI (X j)))), (q2, .inl (ct 0, 5, .inl Z)), (q3, .inl (ct 0, 5, .inl (scr X Z)))] H)) (QcRead (fi (fun j => decide (0 < Z j ∧ nI (rk X Z j 5) = x)) 5 0)) 0 0 (fun _ => False) := by
  refine Met.ofW (cc := cX0_holderOf) (maxL := 3) (ret := (some .int)) (by decide) rfl ?_
  intro p e s m args below meth c s₁ B hml hv
  obtain ⟨rfl, hE, hP⟩ := hv
  have hx := B.exec
  have hb := B.bytes
  have hr := B.returns
  have hts := atoms_spec (ws := wsX0_holderOf) B.pre
  have hown : s.vm.findClass RX0 = some m.cls := findClass_of_methodNamed B.named
  have hlocks := B.notSynchronized
  have hl := lv_entry ([.ref q0, .int x]) (n := 3) (Nat.le_of_ble_eq_true rfl)
  rw [lg_entry_eq]
  generalize (lg_sl ([.ref q0, .int x]) ++ List.replicate (3 - (lg_sl ([.ref q0, .int x])).length) Slot.unset).toArray = ls at hl ⊢
  have hl : lv_has ls 3 [(0, .ref q0), (1, .int x)] := hl
  refine lv_iconst (v := nI 0) hx hb dX0_holderOf_0 (by decide) ?_
  refine lv_istore_n (lv' := [(2, .int (nI 0)), (0, .ref q0), (1, .int x)]) hx hb dX0_holderOf_1 rfl hl (by decide) rfl (fun ls hl => ?_)
  have loop : ∀ (k : Nat) (i : Nat), 5 < i + k → i ≤ 5 → fi (fun j => decide (0 < Z j ∧ nI (rk X Z j 5) = x)) 5 0 = fi (fun j => decide (0 < Z j ∧ nI (rk X Z j 5) = x)) (5 - i) i → ∀ (ls : Array Slot), lv_has ls 3 [(0, .ref q0), (1, .int x), (2, .int (nI i))] → W p l e (headSpec wsX0_holderOf ({ frames := 3, cells := 0, slots := 0, locals := 67 })).room s m ([.ref q0, .int x] : List Value).toArray below meth c s.heap [] 0 0 (MQ below (QcRead (fi (fun j => decide (0 < Z j ∧ nI (rk X Z j 5) = x)) 5 0)) ([.ref q0, .int x] : List Value).toArray s 0 0 (fun _ => False)) (F0 m 2 ls []) := by
    intro k
    induction k with
    | zero => intro i hk; intros; exact absurd hk (by omega)
    | succ k ih_loop =>
      intro i hk hi hfi ls hl
      refine lv_iload_n hx hb dX0_holderOf_2 rfl (lv_at hl 2 rfl) ?_
      refine lv_iconst (v := nI 5) hx hb dX0_holderOf_3 (by decide) ?_
      refine hk_geN (tgt := 32) hx hb (by omega) (by omega) dX0_holderOf_4 (by decide) (fun hc => ?_) (fun hc => ?_)
      · obtain rfl : i = 5 := by omega
        refine lv_iconst (v := (-1)) hx hb dX0_holderOf_32 (by decide) ?_
        exact W.iret (v := (-1)) hx hb hr (fun t ht hW => ⟨by rw [hfi]; rfl, ht⟩) (fun _ h => nomatch h) dX0_holderOf_33
      · have hfe : fi (fun j => decide (0 < Z j ∧ nI (rk X Z j 5) = x)) (5 - i) i = if (fun j => decide (0 < Z j ∧ nI (rk X Z j 5) = x)) i then nI i else fi (fun j => decide (0 < Z j ∧ nI (rk X Z j 5) = x)) (5 - (i + 1)) (i + 1) := by rw [show 5 - i = (5 - (i + 1)) + 1 by omega, fi]
        refine lv_aload_n hx hb dX0_holderOf_7 rfl (lv_at hl 0 rfl) ?_
        refine lv_iload_n hx hb dX0_holderOf_8 rfl (lv_at hl 2 rfl) ?_
        refine hk_R (rest := []) (va_Run.run (va_runV (As := [.int (nI i)]) (rest := []) ⟨hx, hb, hml, hown, hts⟩ (c_X0_hasResult l D ct sa q0 q1 q2 q3 X Z i hc) (cwV 1 hts gX0_holderOf_X0_hasResult rfl rfl rfl (by decide +kernel) ⟨Nat.le_of_ble_eq_true rfl, Nat.le_of_ble_eq_true rfl⟩) (hk_preV hE (va_recv hE.1 hP (ci := 0) (q0 := 0) rfl rfl) hP) rfl rfl hl.1 rfl (lv_room (Nat.le_of_ble_eq_true rfl)) dX0_holderOf_9 ⟨Nat.zero_le _, Nat.zero_le _⟩)) ?_
        by_cases hz : 0 < Z i
        · refine hk_top (y := 1) (if_pos hz) ?_
          refine lv_if_eq (tgt := 26) hx hb dX0_holderOf_12 (by decide) (fun h0 => ?_) (fun h0 => ?_)
          · exact absurd h0 (by decide)
          · refine lv_aload_n hx hb dX0_holderOf_15 rfl (lv_at hl 0 rfl) ?_
            refine lv_iload_n hx hb dX0_holderOf_16 rfl (lv_at hl 2 rfl) ?_
            refine hk_R (rest := []) (va_Run.run (va_runV (As := [.int (nI i)]) (rest := []) ⟨hx, hb, hml, hown, hts⟩ (c_X0_rankOf l D ct sa q0 q1 q2 q3 X Z i hc) (cwV 1 hts gX0_holderOf_X0_rankOf rfl rfl rfl (by decide +kernel) ⟨Nat.le_of_ble_eq_true rfl, Nat.le_of_ble_eq_true rfl⟩) (hk_preV hE (va_recv hE.1 hP (ci := 0) (q0 := 0) rfl rfl) hP) rfl rfl hl.1 rfl (lv_room (Nat.le_of_ble_eq_true rfl)) dX0_holderOf_17 ⟨Nat.zero_le _, Nat.zero_le _⟩)) ?_
            refine lv_iload_n hx hb dX0_holderOf_20 rfl (lv_at hl 1 rfl) ?_
            refine lv_icmp_ne (tgt := 26) hx hb dX0_holderOf_21 (by decide) (fun h1 => ?_) (fun h1 => ?_)
            · refine lv_iinc (v := nI (i + 1)) (lv' := [(2, .int (nI (i + 1))), (0, .ref q0), (1, .int x)]) hx hb dX0_holderOf_26 hl (k := 2) rfl (nI_add _ _) (by decide) rfl (fun ls hl => ?_)
              refine lv_goto (tgt := 2) hx hb dX0_holderOf_29 (by decide) ?_
              exact ih_loop (i + 1) (by omega) (by omega) (hfi.trans (hfe.trans (if_neg (by simp only [decide_eq_true_eq]; exact fun z => h1 z.2)))) ls (lv_sub hl [1, 2, 0] rfl)
            · refine lv_iload_n hx hb dX0_holderOf_24 rfl (lv_at hl 2 rfl) ?_
              exact W.iret (v := nI i) hx hb hr (fun t ht hW => ⟨by rw [hfi, hfe, if_pos (by simp only [decide_eq_true_eq]; exact ⟨hz, h1⟩)], ht⟩) (fun _ h => nomatch h) dX0_holderOf_25
        · refine hk_top (y := 0) (if_neg hz) ?_
          refine lv_if_eq (tgt := 26) hx hb dX0_holderOf_12 (by decide) (fun h0 => ?_) (fun h0 => ?_)
          · refine lv_iinc (v := nI (i + 1)) (lv' := [(2, .int (nI (i + 1))), (0, .ref q0), (1, .int x)]) hx hb dX0_holderOf_26 hl (k := 2) rfl (nI_add _ _) (by decide) rfl (fun ls hl => ?_)
            refine lv_goto (tgt := 2) hx hb dX0_holderOf_29 (by decide) ?_
            exact ih_loop (i + 1) (by omega) (by omega) (hfi.trans (hfe.trans (if_neg (by simp only [decide_eq_true_eq]; exact fun z => hz z.1)))) ls (lv_sub hl [1, 2, 0] rfl)
          · exact absurd rfl h0
  exact loop 6 0 (by omega) (by omega) rfl ls (lv_sub hl [1, 2, 0] rfl)
