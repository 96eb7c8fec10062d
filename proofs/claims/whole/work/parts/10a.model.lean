def hkWhy (g : Sg) (x y z : Int32) : Int32 := if bd x (gN g) ∨ bd y 12 ∨ bd z 12 then 1 else if y = z then 2 else 0
set_option maxHeartbeats 4000000 in
set_option maxRecDepth 100000 in
theorem c_X3_is (l : Launch) (D : va_G) (ct : Nat → ClassId) (sa : Nat → Nat) (v a b : Int32) : Met l yX3_is wsX3_is ({ frames := 0, cells := 0, slots := 0, locals := 0 }) (hkPc D ct sa [.int v, .int a, .int b] (fun _ => True)) (QcRead (hkIs v a b)) 0 0 (fun _ => False) := by
  refine Met.ofW (cc := cX3_is) (maxL := 3) (ret := (some .boolean)) (by decide) rfl ?_
  intro p e s m args below meth c s₁ B hml hv
  obtain ⟨rfl, hE, -⟩ := hv
  have hx := B.exec
  have hb := B.bytes
  have hr := B.returns
  have hts := atoms_spec (ws := wsX3_is) B.pre
  have hown : s.vm.findClass RX3 = some m.cls := findClass_of_methodNamed B.named
  have hlocks := B.notSynchronized
  have hl := lv_entry ([.int v, .int a, .int b]) (n := 3) (Nat.le_of_ble_eq_true rfl)
  rw [lg_entry_eq]
  generalize (lg_sl ([.int v, .int a, .int b]) ++ List.replicate (3 - (lg_sl ([.int v, .int a, .int b])).length) Slot.unset).toArray = ls at hl ⊢
  have hl : lv_has ls 3 [(0, .int v), (1, .int a), (2, .int b)] := hl
  refine lv_iload_n hx hb dX3_is_0 rfl (lv_at hl 0 rfl) ?_
  refine lv_iload_n hx hb dX3_is_1 rfl (lv_at hl 1 rfl) ?_
  refine lv_icmp_lt (tgt := 14) hx hb dX3_is_2 (by decide) (fun h1 => ?_) (fun h1 => ?_)
  · refine lv_iconst (v := nI 0) hx hb dX3_is_14 (by decide) ?_
    exact W.zret (v := nI 0) hx hb hr rfl (fun t ht hW => ⟨by rw [hkIs, if_neg (fun q => q.1 h1)]; rfl, ht⟩) (fun _ h => nomatch h) dX3_is_15
  · refine lv_iload_n hx hb dX3_is_5 rfl (lv_at hl 0 rfl) ?_
    refine lv_iload_n hx hb dX3_is_6 rfl (lv_at hl 2 rfl) ?_
    refine lv_icmp_gt (tgt := 14) hx hb dX3_is_7 (by decide) (fun h2 => ?_) (fun h2 => ?_)
    · refine lv_iconst (v := nI 0) hx hb dX3_is_14 (by decide) ?_
      exact W.zret (v := nI 0) hx hb hr rfl (fun t ht hW => ⟨by rw [hkIs, if_neg (fun q => q.2 h2)]; rfl, ht⟩) (fun _ h => nomatch h) dX3_is_15
    · refine lv_iconst (v := nI 1) hx hb dX3_is_10 (by decide) ?_
      refine lv_goto (tgt := 15) hx hb dX3_is_11 (by decide) ?_
      exact W.zret (v := nI 1) hx hb hr rfl (fun t ht hW => ⟨by rw [hkIs, if_pos ⟨h1, h2⟩]; rfl, ht⟩) (fun _ h => nomatch h) dX3_is_15

set_option maxHeartbeats 4000000 in
set_option maxRecDepth 100000 in
theorem c_X3_isKey (l : Launch) (D : va_G) (ct : Nat → ClassId) (sa : Nat → Nat) (x : Int32) : Met l yX3_isKey wsX3_isKey ({ frames := 1, cells := 0, slots := 0, locals := 22 }) (hkPc D ct sa [.int x] (fun _ => True)) (QcRead (nb x 12)) 0 0 (fun _ => False) := by
  refine Met.ofW (cc := cX3_isKey) (maxL := 1) (ret := (some .boolean)) (by decide) rfl ?_
  intro p e s m args below meth c s₁ B hml hv
  obtain ⟨rfl, hE, -⟩ := hv
  have hx := B.exec
  have hb := B.bytes
  have hr := B.returns
  have hts := atoms_spec (ws := wsX3_isKey) B.pre
  have hown : s.vm.findClass RX3 = some m.cls := findClass_of_methodNamed B.named
  have hlocks := B.notSynchronized
  have hl := lv_entry ([.int x]) (n := 1) (Nat.le_of_ble_eq_true rfl)
  rw [lg_entry_eq]
  generalize (lg_sl ([.int x]) ++ List.replicate (1 - (lg_sl ([.int x])).length) Slot.unset).toArray = ls at hl ⊢
  have hl : lv_has ls 1 [(0, .int x)] := hl
  refine lv_iload_n hx hb dX3_isKey_0 rfl (lv_at hl 0 rfl) ?_
  refine lv_iconst (v := nI 0) hx hb dX3_isKey_1 (by decide) ?_
  refine lv_bipush (v := nI 11) hx hb dX3_isKey_2 (by decide) ?_
  refine hk_R (rest := []) (va_Run.run (va_runS (As := [.int x, .int (nI 0), .int (nI 11)]) (rest := []) ⟨hx, hb, hml, hown, hts⟩ (c_X3_is l D ct sa x (nI 0) (nI 11)) (va_cwS 3 hts gX3_isKey_X3_is rfl rfl rfl (by decide +kernel) ⟨Nat.le_of_ble_eq_true rfl, Nat.le_of_ble_eq_true rfl⟩) (hk_preS hE trivial) rfl rfl hl.1 rfl (lv_room (Nat.le_of_ble_eq_true rfl)) dX3_isKey_4 ⟨Nat.zero_le _, Nat.zero_le _⟩)) ?_
  refine hk_top (y := nb x 12) (is_nbk x (by decide)) ?_
  exact W.zret (v := nb x 12) hx hb hr (nb_z _ _) (fun t ht hW => ⟨rfl, ht⟩) (fun _ h => nomatch h) dX3_isKey_7

set_option maxHeartbeats 4000000 in
set_option maxRecDepth 100000 in
theorem c_X3_isStudent (l : Launch) (D : va_G) (ct : Nat → ClassId) (sa : Nat → Nat) (aa : Nat → Nat) (g : Sg) (rf : Int32) (x : Int32) (hn : gN g < 2 ^ 30) : Met l yX3_isStudent wsX3_isStudent ({ frames := 1, cells := 0, slots := 0, locals := 22 }) (hkPc D ct sa [.ref (aa 0), .int x] (fun H => va_P D vwCl [((aa 0), .inr (3, [.int rf, .int (nI (gN g)), .ref (aa 1), .ref (aa 2), .ref (aa 3), .ref (aa 4), .ref (aa 5), .ref (aa 6), .ref (aa 7), .ref (aa 8), .ref (aa 9), .int (nI (gd g)), .ref (aa 10), .int (nI (gc g)), .ref (aa 11), .ref (aa 12), .ref (aa 13)]))] H)) (QcRead (nb x (gN g))) 0 0 (fun _ => False) := by
  refine Met.ofW (cc := cX3_isStudent) (maxL := 2) (ret := (some .boolean)) (by decide) rfl ?_
  intro p e s m args below meth c s₁ B hml hv
  obtain ⟨rfl, hE, hP⟩ := hv
  have hx := B.exec
  have hb := B.bytes
  have hr := B.returns
  have hts := atoms_spec (ws := wsX3_isStudent) B.pre
  have hown : s.vm.findClass RX3 = some m.cls := findClass_of_methodNamed B.named
  have hlocks := B.notSynchronized
  have hin3 : ∀ w ∈ wsX30, w ∈ wsX3_isStudent := by decide +kernel
  have hl := lv_entry ([.ref (aa 0), .int x]) (n := 2) (Nat.le_of_ble_eq_true rfl)
  rw [lg_entry_eq]
  generalize (lg_sl ([.ref (aa 0), .int x]) ++ List.replicate (2 - (lg_sl ([.ref (aa 0), .int x])).length) Slot.unset).toArray = ls at hl ⊢
  have hl : lv_has ls 2 [(0, .ref (aa 0)), (1, .int x)] := hl
  refine lv_iload_n hx hb dX3_isStudent_0 rfl (lv_at hl 1 rfl) ?_
  refine lv_iconst (v := nI 0) hx hb dX3_isStudent_1 (by decide) ?_
  refine lv_aload_n hx hb dX3_isStudent_2 rfl (lv_at hl 0 rfl) ?_
  refine va_get (D := D) (ci := 3) (v := .int (nI (gN g))) (C := RX3) (T := TX3) (N := 17) hx hb hts hin3 hown hE.1 hP 0 rfl rfl 1 (by decide) (hts (.fieldLink RX3 53 "HomekeysModel" "students" "I") (by decide +kernel)) (fun _ h9 => h9) rfl dX3_isStudent_3 ?_
  refine lv_iconst (v := nI 1) hx hb dX3_isStudent_6 (by decide) ?_
  refine lv_isub hx hb dX3_isStudent_7 ?_
  refine hk_R (rest := []) (va_Run.run (va_runS (As := [.int x, .int (nI 0), .int ((nI (gN g)) - (nI 1))]) (rest := []) ⟨hx, hb, hml, hown, hts⟩ (c_X3_is l D ct sa x (nI 0) (nI (gN g) - nI 1)) (va_cwS 3 hts gX3_isStudent_X3_is rfl rfl rfl (by decide +kernel) ⟨Nat.le_of_ble_eq_true rfl, Nat.le_of_ble_eq_true rfl⟩) (hk_preS hE trivial) rfl rfl hl.1 rfl (lv_room (Nat.le_of_ble_eq_true rfl)) dX3_isStudent_8 ⟨Nat.zero_le _, Nat.zero_le _⟩)) ?_
  refine hk_top (y := nb x (gN g)) (is_nb x hn) ?_
  exact W.zret (v := nb x (gN g)) hx hb hr (nb_z _ _) (fun t ht hW => ⟨rfl, ht⟩) (fun _ h => nomatch h) dX3_isStudent_11

set_option maxHeartbeats 4000000 in
set_option maxRecDepth 100000 in
theorem c_X3_thrown (l : Launch) (D : va_G) (ct : Nat → ClassId) (sa : Nat → Nat) (aa : Nat → Nat) (g : Sg) (rf : Int32) : Met l yX3_thrown wsX3_thrown ({ frames := 0, cells := 0, slots := 0, locals := 0 }) (hkPc D ct sa [.ref (aa 0)] (fun H => va_P D vwCl [((aa 0), .inr (3, [.int rf, .int (nI (gN g)), .ref (aa 1), .ref (aa 2), .ref (aa 3), .ref (aa 4), .ref (aa 5), .ref (aa 6), .ref (aa 7), .ref (aa 8), .ref (aa 9), .int (nI (gd g)), .ref (aa 10), .int (nI (gc g)), .ref (aa 11), .ref (aa 12), .ref (aa 13)]))] H)) (QcRead rf) 0 0 (fun _ => False) := by
  refine Met.ofW (cc := cX3_thrown) (maxL := 1) (ret := (some .int)) (by decide) rfl ?_
  intro p e s m args below meth c s₁ B hml hv
  obtain ⟨rfl, hE, hP⟩ := hv
  have hx := B.exec
  have hb := B.bytes
  have hr := B.returns
  have hts := atoms_spec (ws := wsX3_thrown) B.pre
  have hown : s.vm.findClass RX3 = some m.cls := findClass_of_methodNamed B.named
  have hlocks := B.notSynchronized
  have hin3 : ∀ w ∈ wsX30, w ∈ wsX3_thrown := by decide +kernel
  have hl := lv_entry ([.ref (aa 0)]) (n := 1) (Nat.le_of_ble_eq_true rfl)
  rw [lg_entry_eq]
  generalize (lg_sl ([.ref (aa 0)]) ++ List.replicate (1 - (lg_sl ([.ref (aa 0)])).length) Slot.unset).toArray = ls at hl ⊢
  have hl : lv_has ls 1 [(0, .ref (aa 0))] := hl
  refine lv_aload_n hx hb dX3_thrown_0 rfl (lv_at hl 0 rfl) ?_
  refine va_get (D := D) (ci := 3) (v := .int rf) (C := RX3) (T := TX3) (N := 17) hx hb hts hin3 hown hE.1 hP 0 rfl rfl 0 (by decide) (hts (.fieldLink RX3 49 "HomekeysModel" "refusal" "I") (by decide +kernel)) (fun _ h9 => h9) rfl dX3_thrown_1 ?_
  exact W.iret (v := rf) hx hb hr (fun t ht hW => ⟨rfl, ht⟩) (fun _ h => nomatch h) dX3_thrown_4

set_option maxHeartbeats 4000000 in
set_option maxRecDepth 100000 in
theorem c_X3_refused (l : Launch) (D : va_G) (ct : Nat → ClassId) (sa : Nat → Nat) (aa : Nat → Nat) (g : Sg) (rf : Int32) (y : Int32) : Met l yX3_refused wsX3_refused ({ frames := 0, cells := 0, slots := 0, locals := 0 }) (hkPc D ct sa [.ref (aa 0), .int y] (fun H => va_P D vwCl [((aa 0), .inr (3, [.int rf, .int (nI (gN g)), .ref (aa 1), .ref (aa 2), .ref (aa 3), .ref (aa 4), .ref (aa 5), .ref (aa 6), .ref (aa 7), .ref (aa 8), .ref (aa 9), .int (nI (gd g)), .ref (aa 10), .int (nI (gc g)), .ref (aa 11), .ref (aa 12), .ref (aa 13)]))] H ∧ va_D (fun _ => True) [((aa 0), .inr (3, [.int rf, .int (nI (gN g)), .ref (aa 1), .ref (aa 2), .ref (aa 3), .ref (aa 4), .ref (aa 5), .ref (aa 6), .ref (aa 7), .ref (aa 8), .ref (aa 9), .int (nI (gd g)), .ref (aa 10), .int (nI (gc g)), .ref (aa 11), .ref (aa 12), .ref (aa 13)]))])) (hkQ (some (.int (if y = 0 then 0 else 1))) D [((aa 0), .inr (3, [.int y, .int (nI (gN g)), .ref (aa 1), .ref (aa 2), .ref (aa 3), .ref (aa 4), .ref (aa 5), .ref (aa 6), .ref (aa 7), .ref (aa 8), .ref (aa 9), .int (nI (gd g)), .ref (aa 10), .int (nI (gc g)), .ref (aa 11), .ref (aa 12), .ref (aa 13)]))] [(aa 0)]) 0 0 (hkA [(aa 0)]) := by
  refine Met.ofW (cc := cX3_refused) (maxL := 2) (ret := (some .boolean)) (by decide) rfl ?_
  intro p e s m args below meth c s₁ B hml hv
  obtain ⟨rfl, hE, hp⟩ := hv
  have hx := B.exec
  have hb := B.bytes
  have hr := B.returns
  have hts := atoms_spec (ws := wsX3_refused) B.pre
  have hown : s.vm.findClass RX3 = some m.cls := findClass_of_methodNamed B.named
  have hlocks := B.notSynchronized
  have hin3 : ∀ w ∈ wsX30, w ∈ wsX3_refused := by decide +kernel
  obtain ⟨hP, hD0⟩ := hp
  have hD : va_D (hkA [(aa 0)]) [((aa 0), .inr (3, [.int rf, .int (nI (gN g)), .ref (aa 1), .ref (aa 2), .ref (aa 3), .ref (aa 4), .ref (aa 5), .ref (aa 6), .ref (aa 7), .ref (aa 8), .ref (aa 9), .int (nI (gd g)), .ref (aa 10), .int (nI (gc g)), .ref (aa 11), .ref (aa 12), .ref (aa 13)]))] := hD0.weaken (fun k q hk _ => hk_mem hk)
  have hS : va_S (hkA [(aa 0)]) s.heap s.heap [] := va_S.rf
  have hl := lv_entry ([.ref (aa 0), .int y]) (n := 2) (Nat.le_of_ble_eq_true rfl)
  rw [lg_entry_eq]
  generalize (lg_sl ([.ref (aa 0), .int y]) ++ List.replicate (2 - (lg_sl ([.ref (aa 0), .int y])).length) Slot.unset).toArray = ls at hl ⊢
  have hl : lv_has ls 2 [(0, .ref (aa 0)), (1, .int y)] := hl
  refine lv_aload_n hx hb dX3_refused_0 rfl (lv_at hl 0 rfl) ?_
  refine lv_iload_n hx hb dX3_refused_1 rfl (lv_at hl 1 rfl) ?_
  refine va_put (D := D) (ci := 3) (v := .int y) (ty := .int) (C := RX3) (T := TX3) (N := 17) hx hb hts hin3 tyX3 tyX3_ok nmX3 hown hE.1 hP hD hS 0 rfl rfl 0 (by decide) (hts (.fieldLink RX3 49 "HomekeysModel" "refusal" "I") (by decide +kernel)) (fun _ h9 => h9) rfl (by decide +kernel) rfl rfl (Nat.le_of_ble_eq_true rfl) dX3_refused_2 (fun H locs hP hD hS => ?_)
  have hP : va_P D vwCl [((aa 0), .inr (3, [.int y, .int (nI (gN g)), .ref (aa 1), .ref (aa 2), .ref (aa 3), .ref (aa 4), .ref (aa 5), .ref (aa 6), .ref (aa 7), .ref (aa 8), .ref (aa 9), .int (nI (gd g)), .ref (aa 10), .int (nI (gc g)), .ref (aa 11), .ref (aa 12), .ref (aa 13)]))] H := hP
  have hD : va_D (hkA [(aa 0)]) [((aa 0), .inr (3, [.int y, .int (nI (gN g)), .ref (aa 1), .ref (aa 2), .ref (aa 3), .ref (aa 4), .ref (aa 5), .ref (aa 6), .ref (aa 7), .ref (aa 8), .ref (aa 9), .int (nI (gd g)), .ref (aa 10), .int (nI (gc g)), .ref (aa 11), .ref (aa 12), .ref (aa 13)]))] := hD
  refine lv_iload_n hx hb dX3_refused_5 rfl (lv_at hl 1 rfl) ?_
  refine lv_if_eq (tgt := 13) hx hb dX3_refused_6 (by decide) (fun h1 => ?_) (fun h1 => ?_)
  · refine lv_iconst (v := nI 0) hx hb dX3_refused_13 (by decide) ?_
    have hP9 : va_P D vwCl [((aa 0), .inr (3, [.int y, .int (nI (gN g)), .ref (aa 1), .ref (aa 2), .ref (aa 3), .ref (aa 4), .ref (aa 5), .ref (aa 6), .ref (aa 7), .ref (aa 8), .ref (aa 9), .int (nI (gd g)), .ref (aa 10), .int (nI (gc g)), .ref (aa 11), .ref (aa 12), .ref (aa 13)]))] H := hP
    exact W.zret (v := nI 0) hx hb hr rfl (fun t ht hW => ⟨by rw [if_pos h1]; rfl, by rw [ht]; exact hP9, by rw [ht]; exact ⟨hS.1, hS.2.1⟩⟩) hS.2.2 dX3_refused_14
  · refine lv_iconst (v := nI 1) hx hb dX3_refused_9 (by decide) ?_
    refine lv_goto (tgt := 14) hx hb dX3_refused_10 (by decide) ?_
    have hP9 : va_P D vwCl [((aa 0), .inr (3, [.int y, .int (nI (gN g)), .ref (aa 1), .ref (aa 2), .ref (aa 3), .ref (aa 4), .ref (aa 5), .ref (aa 6), .ref (aa 7), .ref (aa 8), .ref (aa 9), .int (nI (gd g)), .ref (aa 10), .int (nI (gc g)), .ref (aa 11), .ref (aa 12), .ref (aa 13)]))] H := hP
    exact W.zret (v := nI 1) hx hb hr rfl (fun t ht hW => ⟨by rw [if_neg h1]; rfl, by rw [ht]; exact hP9, by rw [ht]; exact ⟨hS.1, hS.2.1⟩⟩) hS.2.2 dX3_refused_14

set_option maxHeartbeats 4000000 in
set_option maxRecDepth 100000 in
theorem c_X3_step (l : Launch) (D : va_G) (ct : Nat → ClassId) (sa : Nat → Nat) (a b : Nat) (ha : a < 12) (hb9 : b < 12) : Met l yX3_step wsX3_step ({ frames := 0, cells := 0, slots := 0, locals := 0 }) (hkPc D ct sa [.int (nI a), .int (nI b)] (fun _ => True)) (QcRead (nI (stp a b))) 0 0 (fun _ => False) := by
  refine Met.ofW (cc := cX3_step) (maxL := 2) (ret := (some .int)) (by decide) rfl ?_
  intro p e s m args below meth c s₁ B hml hv
  obtain ⟨rfl, hE, -⟩ := hv
  have hx := B.exec
  have hb := B.bytes
  have hr := B.returns
  have hts := atoms_spec (ws := wsX3_step) B.pre
  have hown : s.vm.findClass RX3 = some m.cls := findClass_of_methodNamed B.named
  have hlocks := B.notSynchronized
  have hl := lv_entry ([.int (nI a), .int (nI b)]) (n := 2) (Nat.le_of_ble_eq_true rfl)
  rw [lg_entry_eq]
  generalize (lg_sl ([.int (nI a), .int (nI b)]) ++ List.replicate (2 - (lg_sl ([.int (nI a), .int (nI b)])).length) Slot.unset).toArray = ls at hl ⊢
  have hl : lv_has ls 2 [(0, .int (nI a)), (1, .int (nI b))] := hl
  refine lv_iload_n hx hb dX3_step_0 rfl (lv_at hl 0 rfl) ?_
  refine lv_iload_n hx hb dX3_step_1 rfl (lv_at hl 1 rfl) ?_
  refine hk_neN (tgt := 7) hx hb (by omega) (by omega) dX3_step_2 (by decide) (fun c1 => ?_) (fun c1 => ?_)
  · refine lv_iload_n hx hb dX3_step_7 rfl (lv_at hl 0 rfl) ?_
    refine lv_bipush (v := nI 6) hx hb dX3_step_8 (by decide) ?_
    refine hk_remN hx hb (by omega) (by omega) (by omega) dX3_step_10 ?_
    refine lv_iload_n hx hb dX3_step_11 rfl (lv_at hl 1 rfl) ?_
    refine lv_bipush (v := nI 6) hx hb dX3_step_12 (by decide) ?_
    refine hk_remN hx hb (by omega) (by omega) (by omega) dX3_step_14 ?_
    refine hk_neN (tgt := 21) hx hb (by omega) (by omega) dX3_step_15 (by decide) (fun c2 => ?_) (fun c2 => ?_)
    · refine lv_iload_n hx hb dX3_step_21 rfl (lv_at hl 0 rfl) ?_
      refine lv_bipush (v := nI 6) hx hb dX3_step_22 (by decide) ?_
      refine hk_remN hx hb (by omega) (by omega) (by omega) dX3_step_24 ?_
      refine lv_iconst (v := nI 3) hx hb dX3_step_25 (by decide) ?_
      refine hk_divN hx hb (by omega) (by omega) (by omega) dX3_step_26 ?_
      refine lv_iload_n hx hb dX3_step_27 rfl (lv_at hl 1 rfl) ?_
      refine lv_bipush (v := nI 6) hx hb dX3_step_28 (by decide) ?_
      refine hk_remN hx hb (by omega) (by omega) (by omega) dX3_step_30 ?_
      refine lv_iconst (v := nI 3) hx hb dX3_step_31 (by decide) ?_
      refine hk_divN hx hb (by omega) (by omega) (by omega) dX3_step_32 ?_
      refine hk_neN (tgt := 40) hx hb (by omega) (by omega) dX3_step_33 (by decide) (fun c3 => ?_) (fun c3 => ?_)
      · refine lv_iconst (v := nI 2) hx hb dX3_step_40 (by decide) ?_
        exact W.iret (v := nI 2) hx hb hr (fun t ht hW => ⟨by rw [stp, if_neg c1, if_neg c2, if_neg c3], ht⟩) (fun _ h => nomatch h) dX3_step_41
      · refine lv_iconst (v := nI 4) hx hb dX3_step_36 (by decide) ?_
        refine lv_goto (tgt := 41) hx hb dX3_step_37 (by decide) ?_
        exact W.iret (v := nI 4) hx hb hr (fun t ht hW => ⟨by rw [stp, if_neg c1, if_neg c2, if_pos c3], ht⟩) (fun _ h => nomatch h) dX3_step_41
    · refine lv_bipush (v := nI 7) hx hb dX3_step_18 (by decide) ?_
      exact W.iret (v := nI 7) hx hb hr (fun t ht hW => ⟨by rw [stp, if_neg c1, if_pos c2], ht⟩) (fun _ h => nomatch h) dX3_step_20
  · refine lv_iconst (v := nI 3) hx hb dX3_step_5 (by decide) ?_
    exact W.iret (v := nI 3) hx hb hr (fun t ht hW => ⟨by rw [stp, if_pos c1], ht⟩) (fun _ h => nomatch h) dX3_step_6

set_option maxHeartbeats 4000000 in
set_option maxRecDepth 100000 in
theorem c_X3_keyWith (l : Launch) (D : va_G) (ct : Nat → ClassId) (sa : Nat → Nat) (aa : Nat → Nat) (g : Sg) (rf : Int32) (i j x y : Nat) (hi : i < 5) (hj : j < 12) (hx9 : x < 12) (hy9 : y < 12) (hK : ∀ z, z < 12 → sK (gS g i) z < 12) : Met l yX3_keyWith wsX3_keyWith ({ frames := 0, cells := 0, slots := 0, locals := 0 }) (hkPc D ct sa [.ref (aa 0), .int (nI i), .int (nI j), .int (nI x), .int (nI y)] (fun H => va_P D vwCl [((aa 0), .inr (3, [.int rf, .int (nI (gN g)), .ref (aa 1), .ref (aa 2), .ref (aa 3), .ref (aa 4), .ref (aa 5), .ref (aa 6), .ref (aa 7), .ref (aa 8), .ref (aa 9), .int (nI (gd g)), .ref (aa 10), .int (nI (gc g)), .ref (aa 11), .ref (aa 12), .ref (aa 13)])), ((aa 1), .inl (ct 0, 60, .inl (mK g))), ((aa 2), .inl (ct 0, 60, .inl (mL g))), ((aa 3), .inl (ct 0, 5, .inl (mY g))), ((aa 4), .inl (ct 0, 60, .inl (mS g))), ((aa 5), .inl (ct 0, 720, .inl (mP g))), ((aa 6), .inl (ct 0, 5, .inl (mC g))), ((aa 7), .inl (ct 0, 5, .inl (mLa g))), ((aa 8), .inl (ct 0, 5, .inl (mQ g))), ((aa 9), .inl (ct 0, 150, .inl (mT g))), ((aa 10), .inl (ct 0, 24, .inl (mD g))), ((aa 11), .inl (ct 0, 6, .inl (mW g))), ((aa 12), .inl (ct 0, 30, .inl (mX g))), ((aa 13), .inl (ct 0, 30, .inl (mZ g)))] H)) (QcRead (nI (swp x y (sK (gS g i) j)))) 0 0 (fun _ => False) := by
  refine Met.ofW (cc := cX3_keyWith) (maxL := 6) (ret := (some .int)) (by decide) rfl ?_
  intro p e s m args below meth c s₁ B hml hv
  obtain ⟨rfl, hE, hP⟩ := hv
  have hx := B.exec
  have hb := B.bytes
  have hr := B.returns
  have hts := atoms_spec (ws := wsX3_keyWith) B.pre
  have hown : s.vm.findClass RX3 = some m.cls := findClass_of_methodNamed B.named
  have hlocks := B.notSynchronized
  have hin3 : ∀ w ∈ wsX30, w ∈ wsX3_keyWith := by decide +kernel
  have hl := lv_entry ([.ref (aa 0), .int (nI i), .int (nI j), .int (nI x), .int (nI y)]) (n := 6) (Nat.le_of_ble_eq_true rfl)
  rw [lg_entry_eq]
  generalize (lg_sl ([.ref (aa 0), .int (nI i), .int (nI j), .int (nI x), .int (nI y)]) ++ List.replicate (6 - (lg_sl ([.ref (aa 0), .int (nI i), .int (nI j), .int (nI x), .int (nI y)])).length) Slot.unset).toArray = ls at hl ⊢
  have hl : lv_has ls 6 [(0, .ref (aa 0)), (1, .int (nI i)), (2, .int (nI j)), (3, .int (nI x)), (4, .int (nI y))] := hl
  have hKj : sK (gS g i) j < 12 := hK j hj
  refine lv_aload_n hx hb dX3_keyWith_0 rfl (lv_at hl 0 rfl) ?_
  refine va_get (D := D) (ci := 3) (v := .ref (aa 1)) (C := RX3) (T := TX3) (N := 17) hx hb hts hin3 hown hE.1 hP 0 rfl rfl 2 (by decide) (hts (.fieldLink RX3 7 "HomekeysModel" "keys" "[I") (by decide +kernel)) (fun _ h9 => h9) rfl dX3_keyWith_1 ?_
  refine lv_bipush (v := nI 12) hx hb dX3_keyWith_4 (by decide) ?_
  refine lv_iload_n hx hb dX3_keyWith_6 rfl (lv_at hl 1 rfl) ?_
  refine hk_mulN hx hb dX3_keyWith_7 ?_
  refine lv_iload_n hx hb dX3_keyWith_8 rfl (lv_at hl 2 rfl) ?_
  refine hk_addN hx hb dX3_keyWith_9 ?_
  refine hk_iald hx hb hE hP 1 rfl (j := (12 * i) + j) (by omega) (by omega) dX3_keyWith_10 ?_
  refine hk_top (y := nI (sK (gS g i) j)) (mK_at g i hj) ?_
  refine lv_istore (lv' := [(5, .int (nI (sK (gS g i) j))), (0, .ref (aa 0)), (1, .int (nI i)), (2, .int (nI j)), (3, .int (nI x)), (4, .int (nI y))]) hx hb dX3_keyWith_11 hl (by decide) rfl (fun ls hl => ?_)
  refine lv_iload hx hb dX3_keyWith_13 (lv_at hl 0 rfl) ?_
  refine lv_iload_n hx hb dX3_keyWith_15 rfl (lv_at hl 4 rfl) ?_
  refine hk_neN (tgt := 24) hx hb (by omega) (by omega) dX3_keyWith_16 (by decide) (fun c1 => ?_) (fun c1 => ?_)
  · refine lv_iload hx hb dX3_keyWith_24 (lv_at hl 0 rfl) ?_
    refine lv_iload hx hb dX3_keyWith_26 (lv_at hl 5 rfl) ?_
    refine hk_neN (tgt := 35) hx hb (by omega) (by omega) dX3_keyWith_28 (by decide) (fun c2 => ?_) (fun c2 => ?_)
    · refine lv_iload hx hb dX3_keyWith_35 (lv_at hl 0 rfl) ?_
      exact W.iret (v := nI (sK (gS g i) j)) hx hb hr (fun t ht hW => ⟨by rw [swp, if_neg c1, if_neg c2], ht⟩) (fun _ h => nomatch h) dX3_keyWith_37
    · refine lv_iload_n hx hb dX3_keyWith_31 rfl (lv_at hl 4 rfl) ?_
      refine lv_goto (tgt := 37) hx hb dX3_keyWith_32 (by decide) ?_
      exact W.iret (v := nI x) hx hb hr (fun t ht hW => ⟨by rw [swp, if_neg c1, if_pos c2], ht⟩) (fun _ h => nomatch h) dX3_keyWith_37
  · refine lv_iload hx hb dX3_keyWith_19 (lv_at hl 5 rfl) ?_
    refine lv_goto (tgt := 37) hx hb dX3_keyWith_21 (by decide) ?_
    exact W.iret (v := nI y) hx hb hr (fun t ht hW => ⟨by rw [swp, if_pos c1], ht⟩) (fun _ h => nomatch h) dX3_keyWith_37

set_option maxHeartbeats 4000000 in
set_option maxRecDepth 100000 in
theorem c_X3_timeWith (l : Launch) (D : va_G) (ct : Nat → ClassId) (sa : Nat → Nat) (aa : Nat → Nat) (g : Sg) (rf : Int32) (i x y : Nat) (hi : i < 5) (hx9 : x < 12) (hy9 : y < 12) (hq : sq (gS g i) ≤ 30) (hK : ∀ z, z < 12 → sK (gS g i) z < 12) (hT : ∀ z, sT (gS g i) z < 12) : Met l yX3_timeWith wsX3_timeWith ({ frames := 1, cells := 0, slots := 0, locals := 25 }) (hkPc D ct sa [.ref (aa 0), .int (nI i), .int (nI x), .int (nI y)] (fun H => va_P D vwCl [((aa 0), .inr (3, [.int rf, .int (nI (gN g)), .ref (aa 1), .ref (aa 2), .ref (aa 3), .ref (aa 4), .ref (aa 5), .ref (aa 6), .ref (aa 7), .ref (aa 8), .ref (aa 9), .int (nI (gd g)), .ref (aa 10), .int (nI (gc g)), .ref (aa 11), .ref (aa 12), .ref (aa 13)])), ((aa 1), .inl (ct 0, 60, .inl (mK g))), ((aa 2), .inl (ct 0, 60, .inl (mL g))), ((aa 3), .inl (ct 0, 5, .inl (mY g))), ((aa 4), .inl (ct 0, 60, .inl (mS g))), ((aa 5), .inl (ct 0, 720, .inl (mP g))), ((aa 6), .inl (ct 0, 5, .inl (mC g))), ((aa 7), .inl (ct 0, 5, .inl (mLa g))), ((aa 8), .inl (ct 0, 5, .inl (mQ g))), ((aa 9), .inl (ct 0, 150, .inl (mT g))), ((aa 10), .inl (ct 0, 24, .inl (mD g))), ((aa 11), .inl (ct 0, 6, .inl (mW g))), ((aa 12), .inl (ct 0, 30, .inl (mX g))), ((aa 13), .inl (ct 0, 30, .inl (mZ g)))] H)) (QcRead (nI (tt (gs (sK (gS g i)) (sT (gS g i)) x y) (sq (gS g i))))) 0 0 (fun _ => False) := by
  refine Met.ofW (cc := cX3_timeWith) (maxL := 7) (ret := (some .int)) (by decide) rfl ?_
  intro p e s m args below meth c s₁ B hml hv
  obtain ⟨rfl, hE, hP⟩ := hv
  have hx := B.exec
  have hb := B.bytes
  have hr := B.returns
  have hts := atoms_spec (ws := wsX3_timeWith) B.pre
  have hown : s.vm.findClass RX3 = some m.cls := findClass_of_methodNamed B.named
  have hlocks := B.notSynchronized
  have hin3 : ∀ w ∈ wsX30, w ∈ wsX3_timeWith := by decide +kernel
  have hl := lv_entry ([.ref (aa 0), .int (nI i), .int (nI x), .int (nI y)]) (n := 7) (Nat.le_of_ble_eq_true rfl)
  rw [lg_entry_eq]
  generalize (lg_sl ([.ref (aa 0), .int (nI i), .int (nI x), .int (nI y)]) ++ List.replicate (7 - (lg_sl ([.ref (aa 0), .int (nI i), .int (nI x), .int (nI y)])).length) Slot.unset).toArray = ls at hl ⊢
  have hl : lv_has ls 7 [(0, .ref (aa 0)), (1, .int (nI i)), (2, .int (nI x)), (3, .int (nI y))] := hl
  refine lv_aload_n hx hb dX3_timeWith_0 rfl (lv_at hl 0 rfl) ?_
  refine va_get (D := D) (ci := 3) (v := .ref (aa 8)) (C := RX3) (T := TX3) (N := 17) hx hb hts hin3 hown hE.1 hP 0 rfl rfl 9 (by decide) (hts (.fieldLink RX3 31 "HomekeysModel" "kept" "[I") (by decide +kernel)) (fun _ h9 => h9) rfl dX3_timeWith_1 ?_
  refine lv_iload_n hx hb dX3_timeWith_4 rfl (lv_at hl 1 rfl) ?_
  refine hk_iald hx hb hE hP 8 rfl (j := i) (by omega) (by omega) dX3_timeWith_5 ?_
  refine hk_top (y := nI (sq (gS g i))) rfl ?_
  refine hk_ne0N (tgt := 13) hx hb (by omega) dX3_timeWith_6 (by decide) (fun h0 => ?_) (fun h0 => ?_)
  · refine lv_iconst (v := nI 2) hx hb dX3_timeWith_13 (by decide) ?_
    refine lv_istore (lv' := [(4, .int (nI 2)), (0, .ref (aa 0)), (1, .int (nI i)), (2, .int (nI x)), (3, .int (nI y))]) hx hb dX3_timeWith_14 hl (by decide) rfl (fun ls hl => ?_)
    refine lv_iconst (v := nI 1) hx hb dX3_timeWith_16 (by decide) ?_
    refine lv_istore (lv' := [(5, .int (nI 1)), (4, .int (nI 2)), (0, .ref (aa 0)), (1, .int (nI i)), (2, .int (nI x)), (3, .int (nI y))]) hx hb dX3_timeWith_17 hl (by decide) rfl (fun ls hl => ?_)
    have loop : ∀ (k : Nat) (k9 : Nat), sq (gS g i) < k9 + k → 1 ≤ k9 → k9 ≤ sq (gS g i) → ∀ (ls : Array Slot), lv_has ls 7 [(0, .ref (aa 0)), (1, .int (nI i)), (2, .int (nI x)), (3, .int (nI y)), (4, .int (nI (tt (gs (sK (gS g i)) (sT (gS g i)) x y) k9))), (5, .int (nI k9))] → W p l e (headSpec wsX3_timeWith ({ frames := 1, cells := 0, slots := 0, locals := 25 })).room s m ([.ref (aa 0), .int (nI i), .int (nI x), .int (nI y)] : List Value).toArray below meth c s.heap [] 0 0 (MQ below (QcRead (nI (tt (gs (sK (gS g i)) (sT (gS g i)) x y) (sq (gS g i))))) ([.ref (aa 0), .int (nI i), .int (nI x), .int (nI y)] : List Value).toArray s 0 0 (fun _ => False)) (F0 m 19 ls []) := by
      intro k
      induction k with
      | zero => intro k9 hk; intros; exact absurd hk (by omega)
      | succ k ih_loop =>
        intro k9 hk h1 h2 ls hl
        refine lv_iload hx hb dX3_timeWith_19 (lv_at hl 5 rfl) ?_
        refine lv_aload_n hx hb dX3_timeWith_21 rfl (lv_at hl 0 rfl) ?_
        refine va_get (D := D) (ci := 3) (v := .ref (aa 8)) (C := RX3) (T := TX3) (N := 17) hx hb hts hin3 hown hE.1 hP 0 rfl rfl 9 (by decide) (hts (.fieldLink RX3 31 "HomekeysModel" "kept" "[I") (by decide +kernel)) (fun _ h9 => h9) rfl dX3_timeWith_22 ?_
        refine lv_iload_n hx hb dX3_timeWith_25 rfl (lv_at hl 1 rfl) ?_
        refine hk_iald hx hb hE hP 8 rfl (j := i) (by omega) (by omega) dX3_timeWith_26 ?_
        refine hk_top (y := nI (sq (gS g i))) rfl ?_
        refine hk_geN (tgt := 88) hx hb (by omega) (by omega) dX3_timeWith_27 (by decide) (fun hc => ?_) (fun hc => ?_)
        · obtain rfl : k9 = sq (gS g i) := by omega
          refine lv_iload hx hb dX3_timeWith_88 (lv_at hl 4 rfl) ?_
          exact W.iret (v := nI (tt (gs (sK (gS g i)) (sT (gS g i)) x y) (sq (gS g i)))) hx hb hr (fun t ht hW => ⟨rfl, ht⟩) (fun _ h => nomatch h) dX3_timeWith_90
        · obtain ⟨z, rfl⟩ : ∃ z, k9 = z + 1 := ⟨k9 - 1, by omega⟩
          have hT1 := hT z
          have hT2 := hT (z + 1)
          have hK1 := swp_lt hx9 hy9 (hK _ hT1)
          have hK2 := swp_lt hx9 hy9 (hK _ hT2)
          refine lv_aload_n hx hb dX3_timeWith_30 rfl (lv_at hl 0 rfl) ?_
          refine lv_iload_n hx hb dX3_timeWith_31 rfl (lv_at hl 1 rfl) ?_
          refine lv_aload_n hx hb dX3_timeWith_32 rfl (lv_at hl 0 rfl) ?_
          refine va_get (D := D) (ci := 3) (v := .ref (aa 9)) (C := RX3) (T := TX3) (N := 17) hx hb hts hin3 hown hE.1 hP 0 rfl rfl 10 (by decide) (hts (.fieldLink RX3 34 "HomekeysModel" "history" "[I") (by decide +kernel)) (fun _ h9 => h9) rfl dX3_timeWith_33 ?_
          refine lv_bipush (v := nI 30) hx hb dX3_timeWith_36 (by decide) ?_
          refine lv_iload_n hx hb dX3_timeWith_38 rfl (lv_at hl 1 rfl) ?_
          refine hk_mulN hx hb dX3_timeWith_39 ?_
          refine lv_iload hx hb dX3_timeWith_40 (lv_at hl 5 rfl) ?_
          refine hk_addN hx hb dX3_timeWith_42 ?_
          refine lv_iconst (v := nI 1) hx hb dX3_timeWith_43 (by decide) ?_
          refine hk_subN hx hb (by omega) dX3_timeWith_44 ?_
          refine hk_iald hx hb hE hP 9 rfl (j := 30 * i + z) (by omega) (by omega) dX3_timeWith_45 ?_
          refine hk_top (y := nI (sT (gS g i) z)) (mT_at g i (by omega)) ?_
          refine lv_iload_n hx hb dX3_timeWith_46 rfl (lv_at hl 2 rfl) ?_
          refine lv_iload_n hx hb dX3_timeWith_47 rfl (lv_at hl 3 rfl) ?_
          refine hk_R (rest := []) (va_Run.run (va_runV (As := [.int (nI i), .int (nI (sT (gS g i) z)), .int (nI x), .int (nI y)]) (rest := []) ⟨hx, hb, hml, hown, hts⟩ (c_X3_keyWith l D ct sa aa g rf i (sT (gS g i) z) x y hi hT1 hx9 hy9 hK) (cwV 4 hts gX3_timeWith_X3_keyWith rfl rfl rfl (by decide +kernel) ⟨Nat.le_of_ble_eq_true rfl, Nat.le_of_ble_eq_true rfl⟩) (hk_preV hE (va_recv hE.1 hP (ci := 3) (q0 := 0) rfl rfl) hP) rfl rfl hl.1 rfl (lv_room (Nat.le_of_ble_eq_true rfl)) dX3_timeWith_48 ⟨Nat.zero_le _, Nat.zero_le _⟩)) ?_
          refine lv_istore (lv' := [(6, .int (nI (swp x y (sK (gS g i) (sT (gS g i) z))))), (0, .ref (aa 0)), (1, .int (nI i)), (2, .int (nI x)), (3, .int (nI y)), (4, .int (nI (tt (gs (sK (gS g i)) (sT (gS g i)) x y) (z + 1)))), (5, .int (nI (z + 1)))]) hx hb dX3_timeWith_51 hl (by decide) rfl (fun ls hl => ?_)
          refine lv_iload hx hb dX3_timeWith_53 (lv_at hl 5 rfl) ?_
          refine lv_iload hx hb dX3_timeWith_55 (lv_at hl 0 rfl) ?_
          refine lv_aload_n hx hb dX3_timeWith_57 rfl (lv_at hl 1 rfl) ?_
          refine lv_iload_n hx hb dX3_timeWith_58 rfl (lv_at hl 2 rfl) ?_
          refine lv_aload_n hx hb dX3_timeWith_59 rfl (lv_at hl 1 rfl) ?_
          refine va_get (D := D) (ci := 3) (v := .ref (aa 9)) (C := RX3) (T := TX3) (N := 17) hx hb hts hin3 hown hE.1 hP 0 rfl rfl 10 (by decide) (hts (.fieldLink RX3 34 "HomekeysModel" "history" "[I") (by decide +kernel)) (fun _ h9 => h9) rfl dX3_timeWith_60 ?_
          refine lv_bipush (v := nI 30) hx hb dX3_timeWith_63 (by decide) ?_
          refine lv_iload_n hx hb dX3_timeWith_65 rfl (lv_at hl 2 rfl) ?_
          refine hk_mulN hx hb dX3_timeWith_66 ?_
          refine lv_iload hx hb dX3_timeWith_67 (lv_at hl 6 rfl) ?_
          refine hk_addN hx hb dX3_timeWith_69 ?_
          refine hk_iald hx hb hE hP 9 rfl (j := 30 * i + (z + 1)) (by omega) (by omega) dX3_timeWith_70 ?_
          refine hk_top (y := nI (sT (gS g i) (z + 1))) (mT_at g i (by omega)) ?_
          refine lv_iload_n hx hb dX3_timeWith_71 rfl (lv_at hl 3 rfl) ?_
          refine lv_iload_n hx hb dX3_timeWith_72 rfl (lv_at hl 4 rfl) ?_
          refine hk_R (rest := [.int (nI (swp x y (sK (gS g i) (sT (gS g i) z)))), .int (nI (tt (gs (sK (gS g i)) (sT (gS g i)) x y) (z + 1)))]) (va_Run.run (va_runV (As := [.int (nI i), .int (nI (sT (gS g i) (z + 1))), .int (nI x), .int (nI y)]) (rest := [.int (nI (swp x y (sK (gS g i) (sT (gS g i) z)))), .int (nI (tt (gs (sK (gS g i)) (sT (gS g i)) x y) (z + 1)))]) ⟨hx, hb, hml, hown, hts⟩ (c_X3_keyWith l D ct sa aa g rf i (sT (gS g i) (z + 1)) x y hi hT2 hx9 hy9 hK) (cwV 4 hts gX3_timeWith_X3_keyWith rfl rfl rfl (by decide +kernel) ⟨Nat.le_of_ble_eq_true rfl, Nat.le_of_ble_eq_true rfl⟩) (hk_preV hE (va_recv hE.1 hP (ci := 3) (q0 := 0) rfl rfl) hP) rfl rfl hl.1 rfl (lv_room (Nat.le_of_ble_eq_true rfl)) dX3_timeWith_73 ⟨Nat.zero_le _, Nat.zero_le _⟩)) ?_
          refine hk_R (rest := [.int (nI (tt (gs (sK (gS g i)) (sT (gS g i)) x y) (z + 1)))]) (va_Run.run (va_runS (As := [.int (nI (swp x y (sK (gS g i) (sT (gS g i) z)))), .int (nI (swp x y (sK (gS g i) (sT (gS g i) (z + 1)))))]) (rest := [.int (nI (tt (gs (sK (gS g i)) (sT (gS g i)) x y) (z + 1)))]) ⟨hx, hb, hml, hown, hts⟩ (c_X3_step l D ct sa _ _ hK1 hK2) (va_cwS 2 hts gX3_timeWith_X3_step rfl rfl rfl (by decide +kernel) ⟨Nat.le_of_ble_eq_true rfl, Nat.le_of_ble_eq_true rfl⟩) (hk_preS hE trivial) rfl rfl hl.1 rfl (lv_room (Nat.le_of_ble_eq_true rfl)) dX3_timeWith_76 ⟨Nat.zero_le _, Nat.zero_le _⟩)) ?_
          refine hk_addN hx hb dX3_timeWith_79 ?_
          refine lv_istore (lv' := [(4, .int (nI ((tt (gs (sK (gS g i)) (sT (gS g i)) x y) (z + 1)) + (stp (swp x y (sK (gS g i) (sT (gS g i) z))) (swp x y (sK (gS g i) (sT (gS g i) (z + 1)))))))), (6, .int (nI (swp x y (sK (gS g i) (sT (gS g i) z))))), (0, .ref (aa 0)), (1, .int (nI i)), (2, .int (nI x)), (3, .int (nI y)), (5, .int (nI (z + 1)))]) hx hb dX3_timeWith_80 hl (by decide) rfl (fun ls hl => ?_)
          refine lv_iinc (v := nI ((z + 1) + 1)) (lv' := [(5, .int (nI ((z + 1) + 1))), (4, .int (nI ((tt (gs (sK (gS g i)) (sT (gS g i)) x y) (z + 1)) + (stp (swp x y (sK (gS g i) (sT (gS g i) z))) (swp x y (sK (gS g i) (sT (gS g i) (z + 1)))))))), (6, .int (nI (swp x y (sK (gS g i) (sT (gS g i) z))))), (0, .ref (aa 0)), (1, .int (nI i)), (2, .int (nI x)), (3, .int (nI y))]) hx hb dX3_timeWith_82 hl (k := 6) rfl (nI_add _ _) (by decide) rfl (fun ls hl => ?_)
          refine lv_goto (tgt := 19) hx hb dX3_timeWith_85 (by decide) ?_
          exact ih_loop (z + 1 + 1) (by omega) (by omega) (by omega) ls (lv_sub hl [3, 4, 5, 6, 1, 0] rfl)
    exact loop (sq (gS g i) + 1) 1 (by omega) (by omega) (by omega) ls (lv_sub hl [2, 3, 4, 5, 1, 0] rfl)
  · refine lv_iconst (v := nI 0) hx hb dX3_timeWith_9 (by decide) ?_
    refine lv_goto (tgt := 14) hx hb dX3_timeWith_10 (by decide) ?_
    refine lv_istore (lv' := [(4, .int (nI 0)), (0, .ref (aa 0)), (1, .int (nI i)), (2, .int (nI x)), (3, .int (nI y))]) hx hb dX3_timeWith_14 hl (by decide) rfl (fun ls hl => ?_)
    refine lv_iconst (v := nI 1) hx hb dX3_timeWith_16 (by decide) ?_
    refine lv_istore (lv' := [(5, .int (nI 1)), (4, .int (nI 0)), (0, .ref (aa 0)), (1, .int (nI i)), (2, .int (nI x)), (3, .int (nI y))]) hx hb dX3_timeWith_17 hl (by decide) rfl (fun ls hl => ?_)
    refine lv_iload hx hb dX3_timeWith_19 (lv_at hl 0 rfl) ?_
    refine lv_aload_n hx hb dX3_timeWith_21 rfl (lv_at hl 2 rfl) ?_
    refine va_get (D := D) (ci := 3) (v := .ref (aa 8)) (C := RX3) (T := TX3) (N := 17) hx hb hts hin3 hown hE.1 hP 0 rfl rfl 9 (by decide) (hts (.fieldLink RX3 31 "HomekeysModel" "kept" "[I") (by decide +kernel)) (fun _ h9 => h9) rfl dX3_timeWith_22 ?_
    refine lv_iload_n hx hb dX3_timeWith_25 rfl (lv_at hl 3 rfl) ?_
    refine hk_iald hx hb hE hP 8 rfl (j := i) (by omega) (by omega) dX3_timeWith_26 ?_
    refine hk_top (y := nI (sq (gS g i))) rfl ?_
    refine hk_geN (tgt := 88) hx hb (by omega) (by omega) dX3_timeWith_27 (by decide) (fun hc => ?_) (fun hc => ?_)
    · refine lv_iload hx hb dX3_timeWith_88 (lv_at hl 1 rfl) ?_
      exact W.iret (v := nI 0) hx hb hr (fun t ht hW => ⟨by rw [h0]; rfl, ht⟩) (fun _ h => nomatch h) dX3_timeWith_90
    · exact absurd hc (by omega)

set_option maxHeartbeats 4000000 in
set_option maxRecDepth 100000 in
theorem c_X3_saved (l : Launch) (D : va_G) (ct : Nat → ClassId) (sa : Nat → Nat) (aa : Nat → Nat) (g : Sg) (rf : Int32) (i x y : Nat) (hi : i < 5) (hx9 : x < 12) (hy9 : y < 12) (hq : sq (gS g i) ≤ 30) (hK : ∀ z, z < 12 → sK (gS g i) z < 12) (hT : ∀ z, sT (gS g i) z < 12) : Met l yX3_saved wsX3_saved ({ frames := 2, cells := 0, slots := 0, locals := 51 }) (hkPc D ct sa [.ref (aa 0), .int (nI i), .int (nI x), .int (nI y)] (fun H => va_P D vwCl [((aa 0), .inr (3, [.int rf, .int (nI (gN g)), .ref (aa 1), .ref (aa 2), .ref (aa 3), .ref (aa 4), .ref (aa 5), .ref (aa 6), .ref (aa 7), .ref (aa 8), .ref (aa 9), .int (nI (gd g)), .ref (aa 10), .int (nI (gc g)), .ref (aa 11), .ref (aa 12), .ref (aa 13)])), ((aa 1), .inl (ct 0, 60, .inl (mK g))), ((aa 2), .inl (ct 0, 60, .inl (mL g))), ((aa 3), .inl (ct 0, 5, .inl (mY g))), ((aa 4), .inl (ct 0, 60, .inl (mS g))), ((aa 5), .inl (ct 0, 720, .inl (mP g))), ((aa 6), .inl (ct 0, 5, .inl (mC g))), ((aa 7), .inl (ct 0, 5, .inl (mLa g))), ((aa 8), .inl (ct 0, 5, .inl (mQ g))), ((aa 9), .inl (ct 0, 150, .inl (mT g))), ((aa 10), .inl (ct 0, 24, .inl (mD g))), ((aa 11), .inl (ct 0, 6, .inl (mW g))), ((aa 12), .inl (ct 0, 30, .inl (mX g))), ((aa 13), .inl (ct 0, 30, .inl (mZ g)))] H)) (QcRead (sv (sK (gS g i)) (sT (gS g i)) (sq (gS g i)) x y)) 0 0 (fun _ => False) := by
  refine Met.ofW (cc := cX3_saved) (maxL := 4) (ret := (some .int)) (by decide) rfl ?_
  intro p e s m args below meth c s₁ B hml hv
  obtain ⟨rfl, hE, hP⟩ := hv
  have hx := B.exec
  have hb := B.bytes
  have hr := B.returns
  have hts := atoms_spec (ws := wsX3_saved) B.pre
  have hown : s.vm.findClass RX3 = some m.cls := findClass_of_methodNamed B.named
  have hlocks := B.notSynchronized
  have hl := lv_entry ([.ref (aa 0), .int (nI i), .int (nI x), .int (nI y)]) (n := 4) (Nat.le_of_ble_eq_true rfl)
  rw [lg_entry_eq]
  generalize (lg_sl ([.ref (aa 0), .int (nI i), .int (nI x), .int (nI y)]) ++ List.replicate (4 - (lg_sl ([.ref (aa 0), .int (nI i), .int (nI x), .int (nI y)])).length) Slot.unset).toArray = ls at hl ⊢
  have hl : lv_has ls 4 [(0, .ref (aa 0)), (1, .int (nI i)), (2, .int (nI x)), (3, .int (nI y))] := hl
  refine lv_aload_n hx hb dX3_saved_0 rfl (lv_at hl 0 rfl) ?_
  refine lv_iload_n hx hb dX3_saved_1 rfl (lv_at hl 1 rfl) ?_
  refine lv_iconst (v := nI 0) hx hb dX3_saved_2 (by decide) ?_
  refine lv_iconst (v := nI 0) hx hb dX3_saved_3 (by decide) ?_
  refine hk_R (rest := []) (va_Run.run (va_runV (As := [.int (nI i), .int (nI 0), .int (nI 0)]) (rest := []) ⟨hx, hb, hml, hown, hts⟩ (c_X3_timeWith l D ct sa aa g rf i 0 0 hi (by decide) (by decide) hq hK hT) (cwV 3 hts gX3_saved_X3_timeWith rfl rfl rfl (by decide +kernel) ⟨Nat.le_of_ble_eq_true rfl, Nat.le_of_ble_eq_true rfl⟩) (hk_preV hE (va_recv hE.1 hP (ci := 3) (q0 := 0) rfl rfl) hP) rfl rfl hl.1 rfl (lv_room (Nat.le_of_ble_eq_true rfl)) dX3_saved_4 ⟨Nat.zero_le _, Nat.zero_le _⟩)) ?_
  refine hk_top (y := nI (tt (gk (sK (gS g i)) (sT (gS g i))) (sq (gS g i)))) (by rw [gs_00]) ?_
  refine lv_aload_n hx hb dX3_saved_7 rfl (lv_at hl 0 rfl) ?_
  refine lv_iload_n hx hb dX3_saved_8 rfl (lv_at hl 1 rfl) ?_
  refine lv_iload_n hx hb dX3_saved_9 rfl (lv_at hl 2 rfl) ?_
  refine lv_iload_n hx hb dX3_saved_10 rfl (lv_at hl 3 rfl) ?_
  refine hk_R (rest := [.int (nI (tt (gk (sK (gS g i)) (sT (gS g i))) (sq (gS g i))))]) (va_Run.run (va_runV (As := [.int (nI i), .int (nI x), .int (nI y)]) (rest := [.int (nI (tt (gk (sK (gS g i)) (sT (gS g i))) (sq (gS g i))))]) ⟨hx, hb, hml, hown, hts⟩ (c_X3_timeWith l D ct sa aa g rf i x y hi hx9 hy9 hq hK hT) (cwV 3 hts gX3_saved_X3_timeWith rfl rfl rfl (by decide +kernel) ⟨Nat.le_of_ble_eq_true rfl, Nat.le_of_ble_eq_true rfl⟩) (hk_preV hE (va_recv hE.1 hP (ci := 3) (q0 := 0) rfl rfl) hP) rfl rfl hl.1 rfl (lv_room (Nat.le_of_ble_eq_true rfl)) dX3_saved_11 ⟨Nat.zero_le _, Nat.zero_le _⟩)) ?_
  refine lv_isub hx hb dX3_saved_14 ?_
  exact W.iret (v := (nI (tt (gk (sK (gS g i)) (sT (gS g i))) (sq (gS g i)))) - (nI (tt (gs (sK (gS g i)) (sT (gS g i)) x y) (sq (gS g i))))) hx hb hr (fun t ht hW => ⟨rfl, ht⟩) (fun _ h => nomatch h) dX3_saved_15

set_option maxHeartbeats 4000000 in
set_option maxRecDepth 100000 in
theorem c_X3_why (l : Launch) (D : va_G) (ct : Nat → ClassId) (sa : Nat → Nat) (aa : Nat → Nat) (g : Sg) (rf : Int32) (x y z : Int32) (hN5 : gN g ≤ 5) : Met l yX3_why wsX3_why ({ frames := 2, cells := 0, slots := 0, locals := 43 }) (hkPc D ct sa [.ref (aa 0), .int x, .int y, .int z] (fun H => va_P D vwCl (mdW ct aa g rf) H)) (QcRead (hkWhy g x y z)) 0 0 (fun _ => False) := by
  refine Met.ofW (cc := cX3_why) (maxL := 5) (ret := (some .int)) (by decide) rfl ?_
  intro p e s m args below meth c s₁ B hml hv
  obtain ⟨rfl, hE, hP⟩ := hv
  have hx := B.exec
  have hb := B.bytes
  have hr := B.returns
  have hts := atoms_spec (ws := wsX3_why) B.pre
  have hown : s.vm.findClass RX3 = some m.cls := findClass_of_methodNamed B.named
  have hlocks := B.notSynchronized
  have hl := lv_entry ([.ref (aa 0), .int x, .int y, .int z]) (n := 5) (Nat.le_of_ble_eq_true rfl)
  rw [lg_entry_eq]
  generalize (lg_sl ([.ref (aa 0), .int x, .int y, .int z]) ++ List.replicate (5 - (lg_sl ([.ref (aa 0), .int x, .int y, .int z])).length) Slot.unset).toArray = ls at hl ⊢
  have hl : lv_has ls 5 [(0, .ref (aa 0)), (1, .int x), (2, .int y), (3, .int z)] := hl
  refine lv_aload_n hx hb dX3_why_0 rfl (lv_at hl 0 rfl) ?_
  refine lv_iload_n hx hb dX3_why_1 rfl (lv_at hl 1 rfl) ?_
  refine hk_R (rest := []) (va_Run.run (va_runV (As := [.int x]) (rest := []) ⟨hx, hb, hml, hown, hts⟩ (c_X3_isStudent l D ct sa aa g rf x (by omega)) (cwV 1 hts gX3_why_X3_isStudent rfl rfl rfl (by decide +kernel) ⟨Nat.le_of_ble_eq_true rfl, Nat.le_of_ble_eq_true rfl⟩) (hk_preV hE (va_recv hE.1 hP (ci := 3) (q0 := 0) rfl rfl) (hP.sub (ws' := [((aa 0), .inr (3, [.int rf, .int (nI (gN g)), .ref (aa 1), .ref (aa 2), .ref (aa 3), .ref (aa 4), .ref (aa 5), .ref (aa 6), .ref (aa 7), .ref (aa 8), .ref (aa 9), .int (nI (gd g)), .ref (aa 10), .int (nI (gc g)), .ref (aa 11), .ref (aa 12), .ref (aa 13)]))]) [0] rfl)) rfl rfl hl.1 rfl (lv_room (Nat.le_of_ble_eq_true rfl)) dX3_why_2 ⟨Nat.zero_le _, Nat.zero_le _⟩)) ?_
  by_cases hbx : bd x (gN g)
  · refine hk_top (y := nI 0) (if_pos hbx) ?_
    refine hk_eq0N (tgt := 26) hx hb (by omega) dX3_why_5 (by decide) (fun hk8 => ?_) (fun hk9 => ?_)
    · refine lv_iconst (v := nI 0) hx hb dX3_why_26 (by decide) ?_
      refine lv_istore (lv' := [(4, .int (nI 0)), (0, .ref (aa 0)), (1, .int x), (2, .int y), (3, .int z)]) hx hb dX3_why_27 hl (by decide) rfl (fun ls hl => ?_)
      refine lv_iload hx hb dX3_why_29 (lv_at hl 0 rfl) ?_
      refine hk_ne0N (tgt := 38) hx hb (by omega) dX3_why_31 (by decide) (fun hk8 => ?_) (fun hk9 => ?_)
      · exact absurd hk8 (by decide)
      · refine lv_iconst (v := nI 1) hx hb dX3_why_34 (by decide) ?_
        refine lv_goto (tgt := 48) hx hb dX3_why_35 (by decide) ?_
        exact W.iret (v := nI 1) hx hb hr (fun t ht hW => ⟨by rw [hkWhy, if_pos (Or.inl hbx)]; rfl, ht⟩) (fun _ h => nomatch h) dX3_why_48
    · exact absurd hk9 (by decide)
  · refine hk_top (y := nI 1) (if_neg hbx) ?_
    refine hk_eq0N (tgt := 26) hx hb (by omega) dX3_why_5 (by decide) (fun hk8 => ?_) (fun hk9 => ?_)
    · exact absurd hk8 (by decide)
    · refine lv_iload_n hx hb dX3_why_8 rfl (lv_at hl 2 rfl) ?_
      refine hk_R (rest := []) (va_Run.run (va_runS (As := [.int y]) (rest := []) ⟨hx, hb, hml, hown, hts⟩ (c_X3_isKey l D ct sa y) (va_cwS 1 hts gX3_why_X3_isKey rfl rfl rfl (by decide +kernel) ⟨Nat.le_of_ble_eq_true rfl, Nat.le_of_ble_eq_true rfl⟩) (hk_preS hE trivial) rfl rfl hl.1 rfl (lv_room (Nat.le_of_ble_eq_true rfl)) dX3_why_9 ⟨Nat.zero_le _, Nat.zero_le _⟩)) ?_
      by_cases hby : bd y 12
      · refine hk_top (y := nI 0) (if_pos hby) ?_
        refine hk_eq0N (tgt := 26) hx hb (by omega) dX3_why_12 (by decide) (fun hk8 => ?_) (fun hk9 => ?_)
        · refine lv_iconst (v := nI 0) hx hb dX3_why_26 (by decide) ?_
          refine lv_istore (lv' := [(4, .int (nI 0)), (0, .ref (aa 0)), (1, .int x), (2, .int y), (3, .int z)]) hx hb dX3_why_27 hl (by decide) rfl (fun ls hl => ?_)
          refine lv_iload hx hb dX3_why_29 (lv_at hl 0 rfl) ?_
          refine hk_ne0N (tgt := 38) hx hb (by omega) dX3_why_31 (by decide) (fun hk8 => ?_) (fun hk9 => ?_)
          · exact absurd hk8 (by decide)
          · refine lv_iconst (v := nI 1) hx hb dX3_why_34 (by decide) ?_
            refine lv_goto (tgt := 48) hx hb dX3_why_35 (by decide) ?_
            exact W.iret (v := nI 1) hx hb hr (fun t ht hW => ⟨by rw [hkWhy, if_pos (Or.inr (Or.inl hby))]; rfl, ht⟩) (fun _ h => nomatch h) dX3_why_48
        · exact absurd hk9 (by decide)
      · refine hk_top (y := nI 1) (if_neg hby) ?_
        refine hk_eq0N (tgt := 26) hx hb (by omega) dX3_why_12 (by decide) (fun hk8 => ?_) (fun hk9 => ?_)
        · exact absurd hk8 (by decide)
        · refine lv_iload_n hx hb dX3_why_15 rfl (lv_at hl 3 rfl) ?_
          refine hk_R (rest := []) (va_Run.run (va_runS (As := [.int z]) (rest := []) ⟨hx, hb, hml, hown, hts⟩ (c_X3_isKey l D ct sa z) (va_cwS 1 hts gX3_why_X3_isKey rfl rfl rfl (by decide +kernel) ⟨Nat.le_of_ble_eq_true rfl, Nat.le_of_ble_eq_true rfl⟩) (hk_preS hE trivial) rfl rfl hl.1 rfl (lv_room (Nat.le_of_ble_eq_true rfl)) dX3_why_16 ⟨Nat.zero_le _, Nat.zero_le _⟩)) ?_
          by_cases hbz : bd z 12
          · refine hk_top (y := nI 0) (if_pos hbz) ?_
            refine hk_eq0N (tgt := 26) hx hb (by omega) dX3_why_19 (by decide) (fun hk8 => ?_) (fun hk9 => ?_)
            · refine lv_iconst (v := nI 0) hx hb dX3_why_26 (by decide) ?_
              refine lv_istore (lv' := [(4, .int (nI 0)), (0, .ref (aa 0)), (1, .int x), (2, .int y), (3, .int z)]) hx hb dX3_why_27 hl (by decide) rfl (fun ls hl => ?_)
              refine lv_iload hx hb dX3_why_29 (lv_at hl 0 rfl) ?_
              refine hk_ne0N (tgt := 38) hx hb (by omega) dX3_why_31 (by decide) (fun hk8 => ?_) (fun hk9 => ?_)
              · exact absurd hk8 (by decide)
              · refine lv_iconst (v := nI 1) hx hb dX3_why_34 (by decide) ?_
                refine lv_goto (tgt := 48) hx hb dX3_why_35 (by decide) ?_
                exact W.iret (v := nI 1) hx hb hr (fun t ht hW => ⟨by rw [hkWhy, if_pos (Or.inr (Or.inr hbz))]; rfl, ht⟩) (fun _ h => nomatch h) dX3_why_48
            · exact absurd hk9 (by decide)
          · refine hk_top (y := nI 1) (if_neg hbz) ?_
            refine hk_eq0N (tgt := 26) hx hb (by omega) dX3_why_19 (by decide) (fun hk8 => ?_) (fun hk9 => ?_)
            · exact absurd hk8 (by decide)
            · refine lv_iconst (v := nI 1) hx hb dX3_why_22 (by decide) ?_
              refine lv_goto (tgt := 27) hx hb dX3_why_23 (by decide) ?_
              refine lv_istore (lv' := [(4, .int (nI 1)), (0, .ref (aa 0)), (1, .int x), (2, .int y), (3, .int z)]) hx hb dX3_why_27 hl (by decide) rfl (fun ls hl => ?_)
              refine lv_iload hx hb dX3_why_29 (lv_at hl 0 rfl) ?_
              refine hk_ne0N (tgt := 38) hx hb (by omega) dX3_why_31 (by decide) (fun hk8 => ?_) (fun hk9 => ?_)
              · refine lv_iload_n hx hb dX3_why_38 rfl (lv_at hl 3 rfl) ?_
                refine lv_iload_n hx hb dX3_why_39 rfl (lv_at hl 4 rfl) ?_
                refine lv_icmp_ne (tgt := 47) hx hb dX3_why_40 (by decide) (fun h1 => ?_) (fun h1 => ?_)
                · refine lv_iconst (v := nI 0) hx hb dX3_why_47 (by decide) ?_
                  exact W.iret (v := nI 0) hx hb hr (fun t ht hW => ⟨by rw [hkWhy, if_neg (fun q => q.elim hbx (fun q => q.elim hby hbz)), if_neg h1]; rfl, ht⟩) (fun _ h => nomatch h) dX3_why_48
                · refine lv_iconst (v := nI 2) hx hb dX3_why_43 (by decide) ?_
                  refine lv_goto (tgt := 48) hx hb dX3_why_44 (by decide) ?_
                  exact W.iret (v := nI 2) hx hb hr (fun t ht hW => ⟨by rw [hkWhy, if_neg (fun q => q.elim hbx (fun q => q.elim hby hbz)), if_pos h1]; rfl, ht⟩) (fun _ h => nomatch h) dX3_why_48
              · exact absurd hk9 (by decide)
