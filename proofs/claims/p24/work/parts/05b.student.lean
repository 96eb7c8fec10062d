set_option maxHeartbeats 4000000 in
set_option maxRecDepth 100000 in
theorem c_X2_groupOf (l : Launch) (D : va_G) (ct : Nat → ClassId) (sa : Nat → Nat) (x : Int32) (k : Nat) (hk : k < 12) : Met l yX2_groupOf wsX2_groupOf ({ frames := 1, cells := 0, slots := 0, locals := 20 }) (hkPc D ct sa [.int x, .int (nI k)] (fun _ => True)) (QcRead (hkGr x k)) 0 0 (fun _ => False) := by
  refine Met.ofW (cc := cX2_groupOf) (maxL := 2) (ret := (some .int)) (by decide) rfl ?_
  intro p e s m args below meth c s₁ B hml hv
  obtain ⟨rfl, hE, -⟩ := hv
  have hx := B.exec
  have hb := B.bytes
  have hr := B.returns
  have hts := atoms_spec (ws := wsX2_groupOf) B.pre
  have hown : s.vm.findClass RX2 = some m.cls := findClass_of_methodNamed B.named
  have hlocks := B.notSynchronized
  have hl := lv_entry ([.int x, .int (nI k)]) (n := 2) (Nat.le_of_ble_eq_true rfl)
  rw [lg_entry_eq]
  generalize (lg_sl ([.int x, .int (nI k)]) ++ List.replicate (2 - (lg_sl ([.int x, .int (nI k)])).length) Slot.unset).toArray = ls at hl ⊢
  have hl : lv_has ls 2 [(0, .int x), (1, .int (nI k))] := hl
  refine lv_iload_n hx hb dX2_groupOf_0 rfl (lv_at hl 0 rfl) ?_
  rcases hk_t2 x with rfl | rfl | rfl | ⟨h0, h1, h2, hn⟩
  · refine lv_tableIn (tgt := 28) hx hb dX2_groupOf_1 (by decide) (by decide) rfl (by decide) ?_
    refine lv_iload_n hx hb dX2_groupOf_28 rfl (lv_at hl 1 rfl) ?_
    exact W.iret (v := nI k) hx hb hr (fun t ht hW => ⟨rfl, ht⟩) (fun _ h => nomatch h) dX2_groupOf_29
  · refine lv_tableIn (tgt := 30) hx hb dX2_groupOf_1 (by decide) (by decide) rfl (by decide) ?_
    refine lv_iload_n hx hb dX2_groupOf_30 rfl (lv_at hl 1 rfl) ?_
    refine hk_R (rest := []) (va_Run.run (va_runS (As := [.int (nI k)]) (rest := []) ⟨hx, hb, hml, hown, hts⟩ (c_X2_fingerOf l D ct sa k hk) (va_cwS 1 hts gX2_groupOf_X2_fingerOf rfl rfl rfl (by decide +kernel) ⟨Nat.le_of_ble_eq_true rfl, Nat.le_of_ble_eq_true rfl⟩) (hk_preS hE trivial) rfl rfl hl.1 rfl (lv_room (Nat.le_of_ble_eq_true rfl)) dX2_groupOf_31 ⟨Nat.zero_le _, Nat.zero_le _⟩)) ?_
    exact W.iret (v := nI (k % 6)) hx hb hr (fun t ht hW => ⟨rfl, ht⟩) (fun _ h => nomatch h) dX2_groupOf_34
  · refine lv_tableIn (tgt := 35) hx hb dX2_groupOf_1 (by decide) (by decide) rfl (by decide) ?_
    refine lv_iload_n hx hb dX2_groupOf_35 rfl (lv_at hl 1 rfl) ?_
    refine hk_R (rest := []) (va_Run.run (va_runS (As := [.int (nI k)]) (rest := []) ⟨hx, hb, hml, hown, hts⟩ (c_X2_handOf l D ct sa k hk) (va_cwS 1 hts gX2_groupOf_X2_handOf rfl rfl rfl (by decide +kernel) ⟨Nat.le_of_ble_eq_true rfl, Nat.le_of_ble_eq_true rfl⟩) (hk_preS hE trivial) rfl rfl hl.1 rfl (lv_room (Nat.le_of_ble_eq_true rfl)) dX2_groupOf_36 ⟨Nat.zero_le _, Nat.zero_le _⟩)) ?_
    exact W.iret (v := nI (k % 6 / 3)) hx hb hr (fun t ht hW => ⟨rfl, ht⟩) (fun _ h => nomatch h) dX2_groupOf_39
  · refine lv_tableOut (tgt := 40) hx hb dX2_groupOf_1 hn (by decide) ?_
    refine lv_iconst (v := nI 0) hx hb dX2_groupOf_40 (by decide) ?_
    exact W.iret (v := nI 0) hx hb hr (fun t ht hW => ⟨by rw [hkGr, if_neg h0, if_neg h1, if_neg h2]; rfl, ht⟩) (fun _ h => nomatch h) dX2_groupOf_41

set_option maxHeartbeats 4000000 in
set_option maxRecDepth 100000 in
theorem c_X2_groups (l : Launch) (D : va_G) (ct : Nat → ClassId) (sa : Nat → Nat) (x : Int32) : Met l yX2_groups wsX2_groups ({ frames := 0, cells := 0, slots := 0, locals := 0 }) (hkPc D ct sa [.int x] (fun _ => True)) (QcRead (hkGs x)) 0 0 (fun _ => False) := by
  refine Met.ofW (cc := cX2_groups) (maxL := 1) (ret := (some .int)) (by decide) rfl ?_
  intro p e s m args below meth c s₁ B hml hv
  obtain ⟨rfl, hE, -⟩ := hv
  have hx := B.exec
  have hb := B.bytes
  have hr := B.returns
  have hts := atoms_spec (ws := wsX2_groups) B.pre
  have hown : s.vm.findClass RX2 = some m.cls := findClass_of_methodNamed B.named
  have hlocks := B.notSynchronized
  have hl := lv_entry ([.int x]) (n := 1) (Nat.le_of_ble_eq_true rfl)
  rw [lg_entry_eq]
  generalize (lg_sl ([.int x]) ++ List.replicate (1 - (lg_sl ([.int x])).length) Slot.unset).toArray = ls at hl ⊢
  have hl : lv_has ls 1 [(0, .int x)] := hl
  refine lv_iload_n hx hb dX2_groups_0 rfl (lv_at hl 0 rfl) ?_
  rcases hk_t3 x with rfl | rfl | rfl | rfl | ⟨h0, h1, h2, h3, hn⟩
  · refine lv_tableIn (tgt := 32) hx hb dX2_groups_1 (by decide) (by decide) rfl (by decide) ?_
    refine lv_bipush (v := nI 12) hx hb dX2_groups_32 (by decide) ?_
    exact W.iret (v := nI 12) hx hb hr (fun t ht hW => ⟨rfl, ht⟩) (fun _ h => nomatch h) dX2_groups_34
  · refine lv_tableIn (tgt := 35) hx hb dX2_groups_1 (by decide) (by decide) rfl (by decide) ?_
    refine lv_bipush (v := nI 6) hx hb dX2_groups_35 (by decide) ?_
    exact W.iret (v := nI 6) hx hb hr (fun t ht hW => ⟨rfl, ht⟩) (fun _ h => nomatch h) dX2_groups_37
  · refine lv_tableIn (tgt := 38) hx hb dX2_groups_1 (by decide) (by decide) rfl (by decide) ?_
    refine lv_iconst (v := nI 2) hx hb dX2_groups_38 (by decide) ?_
    exact W.iret (v := nI 2) hx hb hr (fun t ht hW => ⟨rfl, ht⟩) (fun _ h => nomatch h) dX2_groups_39
  · refine lv_tableIn (tgt := 40) hx hb dX2_groups_1 (by decide) (by decide) rfl (by decide) ?_
    refine lv_iconst (v := nI 1) hx hb dX2_groups_40 (by decide) ?_
    exact W.iret (v := nI 1) hx hb hr (fun t ht hW => ⟨rfl, ht⟩) (fun _ h => nomatch h) dX2_groups_41
  · refine lv_tableOut (tgt := 42) hx hb dX2_groups_1 hn (by decide) ?_
    refine lv_iconst (v := nI 0) hx hb dX2_groups_42 (by decide) ?_
    exact W.iret (v := nI 0) hx hb hr (fun t ht hW => ⟨by rw [hkGs, if_neg h0, if_neg h1, if_neg h2, if_neg h3]; rfl, ht⟩) (fun _ h => nomatch h) dX2_groups_43

set_option maxHeartbeats 4000000 in
set_option maxRecDepth 100000 in
theorem c_X1_timeWith (l : Launch) (D : va_G) (ct : Nat → ClassId) (sa : Nat → Nat) (q0 q1 q2 q3 q4 q5 kp : Nat) (K L T : Nat → Nat) (S P : Nat → Int32) (Y C : Int32) (g : Nat → Nat) (k1 k2 : Int32) (hkp : kp ≤ 30) (hT : ∀ p, T p < 12) (hg : ∀ p, p < kp → hkSw (nI (K (T p))) k1 k2 = nI (g p) ∧ g p < 12) : Met l yX1_timeWith wsX1_timeWith ({ frames := 3, cells := 0, slots := 0, locals := 69 }) (hkPc D ct sa [.ref q0, .int k1, .int k2] (fun H => va_P D vwCl [(q0, .inr (1, [.ref q1, .ref q2, .int Y, .ref q3, .ref q4, .ref q5, .int (nI kp), .int C])), (q1, .inl (ct 0, 12, .inl (fun j => nI (K j)))), (q2, .inl (ct 0, 12, .inl (fun j => nI (L j)))), (q3, .inl (ct 0, 12, .inl S)), (q4, .inl (ct 0, 144, .inl P)), (q5, .inl (ct 0, 30, .inl (fun j => nI (T j))))] H)) (QcRead (nI (tt g kp))) 0 0 (fun _ => False) := by
  refine Met.ofW (cc := cX1_timeWith) (maxL := 3) (ret := (some .int)) (by decide) rfl ?_
  intro p e s m args below meth c s₁ B hml hv
  obtain ⟨rfl, hE, hP⟩ := hv
  have hx := B.exec
  have hb := B.bytes
  have hr := B.returns
  have hts := atoms_spec (ws := wsX1_timeWith) B.pre
  have hown : s.vm.findClass RX1 = some m.cls := findClass_of_methodNamed B.named
  have hlocks := B.notSynchronized
  have hin1 : ∀ w ∈ wsX10, w ∈ wsX1_timeWith := by decide +kernel
  have hl := lv_entry ([.ref q0, .int k1, .int k2]) (n := 3) (Nat.le_of_ble_eq_true rfl)
  rw [lg_entry_eq]
  generalize (lg_sl ([.ref q0, .int k1, .int k2]) ++ List.replicate (3 - (lg_sl ([.ref q0, .int k1, .int k2])).length) Slot.unset).toArray = ls at hl ⊢
  have hl : lv_has ls 3 [(0, .ref q0), (1, .int k1), (2, .int k2)] := hl
  refine lv_aload_n hx hb dX1_timeWith_0 rfl (lv_at hl 0 rfl) ?_
  refine va_get (D := D) (ci := 1) (v := .ref q5) (C := RX1) (T := TX1) (N := 8) hx hb hts hin1 hown hE.1 hP 0 rfl rfl 5 (by decide) (hts (.fieldLink RX1 28 "Homekeys$Student" "typed" "[I") (by decide +kernel)) (fun _ h9 => h9) rfl dX1_timeWith_1 ?_
  refine lv_aload_n hx hb dX1_timeWith_4 rfl (lv_at hl 0 rfl) ?_
  refine va_get (D := D) (ci := 1) (v := .int (nI kp)) (C := RX1) (T := TX1) (N := 8) hx hb hts hin1 hown hE.1 hP 0 rfl rfl 6 (by decide) (hts (.fieldLink RX1 31 "Homekeys$Student" "kept" "I") (by decide +kernel)) (fun _ h9 => h9) rfl dX1_timeWith_5 ?_
  refine lv_aload_n hx hb dX1_timeWith_8 rfl (lv_at hl 0 rfl) ?_
  refine va_get (D := D) (ci := 1) (v := .ref q1) (C := RX1) (T := TX1) (N := 8) hx hb hts hin1 hown hE.1 hP 0 rfl rfl 0 (by decide) (hts (.fieldLink RX1 9 "Homekeys$Student" "keys" "[I") (by decide +kernel)) (fun _ h9 => h9) rfl dX1_timeWith_9 ?_
  refine lv_iload_n hx hb dX1_timeWith_12 rfl (lv_at hl 1 rfl) ?_
  refine lv_iload_n hx hb dX1_timeWith_13 rfl (lv_at hl 2 rfl) ?_
  refine hk_R (rest := []) (va_Run.run (va_runSN (host := RX2) (As := [.ref q5, .int (nI kp), .ref q1, .int k1, .int k2]) (rest := []) ⟨hx, hb, hml, hown, hts⟩ (c_X2_textTime l D ct sa q5 q1 kp 30 T K g k1 k2 (by decide) hkp (fun p _ => hT p) hg) ⟨va_cnB 5 hts gX1_timeWith_X2_textTime_n66 rfl rfl rfl (hE.nw hkN_X1_66) (hts (.initialized RX2) (by decide +kernel)) (by decide +kernel) ⟨Nat.le_of_ble_eq_true rfl, Nat.le_of_ble_eq_true rfl⟩, hts (.static yX2_textTime) (by decide +kernel), trivial⟩ (hk_preS hE (hP.sub (ws' := [(q5, .inl (ct 0, 30, .inl (fun j => nI (T j)))), (q1, .inl (ct 0, 12, .inl (fun j => nI (K j))))]) [5, 1] rfl)) rfl rfl hl.1 rfl (lv_room (Nat.le_of_ble_eq_true rfl)) dX1_timeWith_14 ⟨Nat.zero_le _, Nat.zero_le _⟩)) ?_
  exact W.iret (v := nI (tt g kp)) hx hb hr (fun t ht hW => ⟨rfl, ht⟩) (fun _ h => nomatch h) dX1_timeWith_17

set_option maxHeartbeats 4000000 in
set_option maxRecDepth 100000 in
theorem c_X1_savedBy (l : Launch) (D : va_G) (ct : Nat → ClassId) (sa : Nat → Nat) (q0 q1 q2 q3 q4 q5 kp : Nat) (K L T : Nat → Nat) (S P : Nat → Int32) (Y C : Int32) (a b : Nat) (hkp : kp ≤ 30) (hT : ∀ p, T p < 12) (hK : ∀ x, x < 12 → K x < 12) (ha : a < 12) (hb9 : b < 12) : Met l yX1_savedBy wsX1_savedBy ({ frames := 4, cells := 0, slots := 0, locals := 91 }) (hkPc D ct sa [.ref q0, .int (nI a), .int (nI b)] (fun H => va_P D vwCl [(q0, .inr (1, [.ref q1, .ref q2, .int Y, .ref q3, .ref q4, .ref q5, .int (nI kp), .int C])), (q1, .inl (ct 0, 12, .inl (fun j => nI (K j)))), (q2, .inl (ct 0, 12, .inl (fun j => nI (L j)))), (q3, .inl (ct 0, 12, .inl S)), (q4, .inl (ct 0, 144, .inl P)), (q5, .inl (ct 0, 30, .inl (fun j => nI (T j))))] H)) (QcRead (sv K T kp a b)) 0 0 (fun _ => False) := by
  refine Met.ofW (cc := cX1_savedBy) (maxL := 3) (ret := (some .int)) (by decide) rfl ?_
  intro p e s m args below meth c s₁ B hml hv
  obtain ⟨rfl, hE, hP⟩ := hv
  have hx := B.exec
  have hb := B.bytes
  have hr := B.returns
  have hts := atoms_spec (ws := wsX1_savedBy) B.pre
  have hown : s.vm.findClass RX1 = some m.cls := findClass_of_methodNamed B.named
  have hlocks := B.notSynchronized
  have hl := lv_entry ([.ref q0, .int (nI a), .int (nI b)]) (n := 3) (Nat.le_of_ble_eq_true rfl)
  rw [lg_entry_eq]
  generalize (lg_sl ([.ref q0, .int (nI a), .int (nI b)]) ++ List.replicate (3 - (lg_sl ([.ref q0, .int (nI a), .int (nI b)])).length) Slot.unset).toArray = ls at hl ⊢
  have hl : lv_has ls 3 [(0, .ref q0), (1, .int (nI a)), (2, .int (nI b))] := hl
  refine lv_aload_n hx hb dX1_savedBy_0 rfl (lv_at hl 0 rfl) ?_
  refine lv_iconst (v := (-1)) hx hb dX1_savedBy_1 (by decide) ?_
  refine lv_iconst (v := (-1)) hx hb dX1_savedBy_2 (by decide) ?_
  refine hk_R (rest := []) (va_Run.run (va_runV (As := [.int (-1), .int (-1)]) (rest := []) ⟨hx, hb, hml, hown, hts⟩ (c_X1_timeWith l D ct sa q0 q1 q2 q3 q4 q5 kp K L T S P Y C (gk K T) (-1) (-1) hkp hT (fun p _ => ⟨hkSw_m1 (hK _ (hT p)), hK _ (hT p)⟩)) (cwV 2 hts gX1_savedBy_X1_timeWith rfl rfl rfl (by decide +kernel) ⟨Nat.le_of_ble_eq_true rfl, Nat.le_of_ble_eq_true rfl⟩) (hk_preV hE (va_recv hE.1 hP (ci := 1) (q0 := 0) rfl rfl) hP) rfl rfl hl.1 rfl (lv_room (Nat.le_of_ble_eq_true rfl)) dX1_savedBy_3 ⟨Nat.zero_le _, Nat.zero_le _⟩)) ?_
  refine lv_aload_n hx hb dX1_savedBy_6 rfl (lv_at hl 0 rfl) ?_
  refine lv_iload_n hx hb dX1_savedBy_7 rfl (lv_at hl 1 rfl) ?_
  refine lv_iload_n hx hb dX1_savedBy_8 rfl (lv_at hl 2 rfl) ?_
  refine hk_R (rest := [.int (nI (tt (gk K T) kp))]) (va_Run.run (va_runV (As := [.int (nI a), .int (nI b)]) (rest := [.int (nI (tt (gk K T) kp))]) ⟨hx, hb, hml, hown, hts⟩ (c_X1_timeWith l D ct sa q0 q1 q2 q3 q4 q5 kp K L T S P Y C (gs K T a b) (nI a) (nI b) hkp hT (fun p _ => ⟨hkSw_nI ha hb9 (hK _ (hT p)), swp_lt ha hb9 (hK _ (hT p))⟩)) (cwV 2 hts gX1_savedBy_X1_timeWith rfl rfl rfl (by decide +kernel) ⟨Nat.le_of_ble_eq_true rfl, Nat.le_of_ble_eq_true rfl⟩) (hk_preV hE (va_recv hE.1 hP (ci := 1) (q0 := 0) rfl rfl) hP) rfl rfl hl.1 rfl (lv_room (Nat.le_of_ble_eq_true rfl)) dX1_savedBy_9 ⟨Nat.zero_le _, Nat.zero_le _⟩)) ?_
  refine lv_isub hx hb dX1_savedBy_12 ?_
  exact W.iret (v := (nI (tt (gk K T) kp)) - (nI (tt (gs K T a b) kp))) hx hb hr (fun t ht hW => ⟨rfl, ht⟩) (fun _ h => nomatch h) dX1_savedBy_13

set_option maxHeartbeats 4000000 in
set_option maxRecDepth 100000 in
theorem c_X1_bestExchange (l : Launch) (D : va_G) (ct : Nat → ClassId) (sa : Nat → Nat) (q0 q1 q2 q3 q4 q5 kp : Nat) (K L T : Nat → Nat) (S P : Nat → Int32) (Y C : Int32) (hkp : kp ≤ 30) (hT : ∀ p, T p < 12) (hK : ∀ x, x < 12 → K x < 12) : Met l yX1_bestExchange wsX1_bestExchange ({ frames := 4, cells := 0, slots := 0, locals := 91 }) (hkPc D ct sa [.ref q0] (fun H => va_P D vwCl [(q0, .inr (1, [.ref q1, .ref q2, .int Y, .ref q3, .ref q4, .ref q5, .int (nI kp), .int C])), (q1, .inl (ct 0, 12, .inl (fun j => nI (K j)))), (q2, .inl (ct 0, 12, .inl (fun j => nI (L j)))), (q3, .inl (ct 0, 12, .inl S)), (q4, .inl (ct 0, 144, .inl P)), (q5, .inl (ct 0, 30, .inl (fun j => nI (T j))))] H)) (QcRead (bs K T kp 144).1) 0 0 (fun _ => False) := by
  refine Met.ofW (cc := cX1_bestExchange) (maxL := 7) (ret := (some .int)) (by decide) rfl ?_
  intro p e s m args below meth c s₁ B hml hv
  obtain ⟨rfl, hE, hP⟩ := hv
  have hx := B.exec
  have hb := B.bytes
  have hr := B.returns
  have hts := atoms_spec (ws := wsX1_bestExchange) B.pre
  have hown : s.vm.findClass RX1 = some m.cls := findClass_of_methodNamed B.named
  have hlocks := B.notSynchronized
  have hl := lv_entry ([.ref q0]) (n := 7) (Nat.le_of_ble_eq_true rfl)
  rw [lg_entry_eq]
  generalize (lg_sl ([.ref q0]) ++ List.replicate (7 - (lg_sl ([.ref q0])).length) Slot.unset).toArray = ls at hl ⊢
  have hl : lv_has ls 7 [(0, .ref q0)] := hl
  refine lv_aload_n hx hb dX1_bestExchange_0 rfl (lv_at hl 0 rfl) ?_
  refine lv_iconst (v := (-1)) hx hb dX1_bestExchange_1 (by decide) ?_
  refine lv_iconst (v := (-1)) hx hb dX1_bestExchange_2 (by decide) ?_
  refine hk_R (rest := []) (va_Run.run (va_runV (As := [.int (-1), .int (-1)]) (rest := []) ⟨hx, hb, hml, hown, hts⟩ (c_X1_timeWith l D ct sa q0 q1 q2 q3 q4 q5 kp K L T S P Y C (gk K T) (-1) (-1) hkp hT (fun p _ => ⟨hkSw_m1 (hK _ (hT p)), hK _ (hT p)⟩)) (cwV 2 hts gX1_bestExchange_X1_timeWith rfl rfl rfl (by decide +kernel) ⟨Nat.le_of_ble_eq_true rfl, Nat.le_of_ble_eq_true rfl⟩) (hk_preV hE (va_recv hE.1 hP (ci := 1) (q0 := 0) rfl rfl) hP) rfl rfl hl.1 rfl (lv_room (Nat.le_of_ble_eq_true rfl)) dX1_bestExchange_3 ⟨Nat.zero_le _, Nat.zero_le _⟩)) ?_
  refine lv_istore_n (lv' := [(1, .int (nI (tt (gk K T) kp))), (0, .ref q0)]) hx hb dX1_bestExchange_6 rfl hl (by decide) rfl (fun ls hl => ?_)
  refine lv_iconst (v := nI 0) hx hb dX1_bestExchange_7 (by decide) ?_
  refine lv_istore_n (lv' := [(2, .int (nI 0)), (1, .int (nI (tt (gk K T) kp))), (0, .ref q0)]) hx hb dX1_bestExchange_8 rfl hl (by decide) rfl (fun ls hl => ?_)
  refine lv_iconst (v := (-1)) hx hb dX1_bestExchange_9 (by decide) ?_
  refine lv_istore_n (lv' := [(3, .int (-1)), (2, .int (nI 0)), (1, .int (nI (tt (gk K T) kp))), (0, .ref q0)]) hx hb dX1_bestExchange_10 rfl hl (by decide) rfl (fun ls hl => ?_)
  refine lv_iconst (v := nI 0) hx hb dX1_bestExchange_11 (by decide) ?_
  refine lv_istore (lv' := [(4, .int (nI 0)), (3, .int (-1)), (2, .int (nI 0)), (1, .int (nI (tt (gk K T) kp))), (0, .ref q0)]) hx hb dX1_bestExchange_12 hl (by decide) rfl (fun ls hl => ?_)
  have loop : ∀ (k : Nat) (i : Nat), 12 < i + k → i ≤ 12 → ∀ (ls : Array Slot), lv_has ls 7 [(0, .ref q0), (1, .int (nI (tt (gk K T) kp))), (2, .int ((bs K T kp (12 * i)).2)), (3, .int ((bs K T kp (12 * i)).1)), (4, .int (nI i))] → W p l e (headSpec wsX1_bestExchange ({ frames := 4, cells := 0, slots := 0, locals := 91 })).room s m ([.ref q0] : List Value).toArray below meth c s.heap [] 0 0 (MQ below (QcRead (bs K T kp 144).1) ([.ref q0] : List Value).toArray s 0 0 (fun _ => False)) (F0 m 14 ls []) := by
    intro k
    induction k with
    | zero => intro i hk; intros; exact absurd hk (by omega)
    | succ k ih_loop =>
      intro i hk hi ls hl
      refine lv_iload hx hb dX1_bestExchange_14 (lv_at hl 4 rfl) ?_
      refine lv_bipush (v := nI 12) hx hb dX1_bestExchange_16 (by decide) ?_
      refine hk_geN (tgt := 76) hx hb (by omega) (by omega) dX1_bestExchange_18 (by decide) (fun hc => ?_) (fun hc => ?_)
      · obtain rfl : i = 12 := by omega
        refine lv_iload_n hx hb dX1_bestExchange_76 rfl (lv_at hl 3 rfl) ?_
        exact W.iret (v := (bs K T kp (12 * 12)).1) hx hb hr (fun t ht hW => ⟨rfl, ht⟩) (fun _ h => nomatch h) dX1_bestExchange_77
      · refine lv_iload hx hb dX1_bestExchange_21 (lv_at hl 4 rfl) ?_
        refine lv_iconst (v := nI 1) hx hb dX1_bestExchange_23 (by decide) ?_
        refine hk_addN hx hb dX1_bestExchange_24 ?_
        refine lv_istore (lv' := [(5, .int (nI (i + 1))), (0, .ref q0), (1, .int (nI (tt (gk K T) kp))), (2, .int ((bs K T kp (12 * i)).2)), (3, .int ((bs K T kp (12 * i)).1)), (4, .int (nI i))]) hx hb dX1_bestExchange_25 hl (by decide) rfl (fun ls hl => ?_)
        have loop2 : ∀ (k : Nat) (j : Nat), 12 < j + k → j ≤ 12 → i < j → ∀ (ls : Array Slot), lv_has ls 7 [(0, .ref q0), (1, .int (nI (tt (gk K T) kp))), (2, .int ((bs K T kp (12 * i + j)).2)), (3, .int ((bs K T kp (12 * i + j)).1)), (4, .int (nI i)), (5, .int (nI j))] → W p l e (headSpec wsX1_bestExchange ({ frames := 4, cells := 0, slots := 0, locals := 91 })).room s m ([.ref q0] : List Value).toArray below meth c s.heap [] 0 0 (MQ below (QcRead (bs K T kp 144).1) ([.ref q0] : List Value).toArray s 0 0 (fun _ => False)) (F0 m 27 ls []) := by
          intro k
          induction k with
          | zero => intro j hk; intros; exact absurd hk (by omega)
          | succ k ih_loop2 =>
            intro j hk hj hij ls hl
            refine lv_iload hx hb dX1_bestExchange_27 (lv_at hl 5 rfl) ?_
            refine lv_bipush (v := nI 12) hx hb dX1_bestExchange_29 (by decide) ?_
            refine hk_geN (tgt := 70) hx hb (by omega) (by omega) dX1_bestExchange_31 (by decide) (fun hc => ?_) (fun hc => ?_)
            · obtain rfl : j = 12 := by omega
              refine lv_iinc (v := nI (i + 1)) (lv' := [(4, .int (nI (i + 1))), (0, .ref q0), (1, .int (nI (tt (gk K T) kp))), (2, .int ((bs K T kp (12 * i + 12)).2)), (3, .int ((bs K T kp (12 * i + 12)).1)), (5, .int (nI 12))]) hx hb dX1_bestExchange_70 hl (k := 4) rfl (nI_add _ _) (by decide) rfl (fun ls hl => ?_)
              refine lv_goto (tgt := 14) hx hb dX1_bestExchange_73 (by decide) ?_
              exact ih_loop (i + 1) (by omega) (by omega) ls (lv_sub hl [1, 2, 3, 4, 0] rfl)
            · refine lv_iload_n hx hb dX1_bestExchange_34 rfl (lv_at hl 1 rfl) ?_
              refine lv_aload_n hx hb dX1_bestExchange_35 rfl (lv_at hl 0 rfl) ?_
              refine lv_iload hx hb dX1_bestExchange_36 (lv_at hl 4 rfl) ?_
              refine lv_iload hx hb dX1_bestExchange_38 (lv_at hl 5 rfl) ?_
              refine hk_R (rest := [.int (nI (tt (gk K T) kp))]) (va_Run.run (va_runV (As := [.int (nI i), .int (nI j)]) (rest := [.int (nI (tt (gk K T) kp))]) ⟨hx, hb, hml, hown, hts⟩ (c_X1_timeWith l D ct sa q0 q1 q2 q3 q4 q5 kp K L T S P Y C (gs K T i j) (nI i) (nI j) hkp hT (fun p _ => ⟨hkSw_nI (by omega) (by omega) (hK _ (hT p)), swp_lt (by omega) (by omega) (hK _ (hT p))⟩)) (cwV 2 hts gX1_bestExchange_X1_timeWith rfl rfl rfl (by decide +kernel) ⟨Nat.le_of_ble_eq_true rfl, Nat.le_of_ble_eq_true rfl⟩) (hk_preV hE (va_recv hE.1 hP (ci := 1) (q0 := 0) rfl rfl) hP) rfl rfl hl.1 rfl (lv_room (Nat.le_of_ble_eq_true rfl)) dX1_bestExchange_40 ⟨Nat.zero_le _, Nat.zero_le _⟩)) ?_
              refine lv_isub hx hb dX1_bestExchange_43 ?_
              refine lv_istore (lv' := [(6, .int (sv K T kp i j)), (0, .ref q0), (1, .int (nI (tt (gk K T) kp))), (2, .int ((bs K T kp (12 * i + j)).2)), (3, .int ((bs K T kp (12 * i + j)).1)), (4, .int (nI i)), (5, .int (nI j))]) hx hb dX1_bestExchange_44 hl (by decide) rfl (fun ls hl => ?_)
              refine lv_iload hx hb dX1_bestExchange_46 (lv_at hl 0 rfl) ?_
              refine lv_iload_n hx hb dX1_bestExchange_48 rfl (lv_at hl 3 rfl) ?_
              have hst := bs_step K T kp i j (by omega) hij
              refine lv_icmp_le (tgt := 64) hx hb dX1_bestExchange_49 (by decide) (fun hc => ?_) (fun hc => ?_)
              · rw [if_neg (Int32.not_lt.mpr hc)] at hst
                refine lv_iinc (v := nI (j + 1)) (lv' := [(5, .int (nI (j + 1))), (6, .int (sv K T kp i j)), (0, .ref q0), (1, .int (nI (tt (gk K T) kp))), (2, .int ((bs K T kp (12 * i + j)).2)), (3, .int ((bs K T kp (12 * i + j)).1)), (4, .int (nI i))]) hx hb dX1_bestExchange_64 hl (k := 6) rfl (nI_add _ _) (by decide) rfl (fun ls hl => ?_)
                refine lv_goto (tgt := 27) hx hb dX1_bestExchange_67 (by decide) ?_
                exact ih_loop2 (j + 1) (by omega) (by omega) (by omega) ls (by rw [show 12 * i + (j + 1) = 12 * i + j + 1 from rfl, hst]; exact lv_sub hl [2, 3, 4, 5, 6, 0] rfl)
              · rw [if_pos (Int32.not_le.mp hc)] at hst
                refine lv_iload hx hb dX1_bestExchange_52 (lv_at hl 0 rfl) ?_
                refine lv_istore_n (lv' := [(2, .int (sv K T kp i j)), (6, .int (sv K T kp i j)), (0, .ref q0), (1, .int (nI (tt (gk K T) kp))), (3, .int ((bs K T kp (12 * i + j)).1)), (4, .int (nI i)), (5, .int (nI j))]) hx hb dX1_bestExchange_54 rfl hl (by decide) rfl (fun ls hl => ?_)
                refine lv_bipush (v := nI 12) hx hb dX1_bestExchange_55 (by decide) ?_
                refine lv_iload hx hb dX1_bestExchange_57 (lv_at hl 5 rfl) ?_
                refine hk_mulN hx hb dX1_bestExchange_59 ?_
                refine lv_iload hx hb dX1_bestExchange_60 (lv_at hl 6 rfl) ?_
                refine hk_addN hx hb dX1_bestExchange_62 ?_
                refine lv_istore_n (lv' := [(3, .int (nI ((12 * i) + j))), (2, .int (sv K T kp i j)), (6, .int (sv K T kp i j)), (0, .ref q0), (1, .int (nI (tt (gk K T) kp))), (4, .int (nI i)), (5, .int (nI j))]) hx hb dX1_bestExchange_63 rfl hl (by decide) rfl (fun ls hl => ?_)
                refine lv_iinc (v := nI (j + 1)) (lv' := [(5, .int (nI (j + 1))), (3, .int (nI ((12 * i) + j))), (2, .int (sv K T kp i j)), (6, .int (sv K T kp i j)), (0, .ref q0), (1, .int (nI (tt (gk K T) kp))), (4, .int (nI i))]) hx hb dX1_bestExchange_64 hl (k := 6) rfl (nI_add _ _) (by decide) rfl (fun ls hl => ?_)
                refine lv_goto (tgt := 27) hx hb dX1_bestExchange_67 (by decide) ?_
                exact ih_loop2 (j + 1) (by omega) (by omega) (by omega) ls (by rw [show 12 * i + (j + 1) = 12 * i + j + 1 from rfl, hst]; exact lv_sub hl [4, 5, 2, 1, 6, 0] rfl)
        have hsk := bs_skip K T kp i (by omega) (i + 1) (by omega)
        exact loop2 13 (i + 1) (by omega) (by omega) (by omega) ls (by rw [hsk]; exact lv_sub hl [1, 2, 3, 4, 5, 0] rfl)
  exact loop 13 0 (by omega) (by omega) ls (lv_sub hl [4, 3, 2, 1, 0] rfl)

set_option maxHeartbeats 4000000 in
set_option maxRecDepth 100000 in
theorem c_X1_slipsOf (l : Launch) (D : va_G) (ct : Nat → ClassId) (sa : Nat → Nat) (q0 q1 q2 q3 q4 q5 kp : Nat) (K L T : Nat → Nat) (S P : Nat → Int32) (Y C : Int32) (x z : Int32) : Met l yX1_slipsOf wsX1_slipsOf ({ frames := 2, cells := 0, slots := 0, locals := 41 }) (hkPc D ct sa [.ref q0, .int x, .int z] (fun H => va_P D vwCl [(q0, .inr (1, [.ref q1, .ref q2, .int Y, .ref q3, .ref q4, .ref q5, .int (nI kp), .int C])), (q1, .inl (ct 0, 12, .inl (fun j => nI (K j)))), (q2, .inl (ct 0, 12, .inl (fun j => nI (L j)))), (q3, .inl (ct 0, 12, .inl S)), (q4, .inl (ct 0, 144, .inl P)), (q5, .inl (ct 0, 30, .inl (fun j => nI (T j))))] H)) (QcRead (sl S x z 12)) 0 0 (fun _ => False) := by
  refine Met.ofW (cc := cX1_slipsOf) (maxL := 5) (ret := (some .int)) (by decide) rfl ?_
  intro p e s m args below meth c s₁ B hml hv
  obtain ⟨rfl, hE, hP⟩ := hv
  have hx := B.exec
  have hb := B.bytes
  have hr := B.returns
  have hts := atoms_spec (ws := wsX1_slipsOf) B.pre
  have hown : s.vm.findClass RX1 = some m.cls := findClass_of_methodNamed B.named
  have hlocks := B.notSynchronized
  have hin1 : ∀ w ∈ wsX10, w ∈ wsX1_slipsOf := by decide +kernel
  have hl := lv_entry ([.ref q0, .int x, .int z]) (n := 5) (Nat.le_of_ble_eq_true rfl)
  rw [lg_entry_eq]
  generalize (lg_sl ([.ref q0, .int x, .int z]) ++ List.replicate (5 - (lg_sl ([.ref q0, .int x, .int z])).length) Slot.unset).toArray = ls at hl ⊢
  have hl : lv_has ls 5 [(0, .ref q0), (1, .int x), (2, .int z)] := hl
  refine lv_iconst (v := nI 0) hx hb dX1_slipsOf_0 (by decide) ?_
  refine lv_istore_n (lv' := [(3, .int (nI 0)), (0, .ref q0), (1, .int x), (2, .int z)]) hx hb dX1_slipsOf_1 rfl hl (by decide) rfl (fun ls hl => ?_)
  refine lv_iconst (v := nI 0) hx hb dX1_slipsOf_2 (by decide) ?_
  refine lv_istore (lv' := [(4, .int (nI 0)), (3, .int (nI 0)), (0, .ref q0), (1, .int x), (2, .int z)]) hx hb dX1_slipsOf_3 hl (by decide) rfl (fun ls hl => ?_)
  have loop : ∀ (k : Nat) (i : Nat), 12 < i + k → i ≤ 12 → ∀ (ls : Array Slot), lv_has ls 5 [(0, .ref q0), (1, .int x), (2, .int z), (3, .int (sl S x z i)), (4, .int (nI i))] → W p l e (headSpec wsX1_slipsOf ({ frames := 2, cells := 0, slots := 0, locals := 41 })).room s m ([.ref q0, .int x, .int z] : List Value).toArray below meth c s.heap [] 0 0 (MQ below (QcRead (sl S x z 12)) ([.ref q0, .int x, .int z] : List Value).toArray s 0 0 (fun _ => False)) (F0 m 5 ls []) := by
    intro k
    induction k with
    | zero => intro i hk; intros; exact absurd hk (by omega)
    | succ k ih_loop =>
      intro i hk hi ls hl
      refine lv_iload hx hb dX1_slipsOf_5 (lv_at hl 4 rfl) ?_
      refine lv_bipush (v := nI 12) hx hb dX1_slipsOf_7 (by decide) ?_
      refine hk_geN (tgt := 40) hx hb (by omega) (by omega) dX1_slipsOf_9 (by decide) (fun hc => ?_) (fun hc => ?_)
      · obtain rfl : i = 12 := by omega
        refine lv_iload_n hx hb dX1_slipsOf_40 rfl (lv_at hl 3 rfl) ?_
        exact W.iret (v := sl S x z 12) hx hb hr (fun t ht hW => ⟨rfl, ht⟩) (fun _ h => nomatch h) dX1_slipsOf_41
      · refine lv_iload_n hx hb dX1_slipsOf_12 rfl (lv_at hl 1 rfl) ?_
        refine lv_iload hx hb dX1_slipsOf_13 (lv_at hl 4 rfl) ?_
        refine hk_R (rest := []) (va_Run.run (va_runSN (host := RX2) (As := [.int x, .int (nI i)]) (rest := []) ⟨hx, hb, hml, hown, hts⟩ (c_X2_groupOf l D ct sa x i hc) ⟨va_cnB 2 hts gX1_slipsOf_X2_groupOf_n63 rfl rfl rfl (hE.nw hkN_X1_63) (hts (.initialized RX2) (by decide +kernel)) (by decide +kernel) ⟨Nat.le_of_ble_eq_true rfl, Nat.le_of_ble_eq_true rfl⟩, hts (.static yX2_groupOf) (by decide +kernel), trivial⟩ (hk_preS hE trivial) rfl rfl hl.1 rfl (lv_room (Nat.le_of_ble_eq_true rfl)) dX1_slipsOf_15 ⟨Nat.zero_le _, Nat.zero_le _⟩)) ?_
        refine lv_iload_n hx hb dX1_slipsOf_18 rfl (lv_at hl 2 rfl) ?_
        refine lv_icmp_ne (tgt := 34) hx hb dX1_slipsOf_19 (by decide) (fun hg => ?_) (fun hg => ?_)
        · refine lv_iinc (v := nI (i + 1)) (lv' := [(4, .int (nI (i + 1))), (0, .ref q0), (1, .int x), (2, .int z), (3, .int (sl S x z i))]) hx hb dX1_slipsOf_34 hl (k := 4) rfl (nI_add _ _) (by decide) rfl (fun ls hl => ?_)
          refine lv_goto (tgt := 5) hx hb dX1_slipsOf_37 (by decide) ?_
          exact ih_loop (i + 1) (by omega) (by omega) ls (by rw [sl, if_neg hg]; exact lv_sub hl [1, 2, 3, 4, 0] rfl)
        · refine lv_iload_n hx hb dX1_slipsOf_22 rfl (lv_at hl 3 rfl) ?_
          refine lv_aload_n hx hb dX1_slipsOf_23 rfl (lv_at hl 0 rfl) ?_
          refine va_get (D := D) (ci := 1) (v := .ref q3) (C := RX1) (T := TX1) (N := 8) hx hb hts hin1 hown hE.1 hP 0 rfl rfl 3 (by decide) (hts (.fieldLink RX1 22 "Homekeys$Student" "keySlips" "[I") (by decide +kernel)) (fun _ h9 => h9) rfl dX1_slipsOf_24 ?_
          refine lv_iload hx hb dX1_slipsOf_27 (lv_at hl 4 rfl) ?_
          refine hk_R (rest := [.int (sl S x z i)]) (va_Run.run (va_runSN (host := RX2) (As := [.ref q3, .int (nI i)]) (rest := [.int (sl S x z i)]) ⟨hx, hb, hml, hown, hts⟩ (c_X2_at l D ct sa q3 12 (S) (nI i) (by decide)) ⟨va_cnB 2 hts gX1_slipsOf_X2_at_n41 rfl rfl rfl (hE.nw hkN_X1_41) (hts (.initialized RX2) (by decide +kernel)) (by decide +kernel) ⟨Nat.le_of_ble_eq_true rfl, Nat.le_of_ble_eq_true rfl⟩, hts (.static yX2_at) (by decide +kernel), trivial⟩ (hk_preS hE (hP.sub (ws' := [(q3, .inl (ct 0, 12, .inl S))]) [3] rfl)) rfl rfl hl.1 rfl (lv_room (Nat.le_of_ble_eq_true rfl)) dX1_slipsOf_29 ⟨Nat.zero_le _, Nat.zero_le _⟩)) ?_
          refine hk_top (y := S i) (hkAt_in hc (by decide)) ?_
          refine lv_iadd hx hb dX1_slipsOf_32 ?_
          refine lv_istore_n (lv' := [(3, .int ((sl S x z i) + (S i))), (0, .ref q0), (1, .int x), (2, .int z), (4, .int (nI i))]) hx hb dX1_slipsOf_33 rfl hl (by decide) rfl (fun ls hl => ?_)
          refine lv_iinc (v := nI (i + 1)) (lv' := [(4, .int (nI (i + 1))), (3, .int ((sl S x z i) + (S i))), (0, .ref q0), (1, .int x), (2, .int z)]) hx hb dX1_slipsOf_34 hl (k := 4) rfl (nI_add _ _) (by decide) rfl (fun ls hl => ?_)
          refine lv_goto (tgt := 5) hx hb dX1_slipsOf_37 (by decide) ?_
          exact ih_loop (i + 1) (by omega) (by omega) ls (by rw [sl, if_pos hg]; exact lv_sub hl [2, 3, 4, 1, 0] rfl)
  exact loop 13 0 (by omega) (by omega) ls (lv_sub hl [2, 3, 4, 1, 0] rfl)

set_option maxHeartbeats 4000000 in
set_option maxRecDepth 100000 in
theorem c_X1_letterSlips (l : Launch) (D : va_G) (ct : Nat → ClassId) (sa : Nat → Nat) (q0 q1 q2 q3 q4 q5 kp : Nat) (K L T : Nat → Nat) (S P : Nat → Int32) (Y C : Int32) (i : Nat) (hi : i < 12) (hK : ∀ x, x < 12 → K x < 12) : Met l yX1_letterSlips wsX1_letterSlips ({ frames := 1, cells := 0, slots := 0, locals := 21 }) (hkPc D ct sa [.ref q0, .int (nI i)] (fun H => va_P D vwCl [(q0, .inr (1, [.ref q1, .ref q2, .int Y, .ref q3, .ref q4, .ref q5, .int (nI kp), .int C])), (q1, .inl (ct 0, 12, .inl (fun j => nI (K j)))), (q2, .inl (ct 0, 12, .inl (fun j => nI (L j)))), (q3, .inl (ct 0, 12, .inl S)), (q4, .inl (ct 0, 144, .inl P)), (q5, .inl (ct 0, 30, .inl (fun j => nI (T j))))] H)) (QcRead (S (K i))) 0 0 (fun _ => False) := by
  refine Met.ofW (cc := cX1_letterSlips) (maxL := 2) (ret := (some .int)) (by decide) rfl ?_
  intro p e s m args below meth c s₁ B hml hv
  obtain ⟨rfl, hE, hP⟩ := hv
  have hx := B.exec
  have hb := B.bytes
  have hr := B.returns
  have hts := atoms_spec (ws := wsX1_letterSlips) B.pre
  have hown : s.vm.findClass RX1 = some m.cls := findClass_of_methodNamed B.named
  have hlocks := B.notSynchronized
  have hin1 : ∀ w ∈ wsX10, w ∈ wsX1_letterSlips := by decide +kernel
  have hl := lv_entry ([.ref q0, .int (nI i)]) (n := 2) (Nat.le_of_ble_eq_true rfl)
  rw [lg_entry_eq]
  generalize (lg_sl ([.ref q0, .int (nI i)]) ++ List.replicate (2 - (lg_sl ([.ref q0, .int (nI i)])).length) Slot.unset).toArray = ls at hl ⊢
  have hl : lv_has ls 2 [(0, .ref q0), (1, .int (nI i))] := hl
  refine lv_aload_n hx hb dX1_letterSlips_0 rfl (lv_at hl 0 rfl) ?_
  refine va_get (D := D) (ci := 1) (v := .ref q3) (C := RX1) (T := TX1) (N := 8) hx hb hts hin1 hown hE.1 hP 0 rfl rfl 3 (by decide) (hts (.fieldLink RX1 22 "Homekeys$Student" "keySlips" "[I") (by decide +kernel)) (fun _ h9 => h9) rfl dX1_letterSlips_1 ?_
  refine lv_aload_n hx hb dX1_letterSlips_4 rfl (lv_at hl 0 rfl) ?_
  refine va_get (D := D) (ci := 1) (v := .ref q1) (C := RX1) (T := TX1) (N := 8) hx hb hts hin1 hown hE.1 hP 0 rfl rfl 0 (by decide) (hts (.fieldLink RX1 9 "Homekeys$Student" "keys" "[I") (by decide +kernel)) (fun _ h9 => h9) rfl dX1_letterSlips_5 ?_
  refine lv_iload_n hx hb dX1_letterSlips_8 rfl (lv_at hl 1 rfl) ?_
  refine hk_R (rest := [.ref q3]) (va_Run.run (va_runSN (host := RX2) (As := [.ref q1, .int (nI i)]) (rest := [.ref q3]) ⟨hx, hb, hml, hown, hts⟩ (c_X2_at l D ct sa q1 12 (fun j => nI (K j)) (nI i) (by decide)) ⟨va_cnB 2 hts gX1_letterSlips_X2_at_n41 rfl rfl rfl (hE.nw hkN_X1_41) (hts (.initialized RX2) (by decide +kernel)) (by decide +kernel) ⟨Nat.le_of_ble_eq_true rfl, Nat.le_of_ble_eq_true rfl⟩, hts (.static yX2_at) (by decide +kernel), trivial⟩ (hk_preS hE (hP.sub (ws' := [(q1, .inl (ct 0, 12, .inl (fun j => nI (K j))))]) [1] rfl)) rfl rfl hl.1 rfl (lv_room (Nat.le_of_ble_eq_true rfl)) dX1_letterSlips_9 ⟨Nat.zero_le _, Nat.zero_le _⟩)) ?_
  refine hk_top (y := nI (K i)) (hkAt_in hi (by decide)) ?_
  refine hk_R (rest := []) (va_Run.run (va_runSN (host := RX2) (As := [.ref q3, .int (nI (K i))]) (rest := []) ⟨hx, hb, hml, hown, hts⟩ (c_X2_at l D ct sa q3 12 (S) (nI (K i)) (by decide)) ⟨va_cnB 2 hts gX1_letterSlips_X2_at_n41 rfl rfl rfl (hE.nw hkN_X1_41) (hts (.initialized RX2) (by decide +kernel)) (by decide +kernel) ⟨Nat.le_of_ble_eq_true rfl, Nat.le_of_ble_eq_true rfl⟩, hts (.static yX2_at) (by decide +kernel), trivial⟩ (hk_preS hE (hP.sub (ws' := [(q3, .inl (ct 0, 12, .inl S))]) [3] rfl)) rfl rfl hl.1 rfl (lv_room (Nat.le_of_ble_eq_true rfl)) dX1_letterSlips_12 ⟨Nat.zero_le _, Nat.zero_le _⟩)) ?_
  refine hk_top (y := S (K i)) (hkAt_in (hK i hi) (by decide)) ?_
  exact W.iret (v := S (K i)) hx hb hr (fun t ht hW => ⟨rfl, ht⟩) (fun _ h => nomatch h) dX1_letterSlips_15

set_option maxHeartbeats 4000000 in
set_option maxRecDepth 100000 in
theorem c_X1_lettersAhead (l : Launch) (D : va_G) (ct : Nat → ClassId) (sa : Nat → Nat) (q0 q1 q2 q3 q4 q5 kp : Nat) (K L T : Nat → Nat) (S P : Nat → Int32) (Y C : Int32) (i : Nat) (hi : i < 12) (hK : ∀ x, x < 12 → K x < 12) : Met l yX1_lettersAhead wsX1_lettersAhead ({ frames := 2, cells := 0, slots := 0, locals := 42 }) (hkPc D ct sa [.ref q0, .int (nI i)] (fun H => va_P D vwCl [(q0, .inr (1, [.ref q1, .ref q2, .int Y, .ref q3, .ref q4, .ref q5, .int (nI kp), .int C])), (q1, .inl (ct 0, 12, .inl (fun j => nI (K j)))), (q2, .inl (ct 0, 12, .inl (fun j => nI (L j)))), (q3, .inl (ct 0, 12, .inl S)), (q4, .inl (ct 0, 144, .inl P)), (q5, .inl (ct 0, 30, .inl (fun j => nI (T j))))] H)) (QcRead (nI (la (fun x => S (K x)) i 12))) 0 0 (fun _ => False) := by
  refine Met.ofW (cc := cX1_lettersAhead) (maxL := 6) (ret := (some .int)) (by decide) rfl ?_
  intro p e s m args below meth c s₁ B hml hv
  obtain ⟨rfl, hE, hP⟩ := hv
  have hx := B.exec
  have hb := B.bytes
  have hr := B.returns
  have hts := atoms_spec (ws := wsX1_lettersAhead) B.pre
  have hown : s.vm.findClass RX1 = some m.cls := findClass_of_methodNamed B.named
  have hlocks := B.notSynchronized
  have hl := lv_entry ([.ref q0, .int (nI i)]) (n := 6) (Nat.le_of_ble_eq_true rfl)
  rw [lg_entry_eq]
  generalize (lg_sl ([.ref q0, .int (nI i)]) ++ List.replicate (6 - (lg_sl ([.ref q0, .int (nI i)])).length) Slot.unset).toArray = ls at hl ⊢
  have hl : lv_has ls 6 [(0, .ref q0), (1, .int (nI i))] := hl
  refine lv_aload_n hx hb dX1_lettersAhead_0 rfl (lv_at hl 0 rfl) ?_
  refine lv_iload_n hx hb dX1_lettersAhead_1 rfl (lv_at hl 1 rfl) ?_
  refine hk_R (rest := []) (va_Run.run (va_runV (As := [.int (nI i)]) (rest := []) ⟨hx, hb, hml, hown, hts⟩ (c_X1_letterSlips l D ct sa q0 q1 q2 q3 q4 q5 kp K L T S P Y C i hi hK) (cwV 1 hts gX1_lettersAhead_X1_letterSlips rfl rfl rfl (by decide +kernel) ⟨Nat.le_of_ble_eq_true rfl, Nat.le_of_ble_eq_true rfl⟩) (hk_preV hE (va_recv hE.1 hP (ci := 1) (q0 := 0) rfl rfl) hP) rfl rfl hl.1 rfl (lv_room (Nat.le_of_ble_eq_true rfl)) dX1_lettersAhead_2 ⟨Nat.zero_le _, Nat.zero_le _⟩)) ?_
  refine lv_istore_n (lv' := [(2, .int (S (K i))), (0, .ref q0), (1, .int (nI i))]) hx hb dX1_lettersAhead_5 rfl hl (by decide) rfl (fun ls hl => ?_)
  refine lv_iconst (v := nI 0) hx hb dX1_lettersAhead_6 (by decide) ?_
  refine lv_istore_n (lv' := [(3, .int (nI 0)), (2, .int (S (K i))), (0, .ref q0), (1, .int (nI i))]) hx hb dX1_lettersAhead_7 rfl hl (by decide) rfl (fun ls hl => ?_)
  refine lv_iconst (v := nI 0) hx hb dX1_lettersAhead_8 (by decide) ?_
  refine lv_istore (lv' := [(4, .int (nI 0)), (3, .int (nI 0)), (2, .int (S (K i))), (0, .ref q0), (1, .int (nI i))]) hx hb dX1_lettersAhead_9 hl (by decide) rfl (fun ls hl => ?_)
  have loop : ∀ (k : Nat) (r : Nat), 12 < r + k → r ≤ 12 → ∀ (ls : Array Slot), lv_has ls 6 [(0, .ref q0), (1, .int (nI i)), (2, .int (S (K i))), (3, .int (nI (la (fun x => S (K x)) i r))), (4, .int (nI r))] → W p l e (headSpec wsX1_lettersAhead ({ frames := 2, cells := 0, slots := 0, locals := 42 })).room s m ([.ref q0, .int (nI i)] : List Value).toArray below meth c s.heap [] 0 0 (MQ below (QcRead (nI (la (fun x => S (K x)) i 12))) ([.ref q0, .int (nI i)] : List Value).toArray s 0 0 (fun _ => False)) (F0 m 11 ls []) := by
    intro k
    induction k with
    | zero => intro r hk; intros; exact absurd hk (by omega)
    | succ k ih_loop =>
      intro r hk hr9 ls hl
      refine lv_iload hx hb dX1_lettersAhead_11 (lv_at hl 4 rfl) ?_
      refine lv_bipush (v := nI 12) hx hb dX1_lettersAhead_13 (by decide) ?_
      refine hk_geN (tgt := 53) hx hb (by omega) (by omega) dX1_lettersAhead_15 (by decide) (fun hc => ?_) (fun hc => ?_)
      · obtain rfl : r = 12 := by omega
        refine lv_iload_n hx hb dX1_lettersAhead_53 rfl (lv_at hl 3 rfl) ?_
        exact W.iret (v := nI (la (fun x => S (K x)) i 12)) hx hb hr (fun t ht hW => ⟨rfl, ht⟩) (fun _ h => nomatch h) dX1_lettersAhead_54
      · refine lv_aload_n hx hb dX1_lettersAhead_18 rfl (lv_at hl 0 rfl) ?_
        refine lv_iload hx hb dX1_lettersAhead_19 (lv_at hl 4 rfl) ?_
        refine hk_R (rest := []) (va_Run.run (va_runV (As := [.int (nI r)]) (rest := []) ⟨hx, hb, hml, hown, hts⟩ (c_X1_letterSlips l D ct sa q0 q1 q2 q3 q4 q5 kp K L T S P Y C r hc hK) (cwV 1 hts gX1_lettersAhead_X1_letterSlips rfl rfl rfl (by decide +kernel) ⟨Nat.le_of_ble_eq_true rfl, Nat.le_of_ble_eq_true rfl⟩) (hk_preV hE (va_recv hE.1 hP (ci := 1) (q0 := 0) rfl rfl) hP) rfl rfl hl.1 rfl (lv_room (Nat.le_of_ble_eq_true rfl)) dX1_lettersAhead_21 ⟨Nat.zero_le _, Nat.zero_le _⟩)) ?_
        refine lv_istore (lv' := [(5, .int (S (K r))), (0, .ref q0), (1, .int (nI i)), (2, .int (S (K i))), (3, .int (nI (la (fun x => S (K x)) i r))), (4, .int (nI r))]) hx hb dX1_lettersAhead_24 hl (by decide) rfl (fun ls hl => ?_)
        refine lv_iload hx hb dX1_lettersAhead_26 (lv_at hl 0 rfl) ?_
        refine lv_iload_n hx hb dX1_lettersAhead_28 rfl (lv_at hl 3 rfl) ?_
        refine lv_icmp_gt (tgt := 44) hx hb dX1_lettersAhead_29 (by decide) (fun h1 => ?_) (fun h1 => ?_)
        · refine lv_iinc (v := nI (la (fun x => S (K x)) i r + 1)) (lv' := [(3, .int (nI (la (fun x => S (K x)) i r + 1))), (5, .int (S (K r))), (0, .ref q0), (1, .int (nI i)), (2, .int (S (K i))), (4, .int (nI r))]) hx hb dX1_lettersAhead_44 hl (k := 4) rfl (nI_add _ _) (by decide) rfl (fun ls hl => ?_)
          refine lv_iinc (v := nI (r + 1)) (lv' := [(4, .int (nI (r + 1))), (3, .int (nI (la (fun x => S (K x)) i r + 1))), (5, .int (S (K r))), (0, .ref q0), (1, .int (nI i)), (2, .int (S (K i)))]) hx hb dX1_lettersAhead_47 hl (k := 5) rfl (nI_add _ _) (by decide) rfl (fun ls hl => ?_)
          refine lv_goto (tgt := 11) hx hb dX1_lettersAhead_50 (by decide) ?_
          exact ih_loop (r + 1) (by omega) (by omega) ls (by rw [la, if_pos (Or.inl h1)]; exact lv_sub hl [3, 4, 5, 1, 0] rfl)
        · refine lv_iload hx hb dX1_lettersAhead_32 (lv_at hl 0 rfl) ?_
          refine lv_iload_n hx hb dX1_lettersAhead_34 rfl (lv_at hl 3 rfl) ?_
          refine lv_icmp_ne (tgt := 47) hx hb dX1_lettersAhead_35 (by decide) (fun h2 => ?_) (fun h2 => ?_)
          · refine lv_iinc (v := nI (r + 1)) (lv' := [(4, .int (nI (r + 1))), (5, .int (S (K r))), (0, .ref q0), (1, .int (nI i)), (2, .int (S (K i))), (3, .int (nI (la (fun x => S (K x)) i r)))]) hx hb dX1_lettersAhead_47 hl (k := 5) rfl (nI_add _ _) (by decide) rfl (fun ls hl => ?_)
            refine lv_goto (tgt := 11) hx hb dX1_lettersAhead_50 (by decide) ?_
            exact ih_loop (r + 1) (by omega) (by omega) ls (by rw [la, if_neg (fun z => z.elim h1 (fun z => h2 z.1))]; exact lv_sub hl [2, 3, 4, 5, 0] rfl)
          · refine lv_iload hx hb dX1_lettersAhead_38 (lv_at hl 5 rfl) ?_
            refine lv_iload_n hx hb dX1_lettersAhead_40 rfl (lv_at hl 2 rfl) ?_
            refine hk_geN (tgt := 47) hx hb (by omega) (by omega) dX1_lettersAhead_41 (by decide) (fun h3 => ?_) (fun h3 => ?_)
            · refine lv_iinc (v := nI (r + 1)) (lv' := [(4, .int (nI (r + 1))), (5, .int (S (K r))), (0, .ref q0), (1, .int (nI i)), (2, .int (S (K i))), (3, .int (nI (la (fun x => S (K x)) i r)))]) hx hb dX1_lettersAhead_47 hl (k := 5) rfl (nI_add _ _) (by decide) rfl (fun ls hl => ?_)
              refine lv_goto (tgt := 11) hx hb dX1_lettersAhead_50 (by decide) ?_
              exact ih_loop (r + 1) (by omega) (by omega) ls (by rw [la, if_neg (fun z => z.elim h1 (fun z => absurd z.2 (by omega)))]; exact lv_sub hl [2, 3, 4, 5, 0] rfl)
            · refine lv_iinc (v := nI (la (fun x => S (K x)) i r + 1)) (lv' := [(3, .int (nI (la (fun x => S (K x)) i r + 1))), (5, .int (S (K r))), (0, .ref q0), (1, .int (nI i)), (2, .int (S (K i))), (4, .int (nI r))]) hx hb dX1_lettersAhead_44 hl (k := 4) rfl (nI_add _ _) (by decide) rfl (fun ls hl => ?_)
              refine lv_iinc (v := nI (r + 1)) (lv' := [(4, .int (nI (r + 1))), (3, .int (nI (la (fun x => S (K x)) i r + 1))), (5, .int (S (K r))), (0, .ref q0), (1, .int (nI i)), (2, .int (S (K i)))]) hx hb dX1_lettersAhead_47 hl (k := 5) rfl (nI_add _ _) (by decide) rfl (fun ls hl => ?_)
              refine lv_goto (tgt := 11) hx hb dX1_lettersAhead_50 (by decide) ?_
              exact ih_loop (r + 1) (by omega) (by omega) ls (by rw [la, if_pos (Or.inr ⟨h2, h3⟩)]; exact lv_sub hl [3, 4, 5, 1, 0] rfl)
  exact loop 13 0 (by omega) (by omega) ls (lv_sub hl [3, 4, 2, 1, 0] rfl)

set_option maxHeartbeats 4000000 in
set_option maxRecDepth 100000 in
theorem c_X1_slippingLetter (l : Launch) (D : va_G) (ct : Nat → ClassId) (sa : Nat → Nat) (q0 q1 q2 q3 q4 q5 kp : Nat) (K L T : Nat → Nat) (S P : Nat → Int32) (Y C : Int32) (z : Nat) (hz : z < 12) (hK : ∀ x, x < 12 → K x < 12) : Met l yX1_slippingLetter wsX1_slippingLetter ({ frames := 3, cells := 0, slots := 0, locals := 67 }) (hkPc D ct sa [.ref q0, .int (nI z)] (fun H => va_P D vwCl [(q0, .inr (1, [.ref q1, .ref q2, .int Y, .ref q3, .ref q4, .ref q5, .int (nI kp), .int C])), (q1, .inl (ct 0, 12, .inl (fun j => nI (K j)))), (q2, .inl (ct 0, 12, .inl (fun j => nI (L j)))), (q3, .inl (ct 0, 12, .inl S)), (q4, .inl (ct 0, 144, .inl P)), (q5, .inl (ct 0, 30, .inl (fun j => nI (T j))))] H)) (QcRead (lf (fun x => decide (la (fun x => S (K x)) x 12 = z)) 0 12)) 0 0 (fun _ => False) := by
  refine Met.ofW (cc := cX1_slippingLetter) (maxL := 4) (ret := (some .int)) (by decide) rfl ?_
  intro p e s m args below meth c s₁ B hml hv
  obtain ⟨rfl, hE, hP⟩ := hv
  have hx := B.exec
  have hb := B.bytes
  have hr := B.returns
  have hts := atoms_spec (ws := wsX1_slippingLetter) B.pre
  have hown : s.vm.findClass RX1 = some m.cls := findClass_of_methodNamed B.named
  have hlocks := B.notSynchronized
  have hl := lv_entry ([.ref q0, .int (nI z)]) (n := 4) (Nat.le_of_ble_eq_true rfl)
  rw [lg_entry_eq]
  generalize (lg_sl ([.ref q0, .int (nI z)]) ++ List.replicate (4 - (lg_sl ([.ref q0, .int (nI z)])).length) Slot.unset).toArray = ls at hl ⊢
  have hl : lv_has ls 4 [(0, .ref q0), (1, .int (nI z))] := hl
  refine lv_iconst (v := nI 0) hx hb dX1_slippingLetter_0 (by decide) ?_
  refine lv_istore_n (lv' := [(2, .int (nI 0)), (0, .ref q0), (1, .int (nI z))]) hx hb dX1_slippingLetter_1 rfl hl (by decide) rfl (fun ls hl => ?_)
  refine lv_iconst (v := nI 0) hx hb dX1_slippingLetter_2 (by decide) ?_
  refine lv_istore_n (lv' := [(3, .int (nI 0)), (2, .int (nI 0)), (0, .ref q0), (1, .int (nI z))]) hx hb dX1_slippingLetter_3 rfl hl (by decide) rfl (fun ls hl => ?_)
  have loop : ∀ (k : Nat) (i : Nat), 12 < i + k → i ≤ 12 → ∀ (ls : Array Slot), lv_has ls 4 [(0, .ref q0), (1, .int (nI z)), (2, .int (lf (fun x => decide (la (fun x => S (K x)) x 12 = z)) 0 i)), (3, .int (nI i))] → W p l e (headSpec wsX1_slippingLetter ({ frames := 3, cells := 0, slots := 0, locals := 67 })).room s m ([.ref q0, .int (nI z)] : List Value).toArray below meth c s.heap [] 0 0 (MQ below (QcRead (lf (fun x => decide (la (fun x => S (K x)) x 12 = z)) 0 12)) ([.ref q0, .int (nI z)] : List Value).toArray s 0 0 (fun _ => False)) (F0 m 4 ls []) := by
    intro k
    induction k with
    | zero => intro i hk; intros; exact absurd hk (by omega)
    | succ k ih_loop =>
      intro i hk hi ls hl
      refine lv_iload_n hx hb dX1_slippingLetter_4 rfl (lv_at hl 3 rfl) ?_
      refine lv_bipush (v := nI 12) hx hb dX1_slippingLetter_5 (by decide) ?_
      refine hk_geN (tgt := 27) hx hb (by omega) (by omega) dX1_slippingLetter_7 (by decide) (fun hc => ?_) (fun hc => ?_)
      · obtain rfl : i = 12 := by omega
        refine lv_iload_n hx hb dX1_slippingLetter_27 rfl (lv_at hl 2 rfl) ?_
        exact W.iret (v := lf (fun x => decide (la (fun x => S (K x)) x 12 = z)) 0 12) hx hb hr (fun t ht hW => ⟨rfl, ht⟩) (fun _ h => nomatch h) dX1_slippingLetter_28
      · have hle := la_le (fun x => S (K x)) i 12
        refine lv_aload_n hx hb dX1_slippingLetter_10 rfl (lv_at hl 0 rfl) ?_
        refine lv_iload_n hx hb dX1_slippingLetter_11 rfl (lv_at hl 3 rfl) ?_
        refine hk_R (rest := []) (va_Run.run (va_runV (As := [.int (nI i)]) (rest := []) ⟨hx, hb, hml, hown, hts⟩ (c_X1_lettersAhead l D ct sa q0 q1 q2 q3 q4 q5 kp K L T S P Y C i hc hK) (cwV 1 hts gX1_slippingLetter_X1_lettersAhead rfl rfl rfl (by decide +kernel) ⟨Nat.le_of_ble_eq_true rfl, Nat.le_of_ble_eq_true rfl⟩) (hk_preV hE (va_recv hE.1 hP (ci := 1) (q0 := 0) rfl rfl) hP) rfl rfl hl.1 rfl (lv_room (Nat.le_of_ble_eq_true rfl)) dX1_slippingLetter_12 ⟨Nat.zero_le _, Nat.zero_le _⟩)) ?_
        refine lv_iload_n hx hb dX1_slippingLetter_15 rfl (lv_at hl 1 rfl) ?_
        refine hk_neN (tgt := 21) hx hb (by omega) (by omega) dX1_slippingLetter_16 (by decide) (fun h1 => ?_) (fun h1 => ?_)
        · refine lv_iinc (v := nI (i + 1)) (lv' := [(3, .int (nI (i + 1))), (0, .ref q0), (1, .int (nI z)), (2, .int (lf (fun x => decide (la (fun x => S (K x)) x 12 = z)) 0 i))]) hx hb dX1_slippingLetter_21 hl (k := 3) rfl (nI_add _ _) (by decide) rfl (fun ls hl => ?_)
          refine lv_goto (tgt := 4) hx hb dX1_slippingLetter_24 (by decide) ?_
          exact ih_loop (i + 1) (by omega) (by omega) ls (by rw [lf, if_neg (by simpa using h1)]; exact lv_sub hl [1, 2, 3, 0] rfl)
        · refine lv_iload_n hx hb dX1_slippingLetter_19 rfl (lv_at hl 3 rfl) ?_
          refine lv_istore_n (lv' := [(2, .int (nI i)), (0, .ref q0), (1, .int (nI z)), (3, .int (nI i))]) hx hb dX1_slippingLetter_20 rfl hl (by decide) rfl (fun ls hl => ?_)
          refine lv_iinc (v := nI (i + 1)) (lv' := [(3, .int (nI (i + 1))), (2, .int (nI i)), (0, .ref q0), (1, .int (nI z))]) hx hb dX1_slippingLetter_21 hl (k := 3) rfl (nI_add _ _) (by decide) rfl (fun ls hl => ?_)
          refine lv_goto (tgt := 4) hx hb dX1_slippingLetter_24 (by decide) ?_
          exact ih_loop (i + 1) (by omega) (by omega) ls (by rw [lf, if_pos (by simpa using h1)]; exact lv_sub hl [2, 3, 1, 0] rfl)
  exact loop 13 0 (by omega) (by omega) ls (lv_sub hl [2, 3, 1, 0] rfl)
