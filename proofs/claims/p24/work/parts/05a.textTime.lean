set_option maxHeartbeats 4000000 in
set_option maxRecDepth 100000 in
/-- the time of a text by a layout in which two keys are swapped -/
theorem c_X2_textTime (l : Launch) (D : va_G) (ct : Nat → ClassId) (sa : Nat → Nat) (t y n N : Nat) (tx kf g : Nat → Nat) (k1 k2 : Int32) (hN : N < 2 ^ 31) (hn : n ≤ N) (ht12 : ∀ p, p < n → tx p < 12) (hg : ∀ p, p < n → hkSw (nI (kf (tx p))) k1 k2 = nI (g p) ∧ g p < 12) : Met l yX2_textTime wsX2_textTime ({ frames := 2, cells := 0, slots := 0, locals := 41 }) (hkPc D ct sa [.ref t, .int (nI n), .ref y, .int k1, .int k2] (fun H => va_P D vwCl [(t, .inl (ct 0, N, .inl (fun p => nI (tx p)))), (y, .inl (ct 0, 12, .inl (fun x => nI (kf x))))] H)) (QcRead (nI (tt g n))) 0 0 (fun _ => False) := by
  refine Met.ofW (cc := cX2_textTime) (maxL := 9) (ret := (some .int)) (by decide) rfl ?_
  intro p e s m args below meth c s₁ B hml hv
  obtain ⟨rfl, hE, hP⟩ := hv
  have hx := B.exec
  have hb := B.bytes
  have hr := B.returns
  have hts := atoms_spec (ws := wsX2_textTime) B.pre
  have hown : s.vm.findClass RX2 = some m.cls := findClass_of_methodNamed B.named
  have hlocks := B.notSynchronized
  have hl := lv_entry ([.ref t, .int (nI n), .ref y, .int k1, .int k2]) (n := 9) (Nat.le_of_ble_eq_true rfl)
  rw [lg_entry_eq]
  generalize (lg_sl ([.ref t, .int (nI n), .ref y, .int k1, .int k2]) ++ List.replicate (9 - (lg_sl ([.ref t, .int (nI n), .ref y, .int k1, .int k2])).length) Slot.unset).toArray = ls at hl ⊢
  have hl : lv_has ls 9 [(0, .ref t), (1, .int (nI n)), (2, .ref y), (3, .int k1), (4, .int k2)] := hl
  refine lv_iconst (v := nI 0) hx hb dX2_textTime_0 (by decide) ?_
  refine lv_istore (lv' := [(5, .int (nI 0)), (0, .ref t), (1, .int (nI n)), (2, .ref y), (3, .int k1), (4, .int k2)]) hx hb dX2_textTime_1 hl (by decide) rfl (fun ls hl => ?_)
  refine lv_iconst (v := (-1)) hx hb dX2_textTime_3 (by decide) ?_
  refine lv_istore (lv' := [(6, .int (-1)), (5, .int (nI 0)), (0, .ref t), (1, .int (nI n)), (2, .ref y), (3, .int k1), (4, .int k2)]) hx hb dX2_textTime_4 hl (by decide) rfl (fun ls hl => ?_)
  refine lv_iconst (v := nI 0) hx hb dX2_textTime_6 (by decide) ?_
  refine lv_istore (lv' := [(7, .int (nI 0)), (6, .int (-1)), (5, .int (nI 0)), (0, .ref t), (1, .int (nI n)), (2, .ref y), (3, .int k1), (4, .int k2)]) hx hb dX2_textTime_7 hl (by decide) rfl (fun ls hl => ?_)
  have loop : ∀ (k : Nat) (i : Nat) (bf : Int32), n < i + k → i ≤ n → bf = (if i = 0 then (-1) else nI (g (i - 1))) → ∀ (ls : Array Slot), lv_has ls 9 [(0, .ref t), (1, .int (nI n)), (2, .ref y), (3, .int k1), (4, .int k2), (5, .int (nI (tt g i))), (6, .int bf), (7, .int (nI i))] → W p l e (headSpec wsX2_textTime ({ frames := 2, cells := 0, slots := 0, locals := 41 })).room s m ([.ref t, .int (nI n), .ref y, .int k1, .int k2] : List Value).toArray below meth c s.heap [] 0 0 (MQ below (QcRead (nI (tt g n))) ([.ref t, .int (nI n), .ref y, .int k1, .int k2] : List Value).toArray s 0 0 (fun _ => False)) (F0 m 9 ls []) := by
    intro k
    induction k with
    | zero => intro i bf hk; intros; exact absurd hk (by omega)
    | succ k ih_loop =>
      intro i bf hk hi hbf ls hl
      refine lv_iload hx hb dX2_textTime_9 (lv_at hl 7 rfl) ?_
      refine lv_iload_n hx hb dX2_textTime_11 rfl (lv_at hl 1 rfl) ?_
      refine hk_geN (tgt := 64) hx hb (by omega) (by omega) dX2_textTime_12 (by decide) (fun hc => ?_) (fun hc => ?_)
      · refine lv_iload hx hb dX2_textTime_64 (lv_at hl 5 rfl) ?_
        obtain rfl : i = n := by omega
        exact W.iret (v := nI (tt g i)) hx hb hr (fun t ht hW => ⟨rfl, ht⟩) (fun _ h => nomatch h) dX2_textTime_66
      · have hti : tx i < 12 := ht12 i hc
        obtain ⟨hg1, hg2⟩ := hg i hc
        refine lv_aload_n hx hb dX2_textTime_15 rfl (lv_at hl 2 rfl) ?_
        refine lv_aload_n hx hb dX2_textTime_16 rfl (lv_at hl 0 rfl) ?_
        refine lv_iload hx hb dX2_textTime_17 (lv_at hl 7 rfl) ?_
        refine hk_R (rest := [.ref y]) (va_Run.run (va_runS (As := [.ref t, .int (nI i)]) (rest := [.ref y]) ⟨hx, hb, hml, hown, hts⟩ (c_X2_at l D ct sa t N (fun p => nI (tx p)) (nI i) hN) (va_cwS 2 hts gX2_textTime_X2_at rfl rfl rfl (by decide +kernel) ⟨Nat.le_of_ble_eq_true rfl, Nat.le_of_ble_eq_true rfl⟩) (hk_preS hE (hP.sub (ws' := [(t, .inl (ct 0, N, .inl (fun p => nI (tx p))))]) [0] rfl)) rfl rfl hl.1 rfl (lv_room (Nat.le_of_ble_eq_true rfl)) dX2_textTime_19 ⟨Nat.zero_le _, Nat.zero_le _⟩)) ?_
        refine hk_top (y := nI (tx i)) (hkAt_in (by omega) hN) ?_
        refine hk_R (rest := []) (va_Run.run (va_runS (As := [.ref y, .int (nI (tx i))]) (rest := []) ⟨hx, hb, hml, hown, hts⟩ (c_X2_at l D ct sa y 12 (fun x => nI (kf x)) (nI (tx i)) (by decide)) (va_cwS 2 hts gX2_textTime_X2_at rfl rfl rfl (by decide +kernel) ⟨Nat.le_of_ble_eq_true rfl, Nat.le_of_ble_eq_true rfl⟩) (hk_preS hE (hP.sub (ws' := [(y, .inl (ct 0, 12, .inl (fun x => nI (kf x))))]) [1] rfl)) rfl rfl hl.1 rfl (lv_room (Nat.le_of_ble_eq_true rfl)) dX2_textTime_22 ⟨Nat.zero_le _, Nat.zero_le _⟩)) ?_
        refine hk_top (y := nI (kf (tx i))) (hkAt_in hti (by decide)) ?_
        refine lv_iload_n hx hb dX2_textTime_25 rfl (lv_at hl 3 rfl) ?_
        refine lv_iload hx hb dX2_textTime_26 (lv_at hl 4 rfl) ?_
        refine hk_R (rest := []) (va_Run.run (va_runS (As := [.int (nI (kf (tx i))), .int k1, .int k2]) (rest := []) ⟨hx, hb, hml, hown, hts⟩ (c_X2_swapped l D ct sa (nI (kf (tx i))) k1 k2) (va_cwS 3 hts gX2_textTime_X2_swapped rfl rfl rfl (by decide +kernel) ⟨Nat.le_of_ble_eq_true rfl, Nat.le_of_ble_eq_true rfl⟩) (hk_preS hE trivial) rfl rfl hl.1 rfl (lv_room (Nat.le_of_ble_eq_true rfl)) dX2_textTime_28 ⟨Nat.zero_le _, Nat.zero_le _⟩)) ?_
        refine hk_top (y := nI (g i)) hg1 ?_
        refine lv_istore (lv' := [(8, .int (nI (g i))), (0, .ref t), (1, .int (nI n)), (2, .ref y), (3, .int k1), (4, .int k2), (5, .int (nI (tt g i))), (6, .int bf), (7, .int (nI i))]) hx hb dX2_textTime_31 hl (by decide) rfl (fun ls hl => ?_)
        refine lv_iload hx hb dX2_textTime_33 (lv_at hl 6 rfl) ?_
        refine lv_iload hx hb dX2_textTime_35 (lv_at hl 8 rfl) ?_
        refine hk_ne0N (tgt := 44) hx hb (by omega) dX2_textTime_37 (by decide) (fun h0 => ?_) (fun h0 => ?_)
        · obtain ⟨j, rfl⟩ : ∃ j, i = j + 1 := ⟨i - 1, by omega⟩
          obtain rfl : bf = nI (g j) := hbf.trans (if_neg (Nat.succ_ne_zero j))
          have hgj : g j < 12 := (hg j (by omega)).2
          refine lv_iload hx hb dX2_textTime_44 (lv_at hl 7 rfl) ?_
          refine lv_iload hx hb dX2_textTime_46 (lv_at hl 0 rfl) ?_
          refine hk_R (rest := [.int (nI (tt g (j + 1)))]) (va_Run.run (va_runS (As := [.int (nI (g j)), .int (nI (g (j + 1)))]) (rest := [.int (nI (tt g (j + 1)))]) ⟨hx, hb, hml, hown, hts⟩ (c_X2_stepTime l D ct sa (g j) (g (j + 1)) hgj hg2) (va_cwS 2 hts gX2_textTime_X2_stepTime rfl rfl rfl (by decide +kernel) ⟨Nat.le_of_ble_eq_true rfl, Nat.le_of_ble_eq_true rfl⟩) (hk_preS hE trivial) rfl rfl hl.1 rfl (lv_room (Nat.le_of_ble_eq_true rfl)) dX2_textTime_48 ⟨Nat.zero_le _, Nat.zero_le _⟩)) ?_
          refine hk_addN hx hb dX2_textTime_51 ?_
          refine lv_istore (lv' := [(5, .int (nI ((tt g (j + 1)) + (stp (g j) (g (j + 1)))))), (8, .int (nI (g (j + 1)))), (0, .ref t), (1, .int (nI n)), (2, .ref y), (3, .int k1), (4, .int k2), (6, .int (nI (g j))), (7, .int (nI (j + 1)))]) hx hb dX2_textTime_52 hl (by decide) rfl (fun ls hl => ?_)
          refine lv_iload hx hb dX2_textTime_54 (lv_at hl 1 rfl) ?_
          refine lv_istore (lv' := [(6, .int (nI (g (j + 1)))), (5, .int (nI ((tt g (j + 1)) + (stp (g j) (g (j + 1)))))), (8, .int (nI (g (j + 1)))), (0, .ref t), (1, .int (nI n)), (2, .ref y), (3, .int k1), (4, .int k2), (7, .int (nI (j + 1)))]) hx hb dX2_textTime_56 hl (by decide) rfl (fun ls hl => ?_)
          refine lv_iinc (v := nI ((j + 1) + 1)) (lv' := [(7, .int (nI ((j + 1) + 1))), (6, .int (nI (g (j + 1)))), (5, .int (nI ((tt g (j + 1)) + (stp (g j) (g (j + 1)))))), (8, .int (nI (g (j + 1)))), (0, .ref t), (1, .int (nI n)), (2, .ref y), (3, .int k1), (4, .int k2)]) hx hb dX2_textTime_58 hl (k := 8) rfl (nI_add _ _) (by decide) rfl (fun ls hl => ?_)
          refine lv_goto (tgt := 9) hx hb dX2_textTime_61 (by decide) ?_
          exact ih_loop (j + 1 + 1) _ (by omega) (by omega) rfl ls (lv_sub hl [4, 5, 6, 7, 8, 2, 1, 0] rfl)
        · subst h0
          refine lv_iconst (v := nI 2) hx hb dX2_textTime_40 (by decide) ?_
          refine lv_goto (tgt := 51) hx hb dX2_textTime_41 (by decide) ?_
          refine hk_addN hx hb dX2_textTime_51 ?_
          refine lv_istore (lv' := [(5, .int (nI ((tt g 0) + 2))), (8, .int (nI (g 0))), (0, .ref t), (1, .int (nI n)), (2, .ref y), (3, .int k1), (4, .int k2), (6, .int bf), (7, .int (nI 0))]) hx hb dX2_textTime_52 hl (by decide) rfl (fun ls hl => ?_)
          refine lv_iload hx hb dX2_textTime_54 (lv_at hl 1 rfl) ?_
          refine lv_istore (lv' := [(6, .int (nI (g 0))), (5, .int (nI ((tt g 0) + 2))), (8, .int (nI (g 0))), (0, .ref t), (1, .int (nI n)), (2, .ref y), (3, .int k1), (4, .int k2), (7, .int (nI 0))]) hx hb dX2_textTime_56 hl (by decide) rfl (fun ls hl => ?_)
          refine lv_iinc (v := nI 1) (lv' := [(7, .int (nI 1)), (6, .int (nI (g 0))), (5, .int (nI ((tt g 0) + 2))), (8, .int (nI (g 0))), (0, .ref t), (1, .int (nI n)), (2, .ref y), (3, .int k1), (4, .int k2)]) hx hb dX2_textTime_58 hl (k := 8) rfl (nI_add _ _) (by decide) rfl (fun ls hl => ?_)
          refine lv_goto (tgt := 9) hx hb dX2_textTime_61 (by decide) ?_
          exact ih_loop 1 _ (by omega) (by omega) rfl ls (lv_sub hl [4, 5, 6, 7, 8, 2, 1, 0] rfl)
  exact loop (n + 1) 0 (-1) (by omega) (by omega) rfl ls (lv_sub hl [3, 4, 5, 6, 7, 2, 1, 0] rfl)
