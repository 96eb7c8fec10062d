set_option maxHeartbeats 4000000 in
set_option maxRecDepth 100000 in
theorem lw_s3 {p : Program} {e : Env} {s : State} {m : MethodId} {below : List Frame} {meth : Method} {c : Code} (l : Launch) (hfl : l.flags = flags0) {D : va_G} {ct : Nat → ClassId} {sa : Nat → Nat} {sb L : Nat} {xs : Nat → Int32} {b : Nat → Nat} {wt : Nat} (hL : L ≤ 260) (C0 : lw_At p s m meth c sb L xs) (hE : hkE D ct sa s) (hH0 : hkH s.heap.size s s.heap) {n cl sl N y aa : Nat} (hcl : cl + 3900 ≤ 600130) (hsl : sl + 29000 ≤ 7301080) (hN : N ≤ 900) (hn : n < 50) (hy : y < 2 ^ 31) {g : Sg} {d : Ad} {wf : Nat → Int32} {H : Heap} {locs : List Loc} {ls : Array Slot} (hI : Inv g) (hJ : Jg (N + 3) g) (h1 : 1 ≤ gN g) (hW : WF wf g) (ha : aa < gN g) (hP : va_P D vwCl ((wt, .inl (ct 0, 6, .inl wf)) :: hkW ct b d g) H) (hD : va_D (fun q : Nat => s.heap.size ≤ q) ((wt, .inl (ct 0, 6, .inl wf)) :: hkW ct b d g)) (hS : va_S (fun q : Nat => s.heap.size ≤ q) s.heap H locs) (hl : lv_has ls 21 [(0, .ref sb), (1, .ref (b 0)), (2, .int (nI 1)), (3, .int (nI (gN g))), (4, .int (nI (gc g))), (5, .ref wt), (6, .int (nI n)), (8, .int (nI y)), (9, .int (nI aa))]) (kk : ∀ (d' : Ad) (g' : Sg) (wf' : Nat → Int32) (H1 : Heap) (locs1 : List Loc) (ls1 : Array Slot), Inv g' → Jg (N + 3) g' → 1 ≤ gN g' → WF wf' g' → va_P D vwCl ((wt, .inl (ct 0, 6, .inl wf')) :: hkW ct b d' g') H1 → va_D (fun q : Nat => s.heap.size ≤ q) ((wt, .inl (ct 0, 6, .inl wf')) :: hkW ct b d' g') → va_S (fun q : Nat => s.heap.size ≤ q) s.heap H1 locs1 → lv_has ls1 21 [(0, .ref sb), (1, .ref (b 0)), (2, .int (nI 1)), (3, .int (nI (gN g'))), (4, .int (nI (gc g'))), (5, .ref wt), (6, .int (nI (n + 1)))] → W p l e room_1 s m #[Value.ref sb] below meth c H1 locs1 (cl + 3900) (sl + 29000) (lw_Z below #[Value.ref sb] s) (F0 m 37 ls1 [])) : W p l e room_1 s m #[Value.ref sb] below meth c H locs (cl + 300) (sl + 2000) (lw_Z below #[Value.ref sb] s) (F0 m 714 ls []) := by
  have C1 := C0
  obtain ⟨hx, hb, hr, hml, hown, hts, hX, hbl, hlocks, hgv⟩ := C0
  have hts : ∀ w ∈ wsL_law, w.before #[Value.ref sb] s = true := fun w h => hts w (wsL_law_in w h)
  have hA : ∀ q : Nat, s.heap.size ≤ q → (fun q : Nat => s.heap.size ≤ q) q := fun _ h => h
  have hAG : ∀ q : Nat, (fun q : Nat => s.heap.size ≤ q) q → s.heap.size ≤ q := fun _ h => h
  have hbA : ¬ (fun q : Nat => s.heap.size ≤ q) sb := Nat.not_le.mpr hbl
  have hH := hH0
  have hb : c.code = cL_law := hb
  have hN5 : gN g ≤ 5 := hI.1
  have hc6 : gc g ≤ 6 := hI.2.2.1
  have hJ9 : Jg 1000 g := hJ.mono (by omega)
  have K : ∀ (d : Ad) (H : Heap) (locs : List Loc), va_P D vwCl ((wt, .inl (ct 0, 6, .inl wf)) :: hkW ct b d g) H → va_D (fun q : Nat => s.heap.size ≤ q) ((wt, .inl (ct 0, 6, .inl wf)) :: hkW ct b d g) → va_S (fun q : Nat => s.heap.size ≤ q) s.heap H locs → ∀ (ls : Array Slot), lv_has ls 21 [(0, .ref sb), (1, .ref (b 0)), (2, .int (nI 1)), (3, .int (nI (gN g))), (4, .int (nI (gc g))), (5, .ref wt), (6, .int (nI n))] → W p l e room_1 s m #[Value.ref sb] below meth c H locs (cl + 3000) (sl + 20000) (lw_Z below #[Value.ref sb] s) (F0 m 768 ls []) := by
    intro d H locs hP hD hS ls hl
    refine lv_iload hx hb dL_law_768 (lv_at hl 6 rfl) ?_
    refine lv_bipush (v := nI 25) hx hb dL_law_770 (by decide) ?_
    refine hk_remN hx hb (by omega) (by omega) (by omega) dL_law_772 ?_
    refine lv_bipush (v := nI 24) hx hb dL_law_773 (by decide) ?_
    refine hk_neN (tgt := 795) hx hb (by omega) (by omega) dL_law_775 (by decide) (fun hc => ?_) (fun hc => ?_)
    · refine lv_iinc (v := nI (n + 1)) (lv' := [(6, .int (nI (n + 1))), (0, .ref sb), (1, .ref (b 0)), (2, .int (nI 1)), (3, .int (nI (gN g))), (4, .int (nI (gc g))), (5, .ref wt)]) hx hb dL_law_795 hl (k := 6) rfl (nI_add _ _) (by decide) rfl (fun ls hl => ?_)
      refine lv_goto (tgt := 37) hx hb dL_law_798 (by decide) ?_
      refine W.widen (k := cl + 3900) (n := sl + 29000) (by omega) (by omega) ?_
      exact kk d g wf H locs ls hI hJ h1 hW hP hD hS (lv_sub hl [1, 2, 3, 4, 5, 6, 0] rfl)
    · refine lv_iload_n hx hb dL_law_778 rfl (lv_at hl 2 rfl) ?_
      refine hk_eq0N (tgt := 793) hx hb (by omega) dL_law_779 (by decide) (fun hq => absurd hq (by decide)) (fun _ => ?_)
      refine lv_aload_n hx hb dL_law_782 rfl (lv_at hl 1 rfl) ?_
      refine hk_LZ (wr := [(wt, .inl (ct 0, 6, .inl wf))]) (v := .int (nI 1)) (g' := g) (rest := []) (va_runS (As := [.ref (b 0)]) (rest := []) ⟨hx, hb, hml, hown, hts⟩ (c_L_refuses l hfl D ct sa s.heap.size H.size b d g hI hJ9 h1) (va_cwS 1 hts gL_law_L_refuses rfl rfl rfl (by decide +kernel) ⟨Nat.le_of_ble_eq_true rfl, Nat.le_of_ble_eq_true rfl⟩) (hk_prxS hE (hkS_H hH hAG hS) ⟨rfl, hP.right (w1 := [(wt, .inl (ct 0, 6, .inl wf))]), (hD.right (w1 := [(wt, .inl (ct 0, 6, .inl wf))])).weaken (fun _ _ _ h => hAG _ h)⟩) rfl rfl hl.1 rfl (lv_room (Nat.le_of_ble_eq_true rfl)) dL_law_783 ⟨by show _ ≤ 600130; omega, by show _ ≤ 7301080; omega⟩) rfl hP hD hS hA rfl rfl (fun d H locs hP hD hS => ?_)
      have hP : va_P D vwCl ((wt, .inl (ct 0, 6, .inl wf)) :: hkW ct b d g) H := hP
      have hD : va_D (fun q : Nat => s.heap.size ≤ q) ((wt, .inl (ct 0, 6, .inl wf)) :: hkW ct b d g) := hD
      refine hk_eq0N (tgt := 793) hx hb (by omega) dL_law_786 (by decide) (fun hq => absurd hq (by decide)) (fun _ => ?_)
      refine lv_iconst (v := nI 1) hx hb dL_law_789 (by decide) ?_
      refine lv_goto (tgt := 794) hx hb dL_law_790 (by decide) ?_
      refine lv_istore_n (lv' := [(2, .int (nI 1)), (0, .ref sb), (1, .ref (b 0)), (3, .int (nI (gN g))), (4, .int (nI (gc g))), (5, .ref wt), (6, .int (nI n))]) hx hb dL_law_794 rfl hl (by decide) rfl (fun ls hl => ?_)
      refine lv_iinc (v := nI (n + 1)) (lv' := [(6, .int (nI (n + 1))), (2, .int (nI 1)), (0, .ref sb), (1, .ref (b 0)), (3, .int (nI (gN g))), (4, .int (nI (gc g))), (5, .ref wt)]) hx hb dL_law_795 hl (k := 6) rfl (nI_add _ _) (by decide) rfl (fun ls hl => ?_)
      refine lv_goto (tgt := 37) hx hb dL_law_798 (by decide) ?_
      refine W.widen (k := cl + 3900) (n := sl + 29000) (by omega) (by omega) ?_
      exact kk d g wf H locs ls hI hJ h1 hW hP hD hS (lv_sub hl [2, 3, 1, 4, 5, 6, 0] rfl)
  refine lv_iload hx hb dL_law_714 (lv_at hl 6 rfl) ?_
  refine lv_bipush (v := nI 10) hx hb dL_law_716 (by decide) ?_
  refine hk_remN hx hb (by omega) (by omega) (by omega) dL_law_718 ?_
  refine lv_bipush (v := nI 9) hx hb dL_law_719 (by decide) ?_
  refine hk_neN (tgt := 768) hx hb (by omega) (by omega) dL_law_721 (by decide) (fun hc => ?_) (fun hc => ?_)
  · refine W.widen (k := (cl + 3000)) (n := (sl + 20000)) (by omega) (by omega) ?_
    exact K d H locs hP hD hS ls (lv_sub hl [0, 1, 2, 3, 4, 5, 6] rfl)
  · refine lv_iload_n hx hb dL_law_724 rfl (lv_at hl 2 rfl) ?_
    refine hk_eq0N (tgt := 766) hx hb (by omega) dL_law_725 (by decide) (fun hq => absurd hq (by decide)) (fun _ => ?_)
    refine lv_aload_n hx hb dL_law_728 rfl (lv_at hl 1 rfl) ?_
    refine lv_iload hx hb dL_law_729 (lv_at hl 8 rfl) ?_
    refine hk_LZ (wr := [(wt, .inl (ct 0, 6, .inl wf))]) (v := .int (nI 1)) (g' := g) (rest := []) (va_runS (As := [.ref (b 0), .int (nI aa)]) (rest := []) ⟨hx, hb, hml, hown, hts⟩ (c_L_studentHolds l hfl D ct sa s.heap.size H.size b d g aa hI hJ9 ha) (va_cwS 2 hts gL_law_L_studentHolds rfl rfl rfl (by decide +kernel) ⟨Nat.le_of_ble_eq_true rfl, Nat.le_of_ble_eq_true rfl⟩) (hk_prxS hE (hkS_H hH hAG hS) ⟨rfl, hP.right (w1 := [(wt, .inl (ct 0, 6, .inl wf))]), (hD.right (w1 := [(wt, .inl (ct 0, 6, .inl wf))])).weaken (fun _ _ _ h => hAG _ h)⟩) rfl rfl hl.1 rfl (lv_room (Nat.le_of_ble_eq_true rfl)) dL_law_731 ⟨by show _ ≤ 600130; omega, by show _ ≤ 7301080; omega⟩) rfl hP hD hS hA rfl rfl (fun d H locs hP hD hS => ?_)
    have hP : va_P D vwCl ((wt, .inl (ct 0, 6, .inl wf)) :: hkW ct b d g) H := hP
    have hD : va_D (fun q : Nat => s.heap.size ≤ q) ((wt, .inl (ct 0, 6, .inl wf)) :: hkW ct b d g) := hD
    refine hk_eq0N (tgt := 766) hx hb (by omega) dL_law_734 (by decide) (fun hq => absurd hq (by decide)) (fun _ => ?_)
    refine lv_iload hx hb dL_law_737 (lv_at hl 4 rfl) ?_
    refine hk_eq0N (tgt := 762) hx hb (by omega) dL_law_739 (by decide) (fun hq0 => ?_) (fun hq0 => ?_)
    · refine lv_iconst (v := nI 1) hx hb dL_law_762 (by decide) ?_
      refine lv_goto (tgt := 767) hx hb dL_law_763 (by decide) ?_
      refine lv_istore_n (lv' := [(2, .int (nI 1)), (0, .ref sb), (1, .ref (b 0)), (3, .int (nI (gN g))), (4, .int (nI (gc g))), (5, .ref wt), (6, .int (nI n)), (8, .int (nI y)), (9, .int (nI aa))]) hx hb dL_law_767 rfl hl (by decide) rfl (fun ls hl => ?_)
      refine W.widen (k := (cl + 3000)) (n := (sl + 20000)) (by omega) (by omega) ?_
      exact K d H locs hP hD hS ls (lv_sub hl [1, 2, 0, 3, 4, 5, 6] rfl)
    · have hc : y % gc g < gc g := Nat.mod_lt _ hq0
      obtain ⟨hw1, hw2⟩ := hW _ hc
      refine lv_aload_n hx hb dL_law_742 rfl (lv_at hl 1 rfl) ?_
      refine lv_iload hx hb dL_law_743 (lv_at hl 7 rfl) ?_
      refine lv_iload hx hb dL_law_745 (lv_at hl 4 rfl) ?_
      refine hk_remN hx hb (by omega) (by omega) (by omega) dL_law_747 ?_
      refine lv_aload hx hb dL_law_748 (lv_at hl 5 rfl) ?_
      refine lv_iload hx hb dL_law_750 (lv_at hl 7 rfl) ?_
      refine lv_iload hx hb dL_law_752 (lv_at hl 4 rfl) ?_
      refine hk_remN hx hb (by omega) (by omega) (by omega) dL_law_754 ?_
      refine hk_iald hx hb hE hP 0 rfl (j := y % (gc g)) (by omega) (by omega) dL_law_755 ?_
      refine hk_top (y := nI (cW (gC g (y % gc g)))) hw1 ?_
      refine hk_LZ (wr := [(wt, .inl (ct 0, 6, .inl wf))]) (v := .int (nI 1)) (g' := g) (rest := []) (va_runS (As := [.ref (b 0), .int (nI (y % (gc g))), .int (nI (cW (gC g (y % gc g))))]) (rest := []) ⟨hx, hb, hml, hown, hts⟩ (c_L_contestHolds l hfl D ct sa s.heap.size H.size b d g (y % gc g) hI hJ9 hc) (va_cwS 3 hts gL_law_L_contestHolds rfl rfl rfl (by decide +kernel) ⟨Nat.le_of_ble_eq_true rfl, Nat.le_of_ble_eq_true rfl⟩) (hk_prxS hE (hkS_H hH hAG hS) ⟨rfl, hP.right (w1 := [(wt, .inl (ct 0, 6, .inl wf))]), (hD.right (w1 := [(wt, .inl (ct 0, 6, .inl wf))])).weaken (fun _ _ _ h => hAG _ h)⟩) rfl rfl hl.1 rfl (lv_room (Nat.le_of_ble_eq_true rfl)) dL_law_756 ⟨by show _ ≤ 600130; omega, by show _ ≤ 7301080; omega⟩) rfl hP hD hS hA rfl rfl (fun d H locs hP hD hS => ?_)
      have hP : va_P D vwCl ((wt, .inl (ct 0, 6, .inl wf)) :: hkW ct b d g) H := hP
      have hD : va_D (fun q : Nat => s.heap.size ≤ q) ((wt, .inl (ct 0, 6, .inl wf)) :: hkW ct b d g) := hD
      refine hk_eq0N (tgt := 766) hx hb (by omega) dL_law_759 (by decide) (fun hq => absurd hq (by decide)) (fun _ => ?_)
      refine lv_iconst (v := nI 1) hx hb dL_law_762 (by decide) ?_
      refine lv_goto (tgt := 767) hx hb dL_law_763 (by decide) ?_
      refine lv_istore_n (lv' := [(2, .int (nI 1)), (0, .ref sb), (1, .ref (b 0)), (3, .int (nI (gN g))), (4, .int (nI (gc g))), (5, .ref wt), (6, .int (nI n)), (8, .int (nI y)), (9, .int (nI aa))]) hx hb dL_law_767 rfl hl (by decide) rfl (fun ls hl => ?_)
      refine W.widen (k := (cl + 3000)) (n := (sl + 20000)) (by omega) (by omega) ?_
      exact K d H locs hP hD hS ls (lv_sub hl [1, 2, 0, 3, 4, 5, 6] rfl)
set_option maxHeartbeats 4000000 in
set_option maxRecDepth 100000 in
theorem law_loop {p : Program} {e : Env} {s : State} {m : MethodId} {below : List Frame} {meth : Method} {c : Code} (l : Launch) (hfl : l.flags = flags0) {D : va_G} {ct : Nat → ClassId} {sa : Nat → Nat} {sb L : Nat} {xs : Nat → Int32} {b : Nat → Nat} {wt : Nat} (hL : L ≤ 260) (C0 : lw_At p s m meth c sb L xs) (hE : hkE D ct sa s) (hH0 : hkH s.heap.size s s.heap) : ∀ (k n : Nat), 51 ≤ n + k → n ≤ 50 → ∀ (g : Sg) (d : Ad) (wf : Nat → Int32) (H : Heap) (locs : List Loc), Inv g → Jg (3 * n) g → 1 ≤ gN g → WF wf g → va_P D vwCl ((wt, .inl (ct 0, 6, .inl wf)) :: hkW ct b d g) H → va_D (fun q : Nat => s.heap.size ≤ q) ((wt, .inl (ct 0, 6, .inl wf)) :: hkW ct b d g) → va_S (fun q : Nat => s.heap.size ≤ q) s.heap H locs → ∀ (ls : Array Slot), lv_has ls 21 [(0, .ref sb), (1, .ref (b 0)), (2, .int (nI 1)), (3, .int (nI (gN g))), (4, .int (nI (gc g))), (5, .ref wt), (6, .int (nI n))] → W p l e room_1 s m #[Value.ref sb] below meth c H locs (100 + 3900 * n) (2000 + 29000 * n) (lw_Z below #[Value.ref sb] s) (F0 m 37 ls []) := by
  intro k
  induction k with
  | zero => intro n h1 h2; exact absurd h1 (by omega)
  | succ k ih =>
    intro n h9 h2 g d wf H locs hI hJ h1 hW hP hD hS ls hl
    have C1 := C0
    obtain ⟨hx, hb, hr, hml, hown, hts, hX, hbl, hlocks, hgv⟩ := C0
    have hts : ∀ w ∈ wsL_law, w.before #[Value.ref sb] s = true := fun w h => hts w (wsL_law_in w h)
    have hA : ∀ q : Nat, s.heap.size ≤ q → (fun q : Nat => s.heap.size ≤ q) q := fun _ h => h
    have hAG : ∀ q : Nat, (fun q : Nat => s.heap.size ≤ q) q → s.heap.size ≤ q := fun _ h => h
    have hbA : ¬ (fun q : Nat => s.heap.size ≤ q) sb := Nat.not_le.mpr hbl
    have hH := hH0
    have hb : c.code = cL_law := hb
    have hN5 : gN g ≤ 5 := hI.1
    have hc6 : gc g ≤ 6 := hI.2.2.1
    refine lv_iload hx hb dL_law_37 (lv_at hl 6 rfl) ?_
    refine lv_bipush (v := nI 50) hx hb dL_law_39 (by decide) ?_
    refine hk_geN (tgt := 801) hx hb (by omega) (by omega) dL_law_41 (by decide) (fun hq => ?_) (fun hq => ?_)
    · refine lv_iload_n hx hb dL_law_801 rfl (lv_at hl 2 rfl) ?_
      refine va_forget (fun q hq => hS.2.2 q hq) ?_
      refine W.widen (k := 600130) (n := 7301080) (by omega) (by omega) ?_
      exact lw_ret hx hb hr hlocks dL_law_802
    · refine lv_iload_n hx hb dL_law_44 rfl (lv_at hl 2 rfl) ?_
      refine hk_eq0N (tgt := 801) hx hb (by omega) dL_law_45 (by decide) (fun hq => absurd hq (by decide)) (fun _ => ?_)
      refine lv_aload_n hx hb dL_law_48 rfl (lv_at hl 0 rfl) ?_
      refine lv_iconst (v := nI 2) hx hb dL_law_49 (by decide) ?_
      refine lv_iload hx hb dL_law_50 (lv_at hl 6 rfl) ?_
      refine hk_mulN hx hb dL_law_52 ?_
      obtain ⟨dx, b_dx, e_dx⟩ : ∃ q : Nat, q < 2 ^ 31 ∧ drw L xs (2 * n) = nI q := ⟨_, (drw_eq _ _ _).2, (drw_eq _ _ _).1⟩
      refine hk_R (rest := []) (va_Run.run (va_runS (As := [.ref sb, .int (nI (2 * n))]) (rest := []) ⟨hx, hb, hml, hown, hts⟩ (c_L_draw l sb L xs (2 * n) (by omega) hL) (va_cwS 2 hts gL_law_L_draw rfl rfl rfl (by decide +kernel) ⟨Nat.le_of_ble_eq_true rfl, Nat.le_of_ble_eq_true rfl⟩) (dr_preS (hX.kept (hS.2.1 sb hbl hbA))) rfl rfl hl.1 rfl (lv_room (Nat.le_of_ble_eq_true rfl)) dL_law_53 ⟨by show _ ≤ 600130; omega, by show _ ≤ 7301080; omega⟩)) ?_
      refine hk_top (y := nI dx) e_dx ?_
      refine lv_istore (lv' := [(7, .int (nI dx)), (0, .ref sb), (1, .ref (b 0)), (2, .int (nI 1)), (3, .int (nI (gN g))), (4, .int (nI (gc g))), (5, .ref wt), (6, .int (nI n))]) hx hb dL_law_56 hl (by decide) rfl (fun ls hl => ?_)
      refine lv_aload_n hx hb dL_law_58 rfl (lv_at hl 1 rfl) ?_
      refine lv_iconst (v := nI 2) hx hb dL_law_59 (by decide) ?_
      refine lv_iload hx hb dL_law_60 (lv_at hl 7 rfl) ?_
      refine hk_mulN hx hb dL_law_62 ?_
      refine lv_iconst (v := nI 1) hx hb dL_law_63 (by decide) ?_
      refine hk_addN hx hb dL_law_64 ?_
      obtain ⟨dy, b_dy, e_dy⟩ : ∃ q : Nat, q < 2 ^ 31 ∧ drw L xs ((2 * n) + 1) = nI q := ⟨_, (drw_eq _ _ _).2, (drw_eq _ _ _).1⟩
      refine hk_R (rest := []) (va_Run.run (va_runS (As := [.ref sb, .int (nI ((2 * n) + 1))]) (rest := []) ⟨hx, hb, hml, hown, hts⟩ (c_L_draw l sb L xs ((2 * n) + 1) (by omega) hL) (va_cwS 2 hts gL_law_L_draw rfl rfl rfl (by decide +kernel) ⟨Nat.le_of_ble_eq_true rfl, Nat.le_of_ble_eq_true rfl⟩) (dr_preS (hX.kept (hS.2.1 sb hbl hbA))) rfl rfl hl.1 rfl (lv_room (Nat.le_of_ble_eq_true rfl)) dL_law_65 ⟨by show _ ≤ 600130; omega, by show _ ≤ 7301080; omega⟩)) ?_
      refine hk_top (y := nI dy) e_dy ?_
      refine lv_istore (lv' := [(8, .int (nI dy)), (7, .int (nI dx)), (0, .ref sb), (1, .ref (b 0)), (2, .int (nI 1)), (3, .int (nI (gN g))), (4, .int (nI (gc g))), (5, .ref wt), (6, .int (nI n))]) hx hb dL_law_68 hl (by decide) rfl (fun ls hl => ?_)
      refine lv_iload hx hb dL_law_70 (lv_at hl 1 rfl) ?_
      refine lv_bipush (v := nI 16) hx hb dL_law_72 (by decide) ?_
      refine hk_divN hx hb (by omega) (by omega) (by omega) dL_law_74 ?_
      refine lv_iload_n hx hb dL_law_75 rfl (lv_at hl 5 rfl) ?_
      refine hk_remN hx hb (by omega) (by omega) (by omega) dL_law_76 ?_
      obtain ⟨aa, e_aa⟩ : ∃ q : Nat, q = dx / 16 % gN g := ⟨_, rfl⟩
      have ha : aa < gN g := by rw [e_aa]; exact Nat.mod_lt _ (by omega)
      refine hk_top (y := nI aa) (congrArg nI e_aa.symm) ?_
      refine lv_istore (lv' := [(9, .int (nI aa)), (8, .int (nI dy)), (7, .int (nI dx)), (0, .ref sb), (1, .ref (b 0)), (2, .int (nI 1)), (3, .int (nI (gN g))), (4, .int (nI (gc g))), (5, .ref wt), (6, .int (nI n))]) hx hb dL_law_77 hl (by decide) rfl (fun ls hl => ?_)
      refine lv_iload hx hb dL_law_79 (lv_at hl 2 rfl) ?_
      refine lv_bipush (v := nI 12) hx hb dL_law_81 (by decide) ?_
      refine hk_remN hx hb (by omega) (by omega) (by omega) dL_law_83 ?_
      refine lv_istore (lv' := [(10, .int (nI (dx % 12))), (9, .int (nI aa)), (8, .int (nI dy)), (7, .int (nI dx)), (0, .ref sb), (1, .ref (b 0)), (2, .int (nI 1)), (3, .int (nI (gN g))), (4, .int (nI (gc g))), (5, .ref wt), (6, .int (nI n))]) hx hb dL_law_84 hl (by decide) rfl (fun ls hl => ?_)
      refine lv_iload hx hb dL_law_86 (lv_at hl 0 rfl) ?_
      refine lv_bipush (v := nI 6) hx hb dL_law_88 (by decide) ?_
      have kk9 : ∀ (d' : Ad) (g' : Sg) (wf' : Nat → Int32) (H1 : Heap) (locs1 : List Loc) (ls1 : Array Slot), Inv g' → Jg (3 * n + 3) g' → 1 ≤ gN g' → WF wf' g' → aa < gN g' → va_P D vwCl ((wt, .inl (ct 0, 6, .inl wf')) :: hkW ct b d' g') H1 → va_D (fun q : Nat => s.heap.size ≤ q) ((wt, .inl (ct 0, 6, .inl wf')) :: hkW ct b d' g') → va_S (fun q : Nat => s.heap.size ≤ q) s.heap H1 locs1 → lv_has ls1 21 [(0, .ref sb), (1, .ref (b 0)), (2, .int (nI 1)), (3, .int (nI (gN g'))), (4, .int (nI (gc g'))), (5, .ref wt), (6, .int (nI n)), (8, .int (nI dy)), (9, .int (nI aa))] → W p l e room_1 s m #[Value.ref sb] below meth c H1 locs1 ((100 + 3900 * n) + 300) ((2000 + 29000 * n) + 2000) (lw_Z below #[Value.ref sb] s) (F0 m 714 ls1 []) := by
        intro d' g' wf' H1 locs1 ls1 hI1 hJ1 h11 hW1 ha1 hP1 hD1 hS1 hl1
        refine lw_s3 l hfl hL C1 hE hH0 (n := n) (N := 3 * n) (by omega) (by omega) (by omega) (by omega) b_dy hI1 hJ1 h11 hW1 ha1 hP1 hD1 hS1 hl1 ?_
        intro d2 g2 wf2 H2 locs2 ls2 hI2 hJ2 h12 hW2 hP2 hD2 hS2 hl2
        refine W.widen (k := 100 + 3900 * (n + 1)) (n := 2000 + 29000 * (n + 1)) (by omega) (by omega) ?_
        exact ih (n + 1) (by omega) (by omega) g2 d2 wf2 H2 locs2 hI2 (hJ2.mono (by omega)) h12 hW2 hP2 hD2 hS2 ls2 hl2
      refine hk_geN (tgt := 227) hx hb (by omega) (by omega) dL_law_90 (by decide) (fun hc => ?_) (fun hc => ?_)
      · refine lv_iload hx hb dL_law_227 (lv_at hl 0 rfl) ?_
        refine lv_bipush (v := nI 9) hx hb dL_law_229 (by decide) ?_
        refine hk_geN (tgt := 369) hx hb (by omega) (by omega) dL_law_231 (by decide) (fun hc => ?_) (fun hc => ?_)
        · refine lv_iload hx hb dL_law_369 (lv_at hl 0 rfl) ?_
          refine lv_bipush (v := nI 9) hx hb dL_law_371 (by decide) ?_
          refine hk_neN (tgt := 457) hx hb (by omega) (by omega) dL_law_373 (by decide) (fun hc => ?_) (fun hc => ?_)
          · refine lv_iload hx hb dL_law_457 (lv_at hl 0 rfl) ?_
            refine lv_bipush (v := nI 10) hx hb dL_law_459 (by decide) ?_
            refine hk_neN (tgt := 581) hx hb (by omega) (by omega) dL_law_461 (by decide) (fun hc => ?_) (fun hc => ?_)
            · exact lw_c_E l hfl hL C1 hE hH0 (n := n) (N := 3 * n) (by omega) (by omega) (by omega) (by omega) b_dy hI hJ h1 hW ha hP hD hS (lv_sub hl [4, 5, 6, 7, 8, 9, 10, 2, 1] rfl) kk9
            · exact lw_c_D l hfl hL C1 hE hH0 (n := n) (N := 3 * n) (by omega) (by omega) (by omega) (by omega) b_dy hI hJ h1 hW ha hP hD hS (lv_sub hl [4, 5, 6, 7, 8, 9, 10, 2, 1] rfl) kk9
          · exact lw_c_C l hfl hL C1 hE hH0 (n := n) (N := 3 * n) (by omega) (by omega) (by omega) (by omega) b_dy hI hJ h1 hW ha hP hD hS (lv_sub hl [4, 5, 6, 7, 8, 9, 10, 2, 1] rfl) kk9
        · exact lw_c_B l hfl hL C1 hE hH0 (n := n) (N := 3 * n) (by omega) (by omega) (by omega) (by omega) b_dy hI hJ h1 hW ha hP hD hS (lv_sub hl [4, 5, 6, 7, 8, 9, 10, 2, 1] rfl) kk9
      · exact lw_c_A l hfl hL C1 hE hH0 (n := n) (N := 3 * n) (by omega) (by omega) (by omega) (by omega) b_dy hI hJ h1 hW ha hP hD hS (lv_sub hl [4, 5, 6, 7, 8, 9, 10, 2, 1] rfl) kk9
