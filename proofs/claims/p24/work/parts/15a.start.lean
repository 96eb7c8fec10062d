/-! what the machine knows at the start -/
theorem hk_pick {α : Type} (key : α → Nat) (P : α → Nat → Prop) : ∀ l : List α, (∀ q ∈ l, ∃ a, P q a) → (l.map key).Nodup → ∃ f : Nat → Nat, ∀ q ∈ l, P q (f (key q))
  | [], _, _ => ⟨fun _ => 0, fun q h => absurd h List.not_mem_nil⟩
  | x :: l, h, hn => by
    obtain ⟨a, ha⟩ := h x List.mem_cons_self
    have hn2 := List.nodup_cons.mp hn
    obtain ⟨f, hf⟩ := hk_pick key P l (fun q hq => h q (List.mem_cons_of_mem _ hq)) hn2.2
    refine ⟨fun k => if k = key x then a else f k, fun q hq => ?_⟩
    by_cases e : key q = key x
    · show P q (if key q = key x then a else f (key q))
      rw [if_pos e]
      rcases List.mem_cons.mp hq with rfl | h2
      · exact ha
      · exact absurd (List.mem_map.mpr ⟨q, h2, e⟩) hn2.1
    · show P q (if key q = key x then a else f (key q))
      rw [if_neg e]
      rcases List.mem_cons.mp hq with rfl | h2
      · exact absurd rfl e
      · exact hf q h2
theorem hk_arrP {s : State} {args : Array Value} (ty : FieldType) (hp : ∀ cA, va_RA s cA ty = (s.vm.findClass ("[" ++ ty.toString) = some cA)) (h : (Cond.arrayClass ty).before args s = true) : ∃ cA, ArrOfT s cA ty ∧ va_RA s cA ty := by
  obtain ⟨c, k, comp, h1, h2, h3⟩ := Cond.arrayClass_spec h
  exact ⟨c, fun N z => ⟨(fun k h => by cases h), k, h2, comp, h3⟩, by rw [hp]; exact h1⟩
theorem hk_arrO {s : State} {args : Array Value} {C : String} (h : (Cond.arrayOver (.object C)).before args s = true) : ∃ cA, ArrOfT s cA (.object C) ∧ va_RA s cA (.object C) := by
  obtain ⟨comp, c, k, h1, h2, h3, h4, h5⟩ := Cond.arrayOver_spec h
  exact ⟨c, fun N z => ⟨(fun k h => by cases h), k, h3, comp, h4⟩, k, comp, h3, h4, h1, h5⟩
theorem hk_kS {s : State} {args : Array Value} (hts : ∀ w ∈ lw_tbl, w.before args s = true) : ∀ q ∈ hkS, ∃ a, vk_R q.1 q.2.1 q.2.2.1 a s := by
  obtain ⟨cC, kC, hfc, -⟩ := Cond.instantiable_spec (hts (.instantiable RX2 5) (by decide +kernel))
  have hall : ∀ q ∈ hkS, q.1 = RX2 ∧ Cond.stringRef q.1 q.2.1 q.2.2.1 ∈ lw_tbl := by decide +kernel
  intro q hq
  obtain ⟨e, hm⟩ := hall q hq
  have hw := hts _ hm
  obtain ⟨k, cf, i, a, -, -, -, -, -, h6⟩ := Cond.stringRef_spec (by rw [e]; exact hfc) hw
  exact ⟨a, vk_R.of hw h6⟩
theorem hk_kN {s : State} {args : Array Value} (hts : ∀ w ∈ lw_tbl, w.before args s = true) : ∀ w ∈ hkN, va_Nw w s := by
  have hall : ∀ w ∈ hkN, w ∈ lw_tbl := by decide +kernel
  exact fun w hw => va_Nw.of (hkN_warm w hw).1 (hts w (hall w hw))
theorem hk_kC {s : State} {args : Array Value} (hgv : (Jvm.Cond.and given_1 narrow_1).before args s = true) : ∀ q ∈ hkC, va_Nc q.1 q.2 s := by
  have hs := flat_of_before _ hgv
  have hall : ∀ q ∈ hkC, Cond.not (.castable q.1 q.2) ∈ flatC (Jvm.Cond.and given_1 narrow_1) := by decide +kernel
  exact fun q hq => va_Nc.of (hs _ (hall q hq))
theorem hk_kH {s : State} {args : Array Value} (hts : ∀ w ∈ lw_tbl, w.before args s = true) (hgv : (Jvm.Cond.and given_1 narrow_1).before args s = true) : hkH s.heap.size s s.heap := by
  have hs := flat_of_before _ hgv
  refine ⟨Nat.le_refl _, vx_Zqof (hts (.laysStatic Bundle.tN "UNASSIGNED_STACK" Bundle.steD) (by decide +kernel)) (hts (.initialized Bundle.tN) (by decide +kernel)) (hs (.isRef (.static Bundle.tN "UNASSIGNED_STACK" Bundle.steD)) (by decide +kernel)) (fun a h => Nat.not_le.mpr h), vx_Zqof (hts (.laysStatic Bundle.tN "SUPPRESSED_SENTINEL" Bundle.listD) (by decide +kernel)) (hts (.initialized Bundle.tN) (by decide +kernel)) (hs (.isRef (.static Bundle.tN "SUPPRESSED_SENTINEL" Bundle.listD)) (by decide +kernel)) (fun a h => Nat.not_le.mpr h)⟩
theorem hk_kE {s : State} {args : Array Value} (hts : ∀ w ∈ lw_tbl, w.before args s = true) (hgv : (Jvm.Cond.and given_1 narrow_1).before args s = true) : ∃ (D : va_G) (ct : Nat → ClassId) (sa : Nat → Nat), hkE D ct sa s := by
  obtain ⟨c0, i0, h0⟩ := u_known (C := RX0) (T := TX0) (N := 3) (n := 3) hts inX0 (hts (.instantiable RX0 3) (by decide +kernel))
  obtain ⟨c1, i1, h1⟩ := u_known (C := RX1) (T := TX1) (N := 8) (n := 8) hts inX1 (hts (.instantiable RX1 8) (by decide +kernel))
  obtain ⟨c2, i2, h2⟩ := u_known (C := RX2) (T := TX2) (N := 5) (n := 5) hts inX2 (hts (.instantiable RX2 5) (by decide +kernel))
  obtain ⟨a0, b0, e0⟩ := hk_arrP .int (fun _ => rfl) (hts (.arrayClass .int) (by decide +kernel))
  have o1 : (Cond.arrayOver (.object RX1)).before args s = true := hts (.arrayOver (.object RX1)) (by decide +kernel)
  have o2 : (Cond.arrayOver (.object RX0)).before args s = true := hts (.arrayOver (.object RX0)) (by decide +kernel)
  obtain ⟨a1, b1, e1⟩ := hk_arrO o1
  obtain ⟨a2, b2, e2⟩ := hk_arrO o2
  obtain ⟨sa, hsa⟩ := hk_pick (fun q : String × Nat × String × Nat => q.2.2.2) (fun q a => vk_R q.1 q.2.1 q.2.2.1 a s) hkS (hk_kS hts) (by decide)
  refine ⟨(fun k => [c0, c1, c2].getD k c0, fun k => [i0, i1, i2].getD k i0), fun k => [a0, a1, a2].getD k a0, sa, ⟨fun k q hq => ?_, fun k q hq => ?_⟩, hk_kN hts, hsa, hk_kC hgv, va_AO.of o1, va_AO.of o2⟩
  · match k, hq with
    | 0, hq => cases hq; exact h0
    | 1, hq => cases hq; exact h1
    | 2, hq => cases hq; exact h2
    | k + 3, hq => simp at hq
  · match k, hq with
    | 0, hq => cases hq; exact ⟨b0, e0⟩
    | 1, hq => cases hq; exact ⟨b1, e1⟩
    | 2, hq => cases hq; exact ⟨b2, e2⟩
    | k + 3, hq => simp at hq
def ad0 : Ad := (fun _ _ => 0, fun _ _ => 0, fun _ => 0)
theorem rfs_g0 (a : Nat → Nat → Nat) : rfs (gN g0) a = fun _ => none := funext (fun j => if_neg (Nat.not_lt_zero j))
set_option maxHeartbeats 4000000 in
set_option maxRecDepth 100000 in
theorem whole_start {p : Program} {e : Env} {s : State} {m : MethodId} {below : List Frame} {meth : Method} {c : Code} (l : Launch) (hflags : l.flags = flags0) {b L : Nat} {xs : Nat → Int32} (hL : L ≤ 260) (C0 : lw_At p s m meth c b L xs) : W p l e room_1 s m #[Value.ref b] below meth c s.heap [] 0 0 (lw_Z below #[Value.ref b] s) (entryFrame m ([Value.ref b] : List Value).toArray 21) := by
  obtain ⟨hx, hb, hr, hml, hown, hts, hX, hbl, hlocks, hgv⟩ := id C0
  obtain ⟨D, ct, sa, hE⟩ := hk_kE hts hgv
  have hH0 := hk_kH hts hgv
  have hfl := hflags
  have hts : ∀ w ∈ wsL_law, w.before #[Value.ref b] s = true := fun w h => hts w (wsL_law_in w h)
  have hA : ∀ q : Nat, s.heap.size ≤ q → (fun q : Nat => s.heap.size ≤ q) q := fun _ h => h
  have hAG : ∀ q : Nat, (fun q : Nat => s.heap.size ≤ q) q → s.heap.size ≤ q := fun _ h => h
  have hH := hH0
  have hb : c.code = cL_law := hb
  have hin2 : ∀ w ∈ wsX20, w ∈ wsL_law := inlX2
  have hS : va_S (fun q : Nat => s.heap.size ≤ q) s.heap s.heap [] := va_S.rf
  have hP : va_P D vwCl [] s.heap := fun k q h => by simp at h
  have hD : va_D (fun q : Nat => s.heap.size ≤ q) [] := ⟨fun i j p q h => by simp at h, fun k q h => by simp at h⟩
  have hl := lv_entry ([.ref b]) (n := 21) (Nat.le_of_ble_eq_true rfl)
  rw [lg_entry_eq]
  generalize (lg_sl ([.ref b]) ++ List.replicate (21 - (lg_sl ([.ref b])).length) Slot.unset).toArray = ls at hl ⊢
  have hl : lv_has ls 21 [(0, .ref b)] := hl
  refine va_new (ci := 2) (fs := [.null, .null, .null, .int 0, .null]) (C := RX2) (T := TX2) (N := 5) hx hb hts hin2 tyX2 tyX2_ok hown (hts (.classLink RL 10 RX2) (by decide +kernel)) (hts (.instantiable RX2 5) (by decide +kernel)) (hts (.initialized RX2) (by decide +kernel)) hE.1 hP hD hS hA rfl (fun j hj => by rcases (show j = 0 ∨ j = 1 ∨ j = 2 ∨ j = 3 ∨ j = 4 by omega) with rfl | rfl | rfl | rfl | rfl <;> rfl) (Nat.le_of_ble_eq_true rfl) (Nat.le_of_ble_eq_true rfl) dL_law_0 (fun q0 H hP hD hS => ?_)
  have hP : va_P D vwCl [(q0, .inr (2, [.null, .null, .null, .int 0, .null]))] H := hP
  have hD : va_D (fun q : Nat => s.heap.size ≤ q) [(q0, .inr (2, [.null, .null, .null, .int 0, .null]))] := hD
  refine lv_dup hx hb dL_law_3 rfl ?_
  refine hk_C (rest := [.ref q0]) (wr := []) (wc := [(q0, .inr (2, [.null, .null, .null, .int 0, .null]))]) (va_runI (As := []) (rest := [.ref q0]) ⟨hx, hb, hml, hown, hts⟩ (c_X2_init l D ct sa q0 H.size) (cwI 0 hts gL_law_X2_init rfl rfl rfl (hts (.initialized RX2) (by decide +kernel)) (hts (.methodLink RL 141 yX2_init) (by decide +kernel)) (hts (.instanceMethod yX2_init) (by decide +kernel)) rfl (by decide +kernel) ⟨Nat.le_of_ble_eq_true rfl, Nat.le_of_ble_eq_true rfl⟩) (hk_preS hE ⟨rfl, hP.right (w1 := []), (hD.right (w1 := [])).weaken (fun _ _ _ _ => trivial)⟩) rfl rfl hl.1 rfl (lv_room (Nat.le_of_ble_eq_true rfl)) dL_law_4 ⟨Nat.le_of_ble_eq_true rfl, Nat.le_of_ble_eq_true rfl⟩) rfl hP hD hS hA (fun u H locs hP hD hS => ?_)
  have hP : va_P D vwCl [(q0, .inr (2, [.ref u.1, .ref u.2.1, .ref u.2.2.1, .int (nI 0), .ref u.2.2.2])), (u.1, .inl (ct 1, 5, .inr (.inr (.inr (.inr (fun _ => none)))))), (u.2.1, .inl (ct 2, 6, .inr (.inr (.inr (.inr (fun _ => none)))))), (u.2.2.1, .inl (ct 0, 24, .inl (fun _ => 0))), (u.2.2.2, .inl (ct 0, 144, .inl (fun _ => 0)))] H := hP
  have hD : va_D (fun q : Nat => s.heap.size ≤ q) [(q0, .inr (2, [.ref u.1, .ref u.2.1, .ref u.2.2.1, .int (nI 0), .ref u.2.2.2])), (u.1, .inl (ct 1, 5, .inr (.inr (.inr (.inr (fun _ => none)))))), (u.2.1, .inl (ct 2, 6, .inr (.inr (.inr (.inr (fun _ => none)))))), (u.2.2.1, .inl (ct 0, 24, .inl (fun _ => 0))), (u.2.2.2, .inl (ct 0, 144, .inl (fun _ => 0)))] := hD
  refine lv_astore_n (lv' := [(1, .ref q0), (0, .ref b)]) hx hb dL_law_7 rfl hl (by decide) rfl (fun ls hl => ?_)
  obtain ⟨bb, hbb⟩ : ∃ bb : Nat → Nat, bb = fun k => [q0, u.1, u.2.1, u.2.2.1, u.2.2.2].getD k 0 := ⟨_, rfl⟩
  have eW : hkW ct bb ad0 g0 = [(q0, .inr (2, [.ref u.1, .ref u.2.1, .ref u.2.2.1, .int (nI 0), .ref u.2.2.2])), (u.1, .inl (ct 1, 5, .inr (.inr (.inr (.inr (fun _ => none)))))), (u.2.1, .inl (ct 2, 6, .inr (.inr (.inr (.inr (fun _ => none)))))), (u.2.2.1, .inl (ct 0, 24, .inl (fun _ => 0))), (u.2.2.2, .inl (ct 0, 144, .inl (fun _ => 0)))] := by
    show bsW ct bb ad0 g0 = _
    unfold bsW
    rw [rfs_g0, show rfs (gc g0) ad0.2.1 = fun _ => none from rfs_g0 _, hbb]
    rfl
  have hP : va_P D vwCl (hkW ct bb ad0 g0) H := by rw [eW]; exact hP
  have hD : va_D (fun q : Nat => s.heap.size ≤ q) (hkW ct bb ad0 g0) := by rw [eW]; exact hD
  have hl : lv_has ls 21 [(1, .ref (bb 0)), (0, .ref b)] := by rw [hbb]; exact hl
  have hI0 := inv_0
  obtain ⟨d, e_d⟩ : ∃ q : Ad, q = ad0 := ⟨_, rfl⟩
  rw [← e_d] at hP hD
  have h05 : gN g0 < 5 := by decide
  have hI1 := i_student hI0 h05
  have hJ1 : Jg (3 * 0) (gA g0) := jj_student (jg_0 _)
  refine lv_aload_n hx hb dL_law_8 rfl (lv_at hl 0 rfl) ?_
  have h9 := lwN (es := [(-9000000000000000003)]) (e_student h05) (by decide)
  refine hk_LZ (wr := []) (v := .long (zL ((gN g0 : Nat) : Int))) (g' := (gA g0)) (rest := []) (vx_runSW (As := [.ref (bb 0)]) (rest := []) ⟨hx, hb, hml, hown, hts⟩ (c_L_student l hfl D ct sa s.heap.size H.size bb d g0  hI0) (vx_cwSW 1 hts gL_law_L_student rfl rfl rfl (by decide +kernel) ⟨Nat.le_of_ble_eq_true rfl, Nat.le_of_ble_eq_true rfl⟩) (hk_prxS hE (hkS_H hH hAG hS) ⟨rfl, hP.right (w1 := []), (hD.right (w1 := [])).weaken (fun _ _ _ h => hAG _ h)⟩) rfl rfl hl.1 rfl (lv_room (Nat.le_of_ble_eq_true rfl)) dL_law_9 ⟨by show _ ≤ 600130; omega, by show _ ≤ 7301080; omega⟩) rfl hP hD hS hA (congrArg Value.long h9.1) h9.2 (fun d H locs hP hD hS => ?_)
  refine lv_lconst (v := zL 0) hx hb dL_law_12 rfl ?_
  refine zq_ne (x := ((gN g0 : Nat) : Int)) (y := 0) (tgt := 21) hx hb (rfl) dL_law_13 dL_law_14 (by decide) ?_
  refine lv_iconst (v := nI 1) hx hb dL_law_17 (by decide) ?_
  refine lv_goto (tgt := 22) hx hb dL_law_18 (by decide) ?_
  refine lv_istore_n (lv' := [(2, .int (nI 1)), (1, .ref (bb 0)), (0, .ref b)]) hx hb dL_law_22 rfl hl (by decide) rfl (fun ls hl => ?_)
  refine lv_iconst (v := nI 1) hx hb dL_law_23 (by decide) ?_
  refine lv_istore_n (lv' := [(3, .int (nI 1)), (2, .int (nI 1)), (1, .ref (bb 0)), (0, .ref b)]) hx hb dL_law_24 rfl hl (by decide) rfl (fun ls hl => ?_)
  refine lv_iconst (v := nI 0) hx hb dL_law_25 (by decide) ?_
  refine lv_istore (lv' := [(4, .int (nI 0)), (3, .int (nI 1)), (2, .int (nI 1)), (1, .ref (bb 0)), (0, .ref b)]) hx hb dL_law_26 hl (by decide) rfl (fun ls hl => ?_)
  refine lv_bipush (v := nI 6) hx hb dL_law_28 (by decide) ?_
  refine hk_newi hx hb (hts (.arrayClass .int) (by decide +kernel)) hE hP hD hS hA (n := 6) (by decide) (by decide) (by show _ ≤ 600130; omega) (by show _ ≤ 7301080; omega) dL_law_30 (fun wt H hP hD hS => ?_)
  have hP : va_P D vwCl ((wt, .inl (ct 0, 6, .inl (fun _ => 0))) :: hkW ct bb d (gA g0)) H := hP.perm (List.perm_append_singleton _ _).symm
  have hD : va_D (fun q : Nat => s.heap.size ≤ q) ((wt, .inl (ct 0, 6, .inl (fun _ => 0))) :: hkW ct bb d (gA g0)) := hD.perm (List.perm_append_singleton _ _).symm
  refine lv_astore (lv' := [(5, .ref wt), (4, .int (nI 0)), (3, .int (nI 1)), (2, .int (nI 1)), (1, .ref (bb 0)), (0, .ref b)]) hx hb dL_law_32 hl (by decide) rfl (fun ls hl => ?_)
  refine lv_iconst (v := nI 0) hx hb dL_law_34 (by decide) ?_
  refine lv_istore (lv' := [(6, .int (nI 0)), (5, .ref wt), (4, .int (nI 0)), (3, .int (nI 1)), (2, .int (nI 1)), (1, .ref (bb 0)), (0, .ref b)]) hx hb dL_law_35 hl (by decide) rfl (fun ls hl => ?_)
  refine W.widen (k := 100 + 3900 * 0) (n := 2000 + 29000 * 0) (by omega) (by omega) ?_
  have hW0 : WF (fun _ => 0) (gA g0) := fun c hc => absurd hc (Nat.not_lt_zero c)
  exact law_loop (b := bb) l hflags hL C0 hE hH0 51 0 (by omega) (by omega) (gA g0) d (fun _ => 0) H _ hI1 hJ1 (by decide) hW0 hP hD hS ls (lv_sub hl [6, 5, 4, 3, 2, 1, 0] rfl)
