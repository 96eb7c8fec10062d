/-! what the machine knows at the start -/
theorem hk_pick {α : Type} (key : α → Nat) (P : α → Nat → Prop) : ∀ l : List α, (∀ q ∈ l, ∃ a, P q a) → (l.map key).Nodup → ∃ f : Nat → Nat, ∀ q ∈ l, P q (f (key q))
  | [], _, _ => ⟨fun _ => 0, fun q h => absurd h List.not_mem_nil⟩
  | x :: l, h, hn => by
    obtain ⟨a, ha⟩ := h x List.mem_cons_self
    have hn2 := List.nodup_cons.mp hn
    obtain ⟨f, hf⟩ := hk_pick key P l (fun q hq => h q (List.mem_cons_of_mem _ hq)) hn2.2
    refine ⟨fun k => if k = key x then a else f k, fun q hq => ?_⟩
    by_cases e : key q = key x
    · show P q (if key q = key x then a else f (key q))
      rw [if_pos e]
      rcases List.mem_cons.mp hq with rfl | h2
      · exact ha
      · exact absurd (List.mem_map.mpr ⟨q, h2, e⟩) hn2.1
    · show P q (if key q = key x then a else f (key q))
      rw [if_neg e]
      rcases List.mem_cons.mp hq with rfl | h2
      · exact absurd rfl e
      · exact hf q h2
theorem hk_arrP {s : State} {args : Array Value} (ty : FieldType) (hp : ∀ cA, va_RA s cA ty = (s.vm.findClass ("[" ++ ty.toString) = some cA)) (h : (Cond.arrayClass ty).before args s = true) : ∃ cA, ArrOfT s cA ty ∧ va_RA s cA ty := by
  obtain ⟨c, k, comp, h1, h2, h3⟩ := Cond.arrayClass_spec h
  exact ⟨c, fun N z => ⟨(fun k h => by cases h), k, h2, comp, h3⟩, by rw [hp]; exact h1⟩
theorem hk_arrO {s : State} {args : Array Value} {C : String} (h : (Cond.arrayOver (.object C)).before args s = true) : ∃ cA, ArrOfT s cA (.object C) ∧ va_RA s cA (.object C) := by
  obtain ⟨comp, c, k, h1, h2, h3, h4, h5⟩ := Cond.arrayOver_spec h
  exact ⟨c, fun N z => ⟨(fun k h => by cases h), k, h3, comp, h4⟩, k, comp, h3, h4, h1, h5⟩
theorem hk_kS {s : State} {args : Array Value} (hts : ∀ w ∈ lw_tbl, w.before args s = true) : ∀ q ∈ hkS, ∃ a, vk_R q.1 q.2.1 q.2.2.1 a s := by
  obtain ⟨cC, kC, hfc, -⟩ := Cond.instantiable_spec (hts (.instantiable RX2 5) (by decide +kernel))
  have hall : ∀ q ∈ hkS, q.1 = RX2 ∧ Cond.stringRef q.1 q.2.1 q.2.2.1 ∈ lw_tbl := by decide +kernel
  intro q hq
  obtain ⟨e, hm⟩ := hall q hq
  have hw := hts _ hm
  obtain ⟨k, cf, i, a, -, -, -, -, -, h6⟩ := Cond.stringRef_spec (by rw [e]; exact hfc) hw
  exact ⟨a, vk_R.of hw h6⟩
theorem hk_kN {s : State} {args : Array Value} (hts : ∀ w ∈ lw_tbl, w.before args s = true) : ∀ w ∈ hkN, va_Nw w s := by
  have hall : ∀ w ∈ hkN, w ∈ lw_tbl := by decide +kernel
  exact fun w hw => va_Nw.of (hkN_warm w hw).1 (hts w (hall w hw))
theorem hk_kC {s : State} {args : Array Value} (hgv : (Jvm.Cond.and given_1 narrow_1).before args s = true) : ∀ q ∈ hkC, va_Nc q.1 q.2 s := by
  have hs := flat_of_before _ hgv
  have hall : ∀ q ∈ hkC, Cond.not (.castable q.1 q.2) ∈ flatC (Jvm.Cond.and given_1 narrow_1) := by decide +kernel
  exact fun q hq => va_Nc.of (hs _ (hall q hq))
theorem hk_kH {s : State} {args : Array Value} (hts : ∀ w ∈ lw_tbl, w.before args s = true) (hgv : (Jvm.Cond.and given_1 narrow_1).before args s = true) : hkH s.heap.size s s.heap := by
  have hs := flat_of_before _ hgv
  refine ⟨Nat.le_refl _, vx_Zqof (hts (.laysStatic Bundle.tN "UNASSIGNED_STACK" Bundle.steD) (by decide +kernel)) (hts (.initialized Bundle.tN) (by decide +kernel)) (hs (.isRef (.static Bundle.tN "UNASSIGNED_STACK" Bundle.steD)) (by decide +kernel)) (fun a h => Nat.not_le.mpr h), vx_Zqof (hts (.laysStatic Bundle.tN "SUPPRESSED_SENTINEL" Bundle.listD) (by decide +kernel)) (hts (.initialized Bundle.tN) (by decide +kernel)) (hs (.isRef (.static Bundle.tN "SUPPRESSED_SENTINEL" Bundle.listD)) (by decide +kernel)) (fun a h => Nat.not_le.mpr h)⟩
theorem hk_kE {s : State} {args : Array Value} (hts : ∀ w ∈ lw_tbl, w.before args s = true) (hgv : (Jvm.Cond.and given_1 narrow_1).before args s = true) : ∃ (D : va_G) (ct : Nat → ClassId) (sa : Nat → Nat), hkE D ct sa s := by
  obtain ⟨c0, i0, h0⟩ := u_known (C := RX0) (T := TX0) (N := 3) (n := 3) hts inX0 (hts (.instantiable RX0 3) (by decide +kernel))
  obtain ⟨c1, i1, h1⟩ := u_known (C := RX1) (T := TX1) (N := 8) (n := 8) hts inX1 (hts (.instantiable RX1 8) (by decide +kernel))
  obtain ⟨c2, i2, h2⟩ := u_known (C := RX2) (T := TX2) (N := 5) (n := 5) hts inX2 (hts (.instantiable RX2 5) (by decide +kernel))
  obtain ⟨c3, i3, h3⟩ := u_known (C := RX3) (T := TX3) (N := 17) (n := 17) hts inX3 (hts (.instantiable RX3 17) (by decide +kernel))
  obtain ⟨a0, b0, e0⟩ := hk_arrP .int (fun _ => rfl) (hts (.arrayClass .int) (by decide +kernel))
  have o1 : (Cond.arrayOver (.object RX1)).before args s = true := hts (.arrayOver (.object RX1)) (by decide +kernel)
  have o2 : (Cond.arrayOver (.object RX0)).before args s = true := hts (.arrayOver (.object RX0)) (by decide +kernel)
  obtain ⟨a1, b1, e1⟩ := hk_arrO o1
  obtain ⟨a2, b2, e2⟩ := hk_arrO o2
  obtain ⟨a3, b3, e3⟩ := hk_arrP .long (fun _ => rfl) (hts (.arrayClass .long) (by decide +kernel))
  obtain ⟨sa, hsa⟩ := hk_pick (fun q : String × Nat × String × Nat => q.2.2.2) (fun q a => vk_R q.1 q.2.1 q.2.2.1 a s) hkS (hk_kS hts) (by decide)
  refine ⟨(fun k => [c0, c1, c2, c3].getD k c0, fun k => [i0, i1, i2, i3].getD k i0), fun k => [a0, a1, a2, a3].getD k a0, sa, ⟨fun k q hq => ?_, fun k q hq => ?_⟩, hk_kN hts, hsa, hk_kC hgv, va_AO.of o1, va_AO.of o2⟩
  · match k, hq with
    | 0, hq => cases hq; exact h0
    | 1, hq => cases hq; exact h1
    | 2, hq => cases hq; exact h2
    | 3, hq => cases hq; exact h3
    | k + 4, hq => simp at hq
  · match k, hq with
    | 0, hq => cases hq; exact ⟨b0, e0⟩
    | 1, hq => cases hq; exact ⟨b1, e1⟩
    | 2, hq => cases hq; exact ⟨b2, e2⟩
    | 3, hq => cases hq; exact ⟨b3, e3⟩
    | k + 4, hq => simp at hq
/-! the first world -/
theorem va_P.cong {D : va_G} {ws : va_W} {H : Heap} (h : va_P D vwCl ws H) (i : Nat) {a n : Nat} {cA : ClassId} {f f' : Nat → Int32} (ha : ws[i]? = some (a, .inl (cA, n, .inl f))) (hf : ∀ j, j < n → f j = f' j) : va_P D vwCl (ws.set i (a, .inl (cA, n, .inl f'))) H := by
  intro k q hk
  by_cases hki : k = i
  · subst hki
    rw [List.getElem?_set_self (List.getElem?_eq_some_iff.mp ha).1] at hk
    cases hk
    have h1 := h k _ ha
    show H[a]? = some (vp_cell cA (n, .inl f'))
    have h2 : H[a]? = some (vp_cell cA (n, .inl f)) := h1
    rw [h2, vp_cell_i, vp_cell_i]
    congr 1
    unfold arrV
    congr 2
    funext j
    show Value.int (f j.1) = Value.int (f' j.1)
    rw [hf j.1 j.2]
  · rw [List.getElem?_set_ne (fun e => hki e.symm)] at hk
    exact h k q hk
def ad0 : Ad := (fun _ _ => 0, fun _ _ => 0, fun _ => 0)
theorem rfs_g0 (a : Nat → Nat → Nat) : rfs (gN g0) a = fun _ => none := funext (fun j => if_neg (Nat.not_lt_zero j))
theorem mLa_0 : mLa g0 = fun _ => 0 := funext (fun j => if_neg (Nat.not_lt_zero j))
theorem mk0_K {j : Nat} (h : j < 60) : mk0 60 j = mK g0 j := by
  show (if j < 60 then nI (j % 12) else 0) = nI (if j % 12 < 12 then j % 12 else 0)
  rw [if_pos h, if_pos (by omega)]
set_option maxHeartbeats 4000000 in
set_option maxRecDepth 100000 in
theorem law_loop {p : Program} {e : Env} {s : State} {m : MethodId} {below : List Frame} {meth : Method} {c : Code} (l : Launch) (hfl : l.flags = flags0) {D : va_G} {ct : Nat → ClassId} {sa : Nat → Nat} {sb L : Nat} {xs : Nat → Int32} {b aa : Nat → Nat} {o : Nat} (hL : L ≤ 2048) (C0 : lw_At p s m meth c sb L xs) (hE : hkE D ct sa s) (hH0 : hkH s.heap.size s s.heap) : ∀ (k n : Nat), 513 ≤ n + k → n ≤ 512 → ∀ (g : Sg) (d : Ad) (f : Nat → Int64) (rf : Int32) (H : Heap) (locs : List Loc), Inv g → va_P D vwCl (mdW ct aa g rf ++ hkLW ct b d g o f) H → va_D (fun q : Nat => s.heap.size ≤ q) (mdW ct aa g rf ++ hkLW ct b d g o f) → va_S (fun q : Nat => s.heap.size ≤ q) s.heap H locs → ∀ (ls : Array Slot), lv_has ls 7 [(0, .ref sb), (1, .ref (b 0)), (2, .ref (aa 0)), (3, .ref o), (4, .int (nI (4 * n)))] → W p l e room_1 s m #[Value.ref sb] below meth c H locs (100 + 6 * n) (5000 + 218 * n) (lw_Z below #[Value.ref sb] s) (F0 m 23 ls []) := by
  intro k
  induction k with
  | zero => intro n h1 h2; exact absurd h1 (by omega)
  | succ k ih =>
    intro n h1 h2 g d f rf H locs hI hP hD hS ls hl
    have C1 := C0
    obtain ⟨hx, hb, hr, hml, hown, hts, hX, hbl, hlocks, hgv⟩ := C0
    have hts : ∀ w ∈ wsL_law, w.before #[Value.ref sb] s = true := fun w h => hts w (wsL_law_in w h)
    have hA : ∀ q : Nat, s.heap.size ≤ q → (fun q : Nat => s.heap.size ≤ q) q := fun _ h => h
    have hbA : ¬ (fun q : Nat => s.heap.size ≤ q) sb := Nat.not_le.mpr hbl
    have hb : c.code = cL_law := hb
    refine lv_iload hx hb dL_law_23 (lv_at hl 4 rfl) ?_
    refine lv_aload_n hx hb dL_law_25 rfl (lv_at hl 0 rfl) ?_
    refine va_slen hx hb hX hbl hbA hS dL_law_26 ?_
    refine lv_iconst (v := nI 4) hx hb dL_law_27 (by decide) ?_
    refine lv_isub hx hb dL_law_28 ?_
    refine lv_icmp_gt (tgt := 1498) hx hb dL_law_29 (by decide) (fun hq => ?_) (fun hq => ?_)
    · refine lv_iconst (v := 1) hx hb dL_law_1498 (by decide) ?_
      refine va_forget (fun q hq => hS.2.2 q hq) ?_
      refine W.widen (k := 601024) (n := 7293034) (by omega) (by omega) ?_
      exact lw_ret hx hb hr hlocks dL_law_1499
    · have hn4 : 4 * n + 4 ≤ L := lw_cmp (by omega) hL hq
      have kk : ∀ (d' : Ad) (g' : Sg) (f' : Nat → Int64) (rf' : Int32) (H1 : Heap) (locs1 : List Loc) (ls1 : Array Slot), Inv g' → va_P D vwCl (mdW ct aa g' rf' ++ hkLW ct b d' g' o f') H1 → va_D (fun q : Nat => s.heap.size ≤ q) (mdW ct aa g' rf' ++ hkLW ct b d' g' o f') → va_S (fun q : Nat => s.heap.size ≤ q) s.heap H1 locs1 → lv_has ls1 7 [(0, .ref sb), (1, .ref (b 0)), (2, .ref (aa 0)), (3, .ref o), (4, .int (nI (4 * n)))] → W p l e room_1 s m #[Value.ref sb] below meth c H1 locs1 (100 + 6 * n + 6) (5000 + 218 * n + 218) (lw_Z below #[Value.ref sb] s) (F0 m 1492 ls1 []) := by
        intro d' g' f' rf' H1 locs1 ls1 hI1 hP1 hD1 hS1 hl1
        refine lv_iinc (v := nI (4 * n + 4)) (lv' := [(4, .int (nI (4 * n + 4))), (0, .ref sb), (1, .ref (b 0)), (2, .ref (aa 0)), (3, .ref o)]) hx hb dL_law_1492 hl1 (k := 4) rfl (nI_add _ _) (by decide) rfl (fun ls hl => ?_)
        refine lv_goto (tgt := 23) hx hb dL_law_1495 (by decide) ?_
        refine W.widen (k := 100 + 6 * (n + 1)) (n := 5000 + 218 * (n + 1)) (by omega) (by omega) ?_
        exact ih (n + 1) (by omega) (by omega) g' d' f' rf' H1 locs1 hI1 hP1 hD1 hS1 ls (lv_sub hl [1, 2, 3, 4, 0] rfl)
      refine lv_aload_n hx hb dL_law_32 rfl (lv_at hl 0 rfl) ?_
      refine lv_iload hx hb dL_law_33 (lv_at hl 4 rfl) ?_
      refine hk_sld hx hb hX hbl hbA hS (j := 4 * n) (by omega) hL dL_law_35 ?_
      refine lv_bipush (v := nI 31) hx hb dL_law_36 (by decide) ?_
      refine lv_iand hx hb dL_law_38 ?_
      rcases hk_t20 (xs (4 * n) &&& nI 31) with ⟨k9, hk9, hq9⟩ | hq9
      · rw [hq9]
        rcases (show k9 = 0 ∨ k9 = 1 ∨ k9 = 2 ∨ k9 = 3 ∨ k9 = 4 ∨ k9 = 5 ∨ k9 = 6 ∨ k9 = 7 ∨ k9 = 8 ∨ k9 = 9 ∨ k9 = 10 ∨ k9 = 11 ∨ k9 = 12 ∨ k9 = 13 ∨ k9 = 14 ∨ k9 = 15 ∨ k9 = 16 ∨ k9 = 17 ∨ k9 = 18 ∨ k9 = 19 ∨ k9 = 20 by omega) with rfl | rfl | rfl | rfl | rfl | rfl | rfl | rfl | rfl | rfl | rfl | rfl | rfl | rfl | rfl | rfl | rfl | rfl | rfl | rfl | rfl
        · refine lv_tableIn (tgt := 136) (off := 97) hx hb dL_law_39 (by decide) (by decide) rfl (by decide) ?_
          exact lw_k_student l hfl hL C1 hE hH0 hn4 (by omega) (by omega) hI hP hD hS hl kk
        · refine lv_tableIn (tgt := 180) (off := 141) hx hb dL_law_39 (by decide) (by decide) rfl (by decide) ?_
          exact lw_k_carry l hfl hL C1 hE hH0 hn4 (by omega) (by omega) hI hP hD hS hl kk
        · refine lv_tableIn (tgt := 248) (off := 209) hx hb dL_law_39 (by decide) (by decide) rfl (by decide) ?_
          exact lw_k_swap l hfl hL C1 hE hH0 hn4 (by omega) (by omega) hI hP hD hS hl kk
        · refine lv_tableIn (tgt := 328) (off := 289) hx hb dL_law_39 (by decide) (by decide) rfl (by decide) ?_
          exact lw_k_keyOf l hfl hL C1 hE hH0 hn4 (by omega) (by omega) hI hP hD hS hl kk
        · refine lv_tableIn (tgt := 396) (off := 357) hx hb dL_law_39 (by decide) (by decide) rfl (by decide) ?_
          exact lw_k_letterOn l hfl hL C1 hE hH0 hn4 (by omega) (by omega) hI hP hD hS hl kk
        · refine lv_tableIn (tgt := 464) (off := 425) hx hb dL_law_39 (by decide) (by decide) rfl (by decide) ?_
          exact lw_k_press l hfl hL C1 hE hH0 hn4 (by omega) (by omega) hI hP hD hS hl kk
        · refine lv_tableIn (tgt := 551) (off := 512) hx hb dL_law_39 (by decide) (by decide) rfl (by decide) ?_
          exact lw_k_slips l hfl hL C1 hE hH0 hn4 (by omega) (by omega) hI hP hD hS hl kk
        · refine lv_tableIn (tgt := 631) (off := 592) hx hb dL_law_39 (by decide) (by decide) rfl (by decide) ?_
          exact lw_k_pair l hfl hL C1 hE hH0 hn4 (by omega) (by omega) hI hP hD hS hl kk
        · refine lv_tableIn (tgt := 711) (off := 672) hx hb dL_law_39 (by decide) (by decide) rfl (by decide) ?_
          exact lw_k_pressed l hfl hL C1 hE hH0 hn4 (by omega) (by omega) hI hP hD hS hl kk
        · refine lv_tableIn (tgt := 767) (off := 728) hx hb dL_law_39 (by decide) (by decide) rfl (by decide) ?_
          exact lw_k_history l hfl hL C1 hE hH0 hn4 (by omega) (by omega) hI hP hD hS hl kk
        · refine lv_tableIn (tgt := 835) (off := 796) hx hb dL_law_39 (by decide) (by decide) rfl (by decide) ?_
          exact lw_k_time l hfl hL C1 hE hH0 hn4 (by omega) (by omega) hI hP hD hS hl kk
        · refine lv_tableIn (tgt := 891) (off := 852) hx hb dL_law_39 (by decide) (by decide) rfl (by decide) ?_
          exact lw_k_timeAnew l hfl hL C1 hE hH0 hn4 (by omega) (by omega) hI hP hD hS hl kk
        · refine lv_tableIn (tgt := 947) (off := 908) hx hb dL_law_39 (by decide) (by decide) rfl (by decide) ?_
          exact lw_k_lesson l hfl hL C1 hE hH0 hn4 (by omega) (by omega) hI hP hD hS hl kk
        · refine lv_tableIn (tgt := 1015) (off := 976) hx hb dL_law_39 (by decide) (by decide) rfl (by decide) ?_
          exact lw_k_saves l hfl hL C1 hE hH0 hn4 (by omega) (by omega) hI hP hD hS hl kk
        · refine lv_tableIn (tgt := 1095) (off := 1056) hx hb dL_law_39 (by decide) (by decide) rfl (by decide) ?_
          exact lw_k_best l hfl hL C1 hE hH0 hn4 (by omega) (by omega) hI hP hD hS hl kk
        · refine lv_tableIn (tgt := 1151) (off := 1112) hx hb dL_law_39 (by decide) (by decide) rfl (by decide) ?_
          exact lw_k_draft l hfl hL C1 hE hH0 hn4 (by omega) (by omega) hI hP hD hS hl kk
        · refine lv_tableIn (tgt := 1207) (off := 1168) hx hb dL_law_39 (by decide) (by decide) rfl (by decide) ?_
          exact lw_k_clear l hfl hL C1 hE hH0 hn4 (by omega) (by omega) hI hP hD hS hl kk
        · refine lv_tableIn (tgt := 1220) (off := 1181) hx hb dL_law_39 (by decide) (by decide) rfl (by decide) ?_
          exact lw_k_contest l hfl hL C1 hE hH0 hn4 (by omega) (by omega) hI hP hD hS hl kk
        · refine lv_tableIn (tgt := 1264) (off := 1225) hx hb dL_law_39 (by decide) (by decide) rfl (by decide) ?_
          exact lw_k_result l hfl hL C1 hE hH0 hn4 (by omega) (by omega) hI hP hD hS hl kk
        · refine lv_tableIn (tgt := 1344) (off := 1305) hx hb dL_law_39 (by decide) (by decide) rfl (by decide) ?_
          exact lw_k_of l hfl hL C1 hE hH0 hn4 (by omega) (by omega) hI hP hD hS hl kk
        · refine lv_tableIn (tgt := 1424) (off := 1385) hx hb dL_law_39 (by decide) (by decide) rfl (by decide) ?_
          exact lw_k_ranked l hfl hL C1 hE hH0 hn4 (by omega) (by omega) hI hP hD hS hl kk
      · refine lv_tableOut (tgt := 1492) hx hb dL_law_39 hq9 (by decide) ?_
        refine W.widen (k := 100 + 6 * n + 6) (n := 5000 + 218 * n + 218) (by omega) (by omega) ?_
        exact kk d g f rf H locs ls hI hP hD hS hl
set_option maxHeartbeats 4000000 in
set_option maxRecDepth 100000 in
theorem whole_start {p : Program} {e : Env} {s : State} {m : MethodId} {below : List Frame} {meth : Method} {c : Code} (l : Launch) (hflags : l.flags = flags0) {b L : Nat} {xs : Nat → Int32} (hL : L ≤ 2048) (C0 : lw_At p s m meth c b L xs) : W p l e room_1 s m #[Value.ref b] below meth c s.heap [] 0 0 (lw_Z below #[Value.ref b] s) (entryFrame m ([Value.ref b] : List Value).toArray 7) := by
  obtain ⟨hx, hb, hr, hml, hown, hts, hX, hbl, hlocks, hgv⟩ := id C0
  obtain ⟨D, ct, sa, hE⟩ := hk_kE hts hgv
  have hH0 := hk_kH hts hgv
  have hts : ∀ w ∈ wsL_law, w.before #[Value.ref b] s = true := fun w h => hts w (wsL_law_in w h)
  have hA : ∀ q : Nat, s.heap.size ≤ q → (fun q : Nat => s.heap.size ≤ q) q := fun _ h => h
  have hb : c.code = cL_law := hb
  have hin2 : ∀ w ∈ wsX20, w ∈ wsL_law := inlX2
  have hin3 : ∀ w ∈ wsX30, w ∈ wsL_law := inlX3
  have hS : va_S (fun q : Nat => s.heap.size ≤ q) s.heap s.heap [] := va_S.rf
  have hP : va_P D vwCl [] s.heap := fun k q h => by simp at h
  have hD : va_D (fun q : Nat => s.heap.size ≤ q) [] := ⟨fun i j p q h => by simp at h, fun k q h => by simp at h⟩
  have hl := lv_entry ([.ref b]) (n := 7) (Nat.le_of_ble_eq_true rfl)
  rw [lg_entry_eq]
  generalize (lg_sl ([.ref b]) ++ List.replicate (7 - (lg_sl ([.ref b])).length) Slot.unset).toArray = ls at hl ⊢
  have hl : lv_has ls 7 [(0, .ref b)] := hl
  refine va_new (ci := 2) (fs := [.null, .null, .null, .int 0, .null]) (C := RX2) (T := TX2) (N := 5) hx hb hts hin2 tyX2 tyX2_ok hown (hts (.classLink RL 8 RX2) (by decide +kernel)) (hts (.instantiable RX2 5) (by decide +kernel)) (hts (.initialized RX2) (by decide +kernel)) hE.1 hP hD hS hA rfl (fun j hj => by rcases (show j = 0 ∨ j = 1 ∨ j = 2 ∨ j = 3 ∨ j = 4 by omega) with rfl | rfl | rfl | rfl | rfl <;> rfl) (Nat.le_of_ble_eq_true rfl) (Nat.le_of_ble_eq_true rfl) dL_law_0 (fun q0 H hP hD hS => ?_)
  have hP : va_P D vwCl [(q0, .inr (2, [.null, .null, .null, .int 0, .null]))] H := hP
  have hD : va_D (fun q : Nat => s.heap.size ≤ q) [(q0, .inr (2, [.null, .null, .null, .int 0, .null]))] := hD
  refine lv_dup hx hb dL_law_3 rfl ?_
  refine hk_C (rest := [.ref q0]) (wr := []) (wc := [(q0, .inr (2, [.null, .null, .null, .int 0, .null]))]) (va_runI (As := []) (rest := [.ref q0]) ⟨hx, hb, hml, hown, hts⟩ (c_X2_init l D ct sa q0 H.size) (cwI 0 hts gL_law_X2_init rfl rfl rfl (hts (.initialized RX2) (by decide +kernel)) (hts (.methodLink RL 80 yX2_init) (by decide +kernel)) (hts (.instanceMethod yX2_init) (by decide +kernel)) rfl (by decide +kernel) ⟨Nat.le_of_ble_eq_true rfl, Nat.le_of_ble_eq_true rfl⟩) (hk_preS hE ⟨rfl, hP.right (w1 := []), (hD.right (w1 := [])).weaken (fun _ _ _ _ => trivial)⟩) rfl rfl hl.1 rfl (lv_room (Nat.le_of_ble_eq_true rfl)) dL_law_4 ⟨Nat.le_of_ble_eq_true rfl, Nat.le_of_ble_eq_true rfl⟩) rfl hP hD hS hA (fun u H locs hP hD hS => ?_)
  have hP : va_P D vwCl [(q0, .inr (2, [.ref u.1, .ref u.2.1, .ref u.2.2.1, .int (nI 0), .ref u.2.2.2])), (u.1, .inl (ct 1, 5, .inr (.inr (.inr (.inr (fun _ => none)))))), (u.2.1, .inl (ct 2, 6, .inr (.inr (.inr (.inr (fun _ => none)))))), (u.2.2.1, .inl (ct 0, 24, .inl (fun _ => 0))), (u.2.2.2, .inl (ct 0, 144, .inl (fun _ => 0)))] H := hP
  have hD : va_D (fun q : Nat => s.heap.size ≤ q) [(q0, .inr (2, [.ref u.1, .ref u.2.1, .ref u.2.2.1, .int (nI 0), .ref u.2.2.2])), (u.1, .inl (ct 1, 5, .inr (.inr (.inr (.inr (fun _ => none)))))), (u.2.1, .inl (ct 2, 6, .inr (.inr (.inr (.inr (fun _ => none)))))), (u.2.2.1, .inl (ct 0, 24, .inl (fun _ => 0))), (u.2.2.2, .inl (ct 0, 144, .inl (fun _ => 0)))] := hD
  refine lv_astore_n (lv' := [(1, .ref q0), (0, .ref b)]) hx hb dL_law_7 rfl hl (by decide) rfl (fun ls hl => ?_)
  refine va_new (ci := 3) (fs := [.int 0, .int 0, .null, .null, .null, .null, .null, .null, .null, .null, .null, .int 0, .null, .int 0, .null, .null, .null]) (C := RX3) (T := TX3) (N := 17) hx hb hts hin3 tyX3 tyX3_ok hown (hts (.classLink RL 81 RX3) (by decide +kernel)) (hts (.instantiable RX3 17) (by decide +kernel)) (hts (.initialized RX3) (by decide +kernel)) hE.1 hP hD hS hA rfl (fun j hj => by rcases (show j = 0 ∨ j = 1 ∨ j = 2 ∨ j = 3 ∨ j = 4 ∨ j = 5 ∨ j = 6 ∨ j = 7 ∨ j = 8 ∨ j = 9 ∨ j = 10 ∨ j = 11 ∨ j = 12 ∨ j = 13 ∨ j = 14 ∨ j = 15 ∨ j = 16 by omega) with rfl | rfl | rfl | rfl | rfl | rfl | rfl | rfl | rfl | rfl | rfl | rfl | rfl | rfl | rfl | rfl | rfl <;> rfl) (Nat.le_of_ble_eq_true rfl) (Nat.le_of_ble_eq_true rfl) dL_law_8 (fun q1 H hP hD hS => ?_)
  have hP : va_P D vwCl [(q0, .inr (2, [.ref u.1, .ref u.2.1, .ref u.2.2.1, .int (nI 0), .ref u.2.2.2])), (u.1, .inl (ct 1, 5, .inr (.inr (.inr (.inr (fun _ => none)))))), (u.2.1, .inl (ct 2, 6, .inr (.inr (.inr (.inr (fun _ => none)))))), (u.2.2.1, .inl (ct 0, 24, .inl (fun _ => 0))), (u.2.2.2, .inl (ct 0, 144, .inl (fun _ => 0))), (q1, .inr (3, [.int 0, .int 0, .null, .null, .null, .null, .null, .null, .null, .null, .null, .int 0, .null, .int 0, .null, .null, .null]))] H := hP
  have hD : va_D (fun q : Nat => s.heap.size ≤ q) [(q0, .inr (2, [.ref u.1, .ref u.2.1, .ref u.2.2.1, .int (nI 0), .ref u.2.2.2])), (u.1, .inl (ct 1, 5, .inr (.inr (.inr (.inr (fun _ => none)))))), (u.2.1, .inl (ct 2, 6, .inr (.inr (.inr (.inr (fun _ => none)))))), (u.2.2.1, .inl (ct 0, 24, .inl (fun _ => 0))), (u.2.2.2, .inl (ct 0, 144, .inl (fun _ => 0))), (q1, .inr (3, [.int 0, .int 0, .null, .null, .null, .null, .null, .null, .null, .null, .null, .int 0, .null, .int 0, .null, .null, .null]))] := hD
  refine lv_dup hx hb dL_law_11 rfl ?_
  refine hk_C (rest := [.ref q1]) (wr := [(q0, .inr (2, [.ref u.1, .ref u.2.1, .ref u.2.2.1, .int (nI 0), .ref u.2.2.2])), (u.1, .inl (ct 1, 5, .inr (.inr (.inr (.inr (fun _ => none)))))), (u.2.1, .inl (ct 2, 6, .inr (.inr (.inr (.inr (fun _ => none)))))), (u.2.2.1, .inl (ct 0, 24, .inl (fun _ => 0))), (u.2.2.2, .inl (ct 0, 144, .inl (fun _ => 0)))]) (wc := [(q1, .inr (3, [.int 0, .int 0, .null, .null, .null, .null, .null, .null, .null, .null, .null, .int 0, .null, .int 0, .null, .null, .null]))]) (va_runI (As := []) (rest := [.ref q1]) ⟨hx, hb, hml, hown, hts⟩ (c_X3_init l D ct sa q1 H.size) (cwI 0 hts gL_law_X3_init rfl rfl rfl (hts (.initialized RX3) (by decide +kernel)) (hts (.methodLink RL 83 yX3_init) (by decide +kernel)) (hts (.instanceMethod yX3_init) (by decide +kernel)) rfl (by decide +kernel) ⟨Nat.le_of_ble_eq_true rfl, Nat.le_of_ble_eq_true rfl⟩) (hk_preS hE ⟨rfl, hP.right (w1 := [(q0, .inr (2, [.ref u.1, .ref u.2.1, .ref u.2.2.1, .int (nI 0), .ref u.2.2.2])), (u.1, .inl (ct 1, 5, .inr (.inr (.inr (.inr (fun _ => none)))))), (u.2.1, .inl (ct 2, 6, .inr (.inr (.inr (.inr (fun _ => none)))))), (u.2.2.1, .inl (ct 0, 24, .inl (fun _ => 0))), (u.2.2.2, .inl (ct 0, 144, .inl (fun _ => 0)))]), (hD.right (w1 := [(q0, .inr (2, [.ref u.1, .ref u.2.1, .ref u.2.2.1, .int (nI 0), .ref u.2.2.2])), (u.1, .inl (ct 1, 5, .inr (.inr (.inr (.inr (fun _ => none)))))), (u.2.1, .inl (ct 2, 6, .inr (.inr (.inr (.inr (fun _ => none)))))), (u.2.2.1, .inl (ct 0, 24, .inl (fun _ => 0))), (u.2.2.2, .inl (ct 0, 144, .inl (fun _ => 0)))])).weaken (fun _ _ _ _ => trivial)⟩) rfl rfl hl.1 rfl (lv_room (Nat.le_of_ble_eq_true rfl)) dL_law_12 ⟨Nat.le_of_ble_eq_true rfl, Nat.le_of_ble_eq_true rfl⟩) rfl hP hD hS hA (fun v H locs hP hD hS => ?_)
  have hP : va_P D vwCl [(q0, .inr (2, [.ref u.1, .ref u.2.1, .ref u.2.2.1, .int (nI 0), .ref u.2.2.2])), (u.1, .inl (ct 1, 5, .inr (.inr (.inr (.inr (fun _ => none)))))), (u.2.1, .inl (ct 2, 6, .inr (.inr (.inr (.inr (fun _ => none)))))), (u.2.2.1, .inl (ct 0, 24, .inl (fun _ => 0))), (u.2.2.2, .inl (ct 0, 144, .inl (fun _ => 0))), (q1, .inr (3, [.int 0, .int 0, .ref (v 0), .ref (v 1), .ref (v 2), .ref (v 3), .ref (v 4), .ref (v 5), .ref (v 6), .ref (v 7), .ref (v 8), .int 0, .ref (v 9), .int 0, .ref (v 10), .ref (v 11), .ref (v 12)])), ((v 0), .inl (ct 0, 60, .inl (mk0 60))), ((v 1), .inl (ct 0, 60, .inl (mk0 60))), ((v 2), .inl (ct 0, 5, .inl (fun _ => 0))), ((v 3), .inl (ct 0, 60, .inl (fun _ => 0))), ((v 4), .inl (ct 0, 720, .inl (fun _ => 0))), ((v 5), .inl (ct 0, 5, .inl (fun _ => 0))), ((v 6), .inl (ct 0, 5, .inl (fun _ => 0))), ((v 7), .inl (ct 0, 5, .inl (fun _ => 0))), ((v 8), .inl (ct 0, 150, .inl (fun _ => 0))), ((v 9), .inl (ct 0, 24, .inl (fun _ => 0))), ((v 10), .inl (ct 0, 6, .inl (fun _ => 0))), ((v 11), .inl (ct 0, 30, .inl (fun _ => 0))), ((v 12), .inl (ct 0, 30, .inl (fun _ => 0)))] H := hP
  have hD : va_D (fun q : Nat => s.heap.size ≤ q) [(q0, .inr (2, [.ref u.1, .ref u.2.1, .ref u.2.2.1, .int (nI 0), .ref u.2.2.2])), (u.1, .inl (ct 1, 5, .inr (.inr (.inr (.inr (fun _ => none)))))), (u.2.1, .inl (ct 2, 6, .inr (.inr (.inr (.inr (fun _ => none)))))), (u.2.2.1, .inl (ct 0, 24, .inl (fun _ => 0))), (u.2.2.2, .inl (ct 0, 144, .inl (fun _ => 0))), (q1, .inr (3, [.int 0, .int 0, .ref (v 0), .ref (v 1), .ref (v 2), .ref (v 3), .ref (v 4), .ref (v 5), .ref (v 6), .ref (v 7), .ref (v 8), .int 0, .ref (v 9), .int 0, .ref (v 10), .ref (v 11), .ref (v 12)])), ((v 0), .inl (ct 0, 60, .inl (mk0 60))), ((v 1), .inl (ct 0, 60, .inl (mk0 60))), ((v 2), .inl (ct 0, 5, .inl (fun _ => 0))), ((v 3), .inl (ct 0, 60, .inl (fun _ => 0))), ((v 4), .inl (ct 0, 720, .inl (fun _ => 0))), ((v 5), .inl (ct 0, 5, .inl (fun _ => 0))), ((v 6), .inl (ct 0, 5, .inl (fun _ => 0))), ((v 7), .inl (ct 0, 5, .inl (fun _ => 0))), ((v 8), .inl (ct 0, 150, .inl (fun _ => 0))), ((v 9), .inl (ct 0, 24, .inl (fun _ => 0))), ((v 10), .inl (ct 0, 6, .inl (fun _ => 0))), ((v 11), .inl (ct 0, 30, .inl (fun _ => 0))), ((v 12), .inl (ct 0, 30, .inl (fun _ => 0)))] := hD
  refine lv_astore_n (lv' := [(2, .ref q1), (1, .ref q0), (0, .ref b)]) hx hb dL_law_15 rfl hl (by decide) rfl (fun ls hl => ?_)
  refine lv_iconst (v := nI 1) hx hb dL_law_16 (by decide) ?_
  refine hk_newl hx hb (hts (.arrayClass .long) (by decide +kernel)) hE hP hD hS hA (n := 1) (by decide) (by decide) (Nat.le_of_ble_eq_true rfl) (Nat.le_of_ble_eq_true rfl) dL_law_17 (fun o H hP hD hS => ?_)
  have hP : va_P D vwCl [(q0, .inr (2, [.ref u.1, .ref u.2.1, .ref u.2.2.1, .int (nI 0), .ref u.2.2.2])), (u.1, .inl (ct 1, 5, .inr (.inr (.inr (.inr (fun _ => none)))))), (u.2.1, .inl (ct 2, 6, .inr (.inr (.inr (.inr (fun _ => none)))))), (u.2.2.1, .inl (ct 0, 24, .inl (fun _ => 0))), (u.2.2.2, .inl (ct 0, 144, .inl (fun _ => 0))), (q1, .inr (3, [.int 0, .int 0, .ref (v 0), .ref (v 1), .ref (v 2), .ref (v 3), .ref (v 4), .ref (v 5), .ref (v 6), .ref (v 7), .ref (v 8), .int 0, .ref (v 9), .int 0, .ref (v 10), .ref (v 11), .ref (v 12)])), ((v 0), .inl (ct 0, 60, .inl (mk0 60))), ((v 1), .inl (ct 0, 60, .inl (mk0 60))), ((v 2), .inl (ct 0, 5, .inl (fun _ => 0))), ((v 3), .inl (ct 0, 60, .inl (fun _ => 0))), ((v 4), .inl (ct 0, 720, .inl (fun _ => 0))), ((v 5), .inl (ct 0, 5, .inl (fun _ => 0))), ((v 6), .inl (ct 0, 5, .inl (fun _ => 0))), ((v 7), .inl (ct 0, 5, .inl (fun _ => 0))), ((v 8), .inl (ct 0, 150, .inl (fun _ => 0))), ((v 9), .inl (ct 0, 24, .inl (fun _ => 0))), ((v 10), .inl (ct 0, 6, .inl (fun _ => 0))), ((v 11), .inl (ct 0, 30, .inl (fun _ => 0))), ((v 12), .inl (ct 0, 30, .inl (fun _ => 0))), (o, .inl (ct 3, 1, .inr (.inl (fun _ => 0))))] H := hP
  have hD : va_D (fun q : Nat => s.heap.size ≤ q) [(q0, .inr (2, [.ref u.1, .ref u.2.1, .ref u.2.2.1, .int (nI 0), .ref u.2.2.2])), (u.1, .inl (ct 1, 5, .inr (.inr (.inr (.inr (fun _ => none)))))), (u.2.1, .inl (ct 2, 6, .inr (.inr (.inr (.inr (fun _ => none)))))), (u.2.2.1, .inl (ct 0, 24, .inl (fun _ => 0))), (u.2.2.2, .inl (ct 0, 144, .inl (fun _ => 0))), (q1, .inr (3, [.int 0, .int 0, .ref (v 0), .ref (v 1), .ref (v 2), .ref (v 3), .ref (v 4), .ref (v 5), .ref (v 6), .ref (v 7), .ref (v 8), .int 0, .ref (v 9), .int 0, .ref (v 10), .ref (v 11), .ref (v 12)])), ((v 0), .inl (ct 0, 60, .inl (mk0 60))), ((v 1), .inl (ct 0, 60, .inl (mk0 60))), ((v 2), .inl (ct 0, 5, .inl (fun _ => 0))), ((v 3), .inl (ct 0, 60, .inl (fun _ => 0))), ((v 4), .inl (ct 0, 720, .inl (fun _ => 0))), ((v 5), .inl (ct 0, 5, .inl (fun _ => 0))), ((v 6), .inl (ct 0, 5, .inl (fun _ => 0))), ((v 7), .inl (ct 0, 5, .inl (fun _ => 0))), ((v 8), .inl (ct 0, 150, .inl (fun _ => 0))), ((v 9), .inl (ct 0, 24, .inl (fun _ => 0))), ((v 10), .inl (ct 0, 6, .inl (fun _ => 0))), ((v 11), .inl (ct 0, 30, .inl (fun _ => 0))), ((v 12), .inl (ct 0, 30, .inl (fun _ => 0))), (o, .inl (ct 3, 1, .inr (.inl (fun _ => 0))))] := hD
  refine lv_astore_n (lv' := [(3, .ref o), (2, .ref q1), (1, .ref q0), (0, .ref b)]) hx hb dL_law_19 rfl hl (by decide) rfl (fun ls hl => ?_)
  refine lv_iconst (v := nI 0) hx hb dL_law_20 (by decide) ?_
  refine lv_istore (lv' := [(4, .int (nI 0)), (3, .ref o), (2, .ref q1), (1, .ref q0), (0, .ref b)]) hx hb dL_law_21 hl (by decide) rfl (fun ls hl => ?_)
  obtain ⟨bb, hbb⟩ : ∃ bb : Nat → Nat, bb = fun k => [q0, u.1, u.2.1, u.2.2.1, u.2.2.2].getD k 0 := ⟨_, rfl⟩
  obtain ⟨aa9, haa⟩ : ∃ aa9 : Nat → Nat, aa9 = fun k => [q1, v 0, v 1, v 2, v 3, v 4, v 5, v 6, v 7, v 8, v 9, v 10, v 11, v 12].getD k 0 := ⟨_, rfl⟩
  have hP := (hP.cong 6 rfl (fun j hj => mk0_K hj)).cong 7 rfl (fun j hj => mk0_K hj)
  have hD := (hD.set (p := 6) (e := .inl (ct 0, 60, .inl (mK g0))) rfl).set (p := 7) (e := .inl (ct 0, 60, .inl (mK g0))) rfl
  have eW : bsW ct bb ad0 g0 ++ (mdW ct aa9 g0 0 ++ [(o, .inl (ct 3, 1, .inr (.inl (fun _ => 0))))]) = [(q0, .inr (2, [.ref u.1, .ref u.2.1, .ref u.2.2.1, .int (nI 0), .ref u.2.2.2])), (u.1, .inl (ct 1, 5, .inr (.inr (.inr (.inr (fun _ => none)))))), (u.2.1, .inl (ct 2, 6, .inr (.inr (.inr (.inr (fun _ => none)))))), (u.2.2.1, .inl (ct 0, 24, .inl (fun _ => 0))), (u.2.2.2, .inl (ct 0, 144, .inl (fun _ => 0))), (q1, .inr (3, [.int 0, .int 0, .ref (v 0), .ref (v 1), .ref (v 2), .ref (v 3), .ref (v 4), .ref (v 5), .ref (v 6), .ref (v 7), .ref (v 8), .int 0, .ref (v 9), .int 0, .ref (v 10), .ref (v 11), .ref (v 12)])), ((v 0), .inl (ct 0, 60, .inl (mK g0))), ((v 1), .inl (ct 0, 60, .inl (mK g0))), ((v 2), .inl (ct 0, 5, .inl (fun _ => 0))), ((v 3), .inl (ct 0, 60, .inl (fun _ => 0))), ((v 4), .inl (ct 0, 720, .inl (fun _ => 0))), ((v 5), .inl (ct 0, 5, .inl (fun _ => 0))), ((v 6), .inl (ct 0, 5, .inl (fun _ => 0))), ((v 7), .inl (ct 0, 5, .inl (fun _ => 0))), ((v 8), .inl (ct 0, 150, .inl (fun _ => 0))), ((v 9), .inl (ct 0, 24, .inl (fun _ => 0))), ((v 10), .inl (ct 0, 6, .inl (fun _ => 0))), ((v 11), .inl (ct 0, 30, .inl (fun _ => 0))), ((v 12), .inl (ct 0, 30, .inl (fun _ => 0))), (o, .inl (ct 3, 1, .inr (.inl (fun _ => 0))))] := by
    unfold bsW mdW
    rw [rfs_g0, show rfs (gc g0) ad0.2.1 = fun _ => none from rfs_g0 _, mLa_0, hbb, haa]
    rfl
  have hP8 : va_P D vwCl (bsW ct bb ad0 g0 ++ (mdW ct aa9 g0 0 ++ [(o, .inl (ct 3, 1, .inr (.inl (fun _ => 0))))])) H := by rw [eW]; exact hP
  have hD8 : va_D (fun q : Nat => s.heap.size ≤ q) (bsW ct bb ad0 g0 ++ (mdW ct aa9 g0 0 ++ [(o, .inl (ct 3, 1, .inr (.inl (fun _ => 0))))])) := by rw [eW]; exact hD
  have eV : (mdW ct aa9 g0 0 ++ [(o, .inl (ct 3, 1, .inr (.inl (fun _ => 0))))]) ++ bsW ct bb ad0 g0 = mdW ct aa9 g0 0 ++ hkLW ct bb ad0 g0 o (fun _ => 0) := by rw [List.append_assoc]; rfl
  have hP9 : va_P D vwCl (mdW ct aa9 g0 0 ++ hkLW ct bb ad0 g0 o (fun _ => 0)) H := by rw [← eV]; exact hP8.perm List.perm_append_comm
  have hD9 : va_D (fun q : Nat => s.heap.size ≤ q) (mdW ct aa9 g0 0 ++ hkLW ct bb ad0 g0 o (fun _ => 0)) := by rw [← eV]; exact hD8.perm List.perm_append_comm
  refine W.widen (k := 100 + 6 * 0) (n := 5000 + 218 * 0) (by omega) (by omega) ?_
  have hl : lv_has ls 7 [(0, .ref b), (1, .ref (bb 0)), (2, .ref (aa9 0)), (3, .ref o), (4, .int (nI (4 * 0)))] := by rw [hbb, haa]; exact lv_sub hl [4, 3, 2, 1, 0] rfl
  exact law_loop l hflags hL C0 hE hH0 513 0 (by omega) (by omega) g0 ad0 (fun _ => 0) 0 H _ inv_0 hP9 hD9 hS ls hl
