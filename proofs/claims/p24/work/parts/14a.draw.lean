/-! draws -/
def drw (L : Nat) (xs : Nat → Int32) (k : Nat) : Int32 := (if k < L then xs k else nI (15595807 * k + 11777)) &&& nI 2147483647
def dN (L : Nat) (xs : Nat → Int32) (k : Nat) : Nat := ix (drw L xs k)
theorem and_pos (x : Int32) : ¬ (x &&& nI 2147483647) < 0 := by
  intro h
  have h1 : (x &&& nI 2147483647).toInt < 0 := Int32.lt_iff_toInt_lt.mp h
  have h2 : (x &&& nI 2147483647).toBitVec.msb = false := by
    rw [Int32.toBitVec_and, BitVec.msb_and, show (nI 2147483647).toBitVec.msb = false by decide +kernel, Bool.and_false]
  rw [BitVec.msb_eq_toInt] at h2
  exact of_decide_eq_false h2 h1
theorem drw_eq (L : Nat) (xs : Nat → Int32) (k : Nat) : drw L xs k = nI (dN L xs k) ∧ dN L xs k < 2 ^ 31 := ixI (and_pos _)
def drP (sb L : Nat) (xs : Nat → Int32) (k : Nat) : Array Value → State → Prop := va_Pc [.ref sb, .int (nI k)] (fun U => va_X sb L xs U U.heap)
theorem dr_preS {sb L : Nat} {xs : Nat → Int32} {k : Nat} {s : State} {H : Heap} (h : va_X sb L xs s H) : PreS s H (drP sb L xs k) [.ref sb, .int (nI k)] :=
  ⟨fun a U g mk q => ⟨q.1, va_X.moved (u := U) (U := U.calling g mk a) (Vm.Alike.refl U.vm) q.2⟩, fun U hU hW => ⟨rfl, by show va_X sb L xs U U.heap; rw [hU]; exact va_X.moved hW.alike h⟩⟩
set_option maxHeartbeats 4000000 in
set_option maxRecDepth 100000 in
theorem c_L_draw (l : Launch) (sb L : Nat) (xs : Nat → Int32) (k : Nat) (hk : k < 200) (hL : L ≤ 260) : Met l yL_draw wsL_draw ({ frames := 0, cells := 0, slots := 0, locals := 0 }) (drP sb L xs k) (QcRead (drw L xs k)) 0 0 (fun _ => False) := by
  refine Met.ofW (cc := cL_draw) (maxL := 2) (ret := (some .int)) (by decide) rfl ?_
  intro p e s m args below meth c s₁ B hml hv
  obtain ⟨rfl, hX⟩ := hv
  have hx := B.exec
  have hb := B.bytes
  have hr := B.returns
  have hts := atoms_spec (ws := wsL_draw) B.pre
  have hown : s.vm.findClass RL = some m.cls := findClass_of_methodNamed B.named
  have hlocks := B.notSynchronized
  have hbl : sb < s.heap.size := by
    obtain ⟨scr, h1, -⟩ := hX
    exact (Array.getElem?_eq_some_iff.mp h1).1
  have hS : va_S (fun _ => False) s.heap s.heap [] := va_S.rf
  have hl := lv_entry ([.ref sb, .int (nI k)]) (n := 2) (Nat.le_of_ble_eq_true rfl)
  rw [lg_entry_eq]
  generalize (lg_sl ([.ref sb, .int (nI k)]) ++ List.replicate (2 - (lg_sl ([.ref sb, .int (nI k)])).length) Slot.unset).toArray = ls at hl ⊢
  have hl : lv_has ls 2 [(0, .ref sb), (1, .int (nI k))] := hl
  refine lv_iload_n hx hb dL_draw_0 rfl (lv_at hl 1 rfl) ?_
  refine lv_aload_n hx hb dL_draw_1 rfl (lv_at hl 0 rfl) ?_
  refine va_slen hx hb hX hbl (fun q => q) hS dL_draw_2 ?_
  refine hk_geN (tgt := 12) hx hb (by omega) (by omega) dL_draw_3 (by decide) (fun hc => ?_) (fun hc => ?_)
  · refine lv_ldc (v := nI 15595807) hx hb hown (hts (.constant RL 7 15595807) (by decide +kernel)) dL_draw_12 ?_
    refine lv_iload_n hx hb dL_draw_14 rfl (lv_at hl 1 rfl) ?_
    refine hk_mulN hx hb dL_draw_15 ?_
    refine lv_sipush (v := nI 11777) hx hb dL_draw_16 (by decide) ?_
    refine hk_addN hx hb dL_draw_19 ?_
    refine lv_ldc (v := nI 2147483647) hx hb hown (hts (.constant RL 8 2147483647) (by decide +kernel)) dL_draw_20 ?_
    refine lv_iand hx hb dL_draw_22 ?_
    exact W.iret hx hb hr (fun t ht hW => ⟨by rw [drw, if_neg (by omega)], ht⟩) (fun _ h => nomatch h) dL_draw_23
  · refine lv_aload_n hx hb dL_draw_6 rfl (lv_at hl 0 rfl) ?_
    refine lv_iload_n hx hb dL_draw_7 rfl (lv_at hl 1 rfl) ?_
    refine va_sld hx hb hX hbl (fun q => q) hS (vp_in_nI hc (by omega)) dL_draw_8 ?_
    rw [nI_clamp (show k < 2 ^ 31 by omega)]
    refine lv_goto (tgt := 20) hx hb dL_draw_9 (by decide) ?_
    refine lv_ldc (v := nI 2147483647) hx hb hown (hts (.constant RL 8 2147483647) (by decide +kernel)) dL_draw_20 ?_
    refine lv_iand hx hb dL_draw_22 ?_
    exact W.iret hx hb hr (fun t ht hW => ⟨by rw [drw, if_pos hc], ht⟩) (fun _ h => nomatch h) dL_draw_23
