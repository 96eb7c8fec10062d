/-! the law's wrappers: what each hands back -/
def zL (n : Int) : Int64 := Int64.ofInt n
/-- the answer as a long: the call's, or the number of its exception -/
def lw (es : List Int64) (z : Op) : Int64 := if z.1 = 0 then z.2.1.toInt64 else es.getD (ix z.1 - 1) 0
def hkZP (D : va_G) (ct : Nat → ClassId) (b : Nat → Nat) (d : Ad) (g : Sg) (G0 sz : Nat) : Heap → Prop := fun H => H.size = sz ∧ va_P D vwCl (hkW ct b d g) H ∧ va_D (fun q => G0 ≤ q) (hkW ct b d g)
def hkZQ (D : va_G) (ct : Nat → ClassId) (b : Nat → Nat) (A : Nat → Prop) (v : Value) (g' : Sg) : Array Value → State → Outcome → State → Prop := fun _ st x t =>
  x = .returned (some v) ∧ (∃ (d : Ad), va_P D vwCl (hkW ct b d g') t.heap ∧ va_D A (hkW ct b d g')) ∧ va_F A st t
theorem hk_ofWH {l : Launch} {y : MethodName} {ws ws' : List Cond} {rm : Room} {Pc : Array Value → State → Prop} {Qc : Array Value → State → Outcome → State → Prop} {mc ms : Nat} {free : Addr → Prop} {cc : ByteArray} {maxL : Nat} {ret : Option FieldType} {hh : List (Nat × Nat × Nat × Nat)}
    (hy : plainName y.cls = true) (hw : ws = Cond.codeWith y cc maxL ret hh :: ws')
    (body : ∀ p e s m args below meth c s₁, BodyLoose p l y (headSpec ws rm) cc maxL ret e s m args below meth c s₁ → c.maxLocals = maxL → Pc args s →
      W p l e (headSpec ws rm).room s m args below meth c s.heap [] 0 0 (MQ below Qc args s mc ms free) (entryFrame m args maxL)) : Met l y ws rm Pc Qc mc ms free := by
  refine MetFree.of_bodyS (code := cc) (maxLocals := maxL) (ret := ret) hy ?_ ?_
  · intro args s m h hn
    obtain ⟨m9, meth, c, hn9, h1, h2, h3, h4, -, h5, h6, -⟩ := Cond.codeWith_spec (atoms_spec (ws := ws) h _ (by rw [hw]; exact List.mem_cons_self))
    cases hn.symm.trans hn9
    exact ⟨meth, c, h1, h2, h3, h4, h5, h6⟩
  · intro p e s m args below meth c s₁ B hml hP _
    have hh0 : s₁.heap = s.heap := by rw [B.state]; rfl
    obtain ⟨t, a1, o, b1, b2, b3⟩ := body p e s m args below meth c s₁ B hml hP s₁ hh0 (Stand.of_body B)
    exact ⟨t, o, a1, b1, b2, b3⟩
section HKL
variable {p : Program} {l : Launch} {e : Env} {R : Room} {s : State} {m : MethodId} {args : Array Value} {below : List Frame} {meth : Method} {c : Code} {H : Heap} {locs : List Loc} {cells slots : Nat} {Q : State → Prop}
variable {cc : ByteArray} {pc : Nat} {ls : Array Slot} {rest st0 : List Value} {D : va_G} {ct : Nat → ClassId} {sa : Nat → Nat} {ws : va_W} {A : Nat → Prop} {H0 : Heap} {a : Nat}
/-- a call of the face that may throw: what lies on both ways -/
theorem hk_L {b : Nat → Nat} {d : Ad} {g : Sg} {z : Op} {ok : String → Prop} {sz mc ms : Nat} {aa : Array Value} {wr : va_W} (hr : vx_Run p l e R s m args below meth c H locs cells slots mc ms (F0 m pc ls st0) rest (hkFQ D ct b (va_A (hkW ct b d g) sz) z aa) (hkXC ok) (va_A (hkW ct b d g) sz)) (hsz : H.size = sz) (hP : va_P D vwCl (wr ++ hkW ct b d g) H) (hD : va_D A (wr ++ hkW ct b d g)) (hS : va_S A H0 H locs) (hA : ∀ q, H0.size ≤ q → A q)
    (kx : ∀ (E : String) (ce : Cell) (q9 : Addr) (H1 : Heap) (locs1 : List Loc), ok E → va_P D vwCl (wr ++ hkW ct b d g) H1 → va_S A H0 H1 locs1 → H1[q9]? = some ce → ce.vm = .none → s.vm.findClass E = some ce.cls → vx_W p l e R s m args below meth c H1 locs1 (cells + mc) (slots + ms) Q (F0 m pc ls rest) q9)
    (kk : ∀ (d' : Ad) (H1 : Heap) (locs1 : List Loc), z.1 = 0 → va_P D vwCl (wr ++ hkW ct b d' z.2.2) H1 → va_D A (wr ++ hkW ct b d' z.2.2) → va_S A H0 H1 locs1 → W p l e R s m args below meth c H1 locs1 (cells + mc) (slots + ms) Q (F0 m (pc + 3) ls (.int z.2.1 :: rest))) : W p l e R s m args below meth c H locs cells slots Q (F0 m pc ls st0) := by
  subst hsz
  have hF := hk_free hD hS hA
  intro T hT X
  rcases hr T hT X with ⟨v', st₀, t, T', L, h0, X', hL, e1, e2, ⟨hv, hz0, ⟨d', hP1, hD1⟩, hF9⟩, st⟩ | ⟨q, st₀, t, T', L, E, ce, h0, X', hL, e1, e2, ⟨ho, hF9⟩, hce, hcv, hcl, st⟩
  · cases hv
    obtain ⟨hz1, hk1, hS1⟩ := vx_keep h0 e1 hS (fun q _ h => hF q h) hF hL hF9
    rw [← e1] at hP1
    obtain ⟨j1, j2⟩ := hk_split hP hD hk1 hF hP1 hD1
    obtain ⟨t2, a1, b1⟩ := kk d' T'.heap (locs ++ L) hz0 j1 j2 hS1 T' rfl X'
    exact ⟨t2, st t2 a1, b1⟩
  · have hF8 : va_F (va_A (hkW ct b d g) H.size) st₀ t := ⟨hF9.1, fun q h1 _ => hF9.2 q h1 (by simp)⟩
    obtain ⟨hz1, hk1, hS1⟩ := vx_keep h0 e1 hS (fun q _ h => hF q h) hF hL hF8
    obtain ⟨t2, a1, b1⟩ := kx E ce q T'.heap (locs ++ L) ho (fun k x hx9 => (hP k x hx9).kept (by rw [e1, ← h0]; exact hF9.2 x.1 (by rw [h0]; exact (hP k x hx9).lt) (by simp))) hS1 (by rw [e1]; exact hce) hcv hcl T' rfl X'
    exact ⟨t2, st.trans a1, b1⟩
/-- a call that hands back v and leaves the state g' -/
theorem hk_LZ {b : Nat → Nat} {d : Ad} {g g' g2 : Sg} {v v2 : Value} {sz mc ms : Nat} {aa : Array Value} {wr : va_W} (hr : va_Run p l e R s m args below meth c H locs cells slots mc ms (F0 m pc ls st0) rest (hkZQ D ct b (va_A (hkW ct b d g) sz) v2 g2 aa) (va_A (hkW ct b d g) sz)) (hsz : H.size = sz) (hP : va_P D vwCl (wr ++ hkW ct b d g) H) (hD : va_D A (wr ++ hkW ct b d g)) (hS : va_S A H0 H locs) (hA : ∀ q, H0.size ≤ q → A q) (hv2 : v2 = v) (hg2 : g2 = g')
    (kk : ∀ (d' : Ad) (H1 : Heap) (locs1 : List Loc), va_P D vwCl (wr ++ hkW ct b d' g') H1 → va_D A (wr ++ hkW ct b d' g') → va_S A H0 H1 locs1 → W p l e R s m args below meth c H1 locs1 (cells + mc) (slots + ms) Q (F0 m (pc + 3) ls (v :: rest))) : W p l e R s m args below meth c H locs cells slots Q (F0 m pc ls st0) := by
  subst hsz
  subst hv2
  subst hg2
  have hF := hk_free hD hS hA
  intro T hT X
  obtain ⟨v', st₀, t, T', L, h0, X', hL, e1, e2, ⟨hv, ⟨d', hP1, hD1⟩, hF9⟩, st⟩ := hr T hT X
  cases hv
  obtain ⟨hz1, hk1, hS1⟩ := vx_keep h0 e1 hS (fun q _ h => hF q h) hF hL hF9
  rw [← e1] at hP1
  obtain ⟨j1, j2⟩ := hk_split hP hD hk1 hF hP1 hD1
  obtain ⟨t2, a1, b1⟩ := kk d' T'.heap (locs ++ L) j1 j2 hS1 T' rfl X'
  exact ⟨t2, st t2 a1, b1⟩
/-- the same of a call of the face that throws nothing -/
theorem hk_LF {b : Nat → Nat} {d : Ad} {g : Sg} {z : Op} {sz mc ms : Nat} {aa : Array Value} {wr : va_W} (hr : va_Run p l e R s m args below meth c H locs cells slots mc ms (F0 m pc ls st0) rest (hkFQ D ct b (va_A (hkW ct b d g) sz) z aa) (va_A (hkW ct b d g) sz)) (hsz : H.size = sz) (hP : va_P D vwCl (wr ++ hkW ct b d g) H) (hD : va_D A (wr ++ hkW ct b d g)) (hS : va_S A H0 H locs) (hA : ∀ q, H0.size ≤ q → A q)
    (kk : ∀ (d' : Ad) (H1 : Heap) (locs1 : List Loc), va_P D vwCl (wr ++ hkW ct b d' z.2.2) H1 → va_D A (wr ++ hkW ct b d' z.2.2) → va_S A H0 H1 locs1 → W p l e R s m args below meth c H1 locs1 (cells + mc) (slots + ms) Q (F0 m (pc + 3) ls (.int z.2.1 :: rest))) : W p l e R s m args below meth c H locs cells slots Q (F0 m pc ls st0) := by
  subst hsz
  have hF := hk_free hD hS hA
  intro T hT X
  obtain ⟨v', st₀, t, T', L, h0, X', hL, e1, e2, ⟨hv, hz0, ⟨d', hP1, hD1⟩, hF9⟩, st⟩ := hr T hT X
  cases hv
  obtain ⟨hz1, hk1, hS1⟩ := vx_keep h0 e1 hS (fun q _ h => hF q h) hF hL hF9
  rw [← e1] at hP1
  obtain ⟨j1, j2⟩ := hk_split hP hD hk1 hF hP1 hD1
  obtain ⟨t2, a1, b1⟩ := kk d' T'.heap (locs ++ L) j1 j2 hS1 T' rfl X'
  exact ⟨t2, st t2 a1, b1⟩
theorem hk_ldc2 (hx : p.tables.exec = Jvm.exec) (hb : c.code = cc) {own : String} {index : Nat} {v : Int64} (hown : s.vm.findClass own = some m.cls) (hk : (Jvm.Cond.constantLong own index v).before args s = true) (hdg : decode cc pc = .ok (.ldc2_w index, 3))
    (kk : W p l e R s m args below meth c H locs cells slots Q (F0 m (pc + 3) ls (.long v :: rest))) : W p l e R s m args below meth c H locs cells slots Q (F0 m pc ls rest) :=
  W.ldc2 hx hb hown hk (g := F0 m pc ls rest) rfl hdg kk
end HKL
theorem hkS_H {G0 : Nat} {U : State} {H H1 : Heap} {locs : List Loc} {A : Nat → Prop} (h : hkH G0 U H) (hAG : ∀ q, A q → G0 ≤ q) (hS : va_S A H H1 locs) : hkH G0 U H1 := h.kept hS.1 (fun q h1 h2 => hS.2.1 q h1 (fun h3 => h2 (hAG q h3)))
theorem hkA_G {G0 sz : Nat} {w : va_W} (hD : va_D (fun q => G0 ≤ q) w) (hz : G0 ≤ sz) : ∀ q, va_A w sz q → G0 ≤ q := fun q h => by
  rcases h with ⟨k, e, h⟩ | h
  · exact hD.2 k (q, e) h
  · exact Nat.le_trans hz h
theorem pr_01 (g : Sg) (x y z : Int32) (h : ¬ (opPress g x y z).2.1 = 0) : (opPress g x y z).2.1 = 1 := by
  revert h
  unfold opPress
  split
  · intro h; exact absurd rfl h
  · show ¬ tpR _ _ _ = 0 → tpR _ _ _ = 1
    unfold tpR
    split
    · intro h; exact absurd rfl h
    · intro _; rfl
set_option maxHeartbeats 4000000 in
set_option maxRecDepth 100000 in
theorem c_L_student (l : Launch) (hfl : l.flags = flags0) (D : va_G) (ct : Nat → ClassId) (sa : Nat → Nat) (G0 sz : Nat) (b : Nat → Nat) (d : Ad) (g : Sg)  (hI : Inv g) : Met l yL_student wsL_student ({ frames := 7, cells := 6, slots := 218, locals := 103 }) (hkPx D ct sa G0 [.ref (b 0)] (hkZP D ct b d g G0 sz)) (hkZQ D ct b (va_A (hkW ct b d g) sz) (.long (lw [(-9000000000000000003)] (opStudent g))) (opStudent g).2.2) 6 218 (va_A (hkW ct b d g) sz) := by
  refine hk_ofWH (cc := cL_student) (maxL := 2) (ret := (some .long)) (by decide) rfl ?_
  intro p e s m args below meth c s₁ B hml hv
  obtain ⟨rfl, hE, hH, hp⟩ := hv
  have hx := B.exec
  have hb := B.bytes
  have hr := B.returns
  have hts := atoms_spec (ws := wsL_student) B.pre
  have hown : s.vm.findClass RL = some m.cls := findClass_of_methodNamed B.named
  have hlocks := B.notSynchronized
  have htab := vx_table (x := yX2_at) B (hts (.codeWith yL_student cL_student 2 (some .long) [(0, 5, 6, 15)]) (List.mem_of_getElem? (i := 0) rfl))
  obtain ⟨hsz, hP, hDG⟩ := hp
  subst hsz
  have hD := hDG.self (sz := s.heap.size)
  generalize hAe : va_A (hkW ct b d g) s.heap.size = A at hD ⊢
  have hA : ∀ q : Nat, s.heap.size ≤ q → A q := fun q h => by rw [← hAe]; exact Or.inr h
  have hS : va_S A s.heap s.heap [] := va_S.rf
  have hl := lv_entry ([.ref (b 0)]) (n := 2) (Nat.le_of_ble_eq_true rfl)
  rw [lg_entry_eq]
  generalize (lg_sl ([.ref (b 0)]) ++ List.replicate (2 - (lg_sl ([.ref (b 0)])).length) Slot.unset).toArray = ls at hl ⊢
  have hl : lv_has ls 2 [(0, .ref (b 0))] := hl
  refine lv_aload_n hx hb dL_student_0 rfl (lv_at hl 0 rfl) ?_
  refine hk_L (wr := []) (z := (opStudent g)) (rest := []) (vx_runV (As := []) (rest := []) ⟨hx, hb, hml, hown, hts⟩ (c_X2_student l hfl D ct sa G0 s.heap.size b d g  hI) (cwV 0 hts gL_student_X2_student rfl rfl rfl (by decide +kernel) ⟨Nat.le_of_ble_eq_true rfl, Nat.le_of_ble_eq_true rfl⟩) (hk_prxV hE hH (va_recv hE.1 hP (ci := 2) (q0 := 0) rfl rfl) ⟨rfl, hP, hDG⟩) rfl rfl hl.1 rfl (lv_room (Nat.le_of_ble_eq_true rfl)) dL_student_1 ⟨Nat.le_of_ble_eq_true rfl, Nat.le_of_ble_eq_true rfl⟩) rfl hP hD hS hA (fun E ce q9 H locs ho hP hS hce hcv hcl => ?_) (fun d9 H locs hz hP hD hS => ?_)
  · obtain ⟨k, hk, hz⟩ := ho
    have hg9 : (opStudent g).2.2 = g := rf_opStudent (by rw [hz]; exact nI_ne0 (by omega) (by
        have h9 : k < 1 := (List.getElem?_eq_some_iff.mp hk).1
        omega))
    rcases k with _ | k
    · obtain rfl : E = "java/lang/IllegalStateException" := (Option.some.inj hk).symm
      refine vx_catch hown [] ⟨0, 5, 6, 15⟩ [] (htab.trans rfl) (fun z hz => absurd hz List.not_mem_nil) (by decide) (by decide) (hts (.classLink RL 15 "java/lang/IllegalStateException") (by decide +kernel)) (hE.use hkN_c0) hce hcv hcl ?_
      refine lv_astore_n (lv' := [(1, .ref q9), (0, .ref (b 0))]) hx hb dL_student_6 rfl hl (by decide) rfl (fun ls hl => ?_)
      refine hk_ldc2 (v := (-9000000000000000003)) hx hb hown (hts (.constantLong RL 17 (-9000000000000000003)) (by decide +kernel)) dL_student_7 ?_
      have hP9 : va_P D vwCl (hkW ct b d (opStudent g).2.2) H := by rw [hg9]; exact hP
      have hD9 : va_D A (hkW ct b d (opStudent g).2.2) := by rw [hg9]; exact hD
      exact W.lret (v := (-9000000000000000003)) hx hb hr (fun t ht hW => ⟨by rw [lw, hz]; rfl, ⟨d, by rw [ht]; exact hP9, hD9⟩, hS.F ht⟩) hS.2.2 dL_student_10
    · exact nomatch hk
  · skip
    have hP : va_P D vwCl (hkW ct b d9 (opStudent g).2.2) H := hP
    have hD : va_D A (hkW ct b d9 (opStudent g).2.2) := hD
    refine lv_i2l hx hb dL_student_4 rfl ?_
    have hP9 : va_P D vwCl (hkW ct b d9 (opStudent g).2.2) H := hP
    have hD9 : va_D A (hkW ct b d9 (opStudent g).2.2) := hD
    exact W.lret (v := ((opStudent g).2.1).toInt64) hx hb hr (fun t ht hW => ⟨by rw [lw, if_pos hz], ⟨d9, by rw [ht]; exact hP9, hD9⟩, hS.F ht⟩) hS.2.2 dL_student_5

set_option maxHeartbeats 4000000 in
set_option maxRecDepth 100000 in
theorem c_L_carry (l : Launch) (hfl : l.flags = flags0) (D : va_G) (ct : Nat → ClassId) (sa : Nat → Nat) (G0 sz : Nat) (b : Nat → Nat) (d : Ad) (g : Sg) (x : Int32) (y : Int32) (hI : Inv g) : Met l yL_carry wsL_carry ({ frames := 8, cells := 2, slots := 12, locals := 128 }) (hkPx D ct sa G0 [.ref (b 0), .int x, .int y] (hkZP D ct b d g G0 sz)) (hkZQ D ct b (va_A (hkW ct b d g) sz) (.long (lw [(-9000000000000000001), (-9000000000000000002)] (opCarry g x y))) (opCarry g x y).2.2) 2 12 (va_A (hkW ct b d g) sz) := by
  refine hk_ofWH (cc := cL_carry) (maxL := 4) (ret := (some .long)) (by decide) rfl ?_
  intro p e s m args below meth c s₁ B hml hv
  obtain ⟨rfl, hE, hH, hp⟩ := hv
  have hx := B.exec
  have hb := B.bytes
  have hr := B.returns
  have hts := atoms_spec (ws := wsL_carry) B.pre
  have hown : s.vm.findClass RL = some m.cls := findClass_of_methodNamed B.named
  have hlocks := B.notSynchronized
  have htab := vx_table (x := yX2_at) B (hts (.codeWith yL_carry cL_carry 4 (some .long) [(0, 7, 8, 23), (0, 7, 13, 27)]) (List.mem_of_getElem? (i := 0) rfl))
  obtain ⟨hsz, hP, hDG⟩ := hp
  subst hsz
  have hD := hDG.self (sz := s.heap.size)
  generalize hAe : va_A (hkW ct b d g) s.heap.size = A at hD ⊢
  have hA : ∀ q : Nat, s.heap.size ≤ q → A q := fun q h => by rw [← hAe]; exact Or.inr h
  have hS : va_S A s.heap s.heap [] := va_S.rf
  have hl := lv_entry ([.ref (b 0), .int x, .int y]) (n := 4) (Nat.le_of_ble_eq_true rfl)
  rw [lg_entry_eq]
  generalize (lg_sl ([.ref (b 0), .int x, .int y]) ++ List.replicate (4 - (lg_sl ([.ref (b 0), .int x, .int y])).length) Slot.unset).toArray = ls at hl ⊢
  have hl : lv_has ls 4 [(0, .ref (b 0)), (1, .int x), (2, .int y)] := hl
  refine lv_aload_n hx hb dL_carry_0 rfl (lv_at hl 0 rfl) ?_
  refine lv_iload_n hx hb dL_carry_1 rfl (lv_at hl 1 rfl) ?_
  refine lv_iload_n hx hb dL_carry_2 rfl (lv_at hl 2 rfl) ?_
  refine hk_L (wr := []) (z := (opCarry g x y)) (rest := []) (vx_runV (As := [.int x, .int y]) (rest := []) ⟨hx, hb, hml, hown, hts⟩ (c_X2_carry l hfl D ct sa G0 s.heap.size b d g x y hI) (cwV 2 hts gL_carry_X2_carry rfl rfl rfl (by decide +kernel) ⟨Nat.le_of_ble_eq_true rfl, Nat.le_of_ble_eq_true rfl⟩) (hk_prxV hE hH (va_recv hE.1 hP (ci := 2) (q0 := 0) rfl rfl) ⟨rfl, hP, hDG⟩) rfl rfl hl.1 rfl (lv_room (Nat.le_of_ble_eq_true rfl)) dL_carry_3 ⟨Nat.le_of_ble_eq_true rfl, Nat.le_of_ble_eq_true rfl⟩) rfl hP hD hS hA (fun E ce q9 H locs ho hP hS hce hcv hcl => ?_) (fun d9 H locs hz hP hD hS => ?_)
  · obtain ⟨k, hk, hz⟩ := ho
    have hg9 : (opCarry g x y).2.2 = g := rf_opCarry (by rw [hz]; exact nI_ne0 (by omega) (by
        have h9 : k < 2 := (List.getElem?_eq_some_iff.mp hk).1
        omega))
    rcases k with _ | _ | k
    · obtain rfl : E = "java/lang/IndexOutOfBoundsException" := (Option.some.inj hk).symm
      refine vx_catch hown [] ⟨0, 7, 8, 23⟩ [⟨0, 7, 13, 27⟩] (htab.trans rfl) (fun z hz => absurd hz List.not_mem_nil) (by decide) (by decide) (hts (.classLink RL 23 "java/lang/IndexOutOfBoundsException") (by decide +kernel)) (hE.use hkN_c1) hce hcv hcl ?_
      refine lv_astore_n (lv' := [(3, .ref q9), (0, .ref (b 0)), (1, .int x), (2, .int y)]) hx hb dL_carry_8 rfl hl (by decide) rfl (fun ls hl => ?_)
      refine hk_ldc2 (v := (-9000000000000000001)) hx hb hown (hts (.constantLong RL 25 (-9000000000000000001)) (by decide +kernel)) dL_carry_9 ?_
      have hP9 : va_P D vwCl (hkW ct b d (opCarry g x y).2.2) H := by rw [hg9]; exact hP
      have hD9 : va_D A (hkW ct b d (opCarry g x y).2.2) := by rw [hg9]; exact hD
      exact W.lret (v := (-9000000000000000001)) hx hb hr (fun t ht hW => ⟨by rw [lw, hz]; rfl, ⟨d, by rw [ht]; exact hP9, hD9⟩, hS.F ht⟩) hS.2.2 dL_carry_12
    · obtain rfl : E = "java/lang/IllegalArgumentException" := (Option.some.inj hk).symm
      refine vx_catch hown [⟨0, 7, 8, 23⟩] ⟨0, 7, 13, 27⟩ [] (htab.trans rfl) (fun z hz => by
        obtain rfl := List.mem_singleton.mp hz
        exact Or.inr ⟨by decide, "java/lang/IndexOutOfBoundsException", (hts (.classLink RL 23 "java/lang/IndexOutOfBoundsException") (by decide +kernel)), hE.2.2.2.1 _ (List.mem_of_getElem? (i := 5) rfl)⟩) (by decide) (by decide) (hts (.classLink RL 27 "java/lang/IllegalArgumentException") (by decide +kernel)) (hE.use hkN_c2) hce hcv hcl ?_
      refine lv_astore_n (lv' := [(3, .ref q9), (0, .ref (b 0)), (1, .int x), (2, .int y)]) hx hb dL_carry_13 rfl hl (by decide) rfl (fun ls hl => ?_)
      refine hk_ldc2 (v := (-9000000000000000002)) hx hb hown (hts (.constantLong RL 29 (-9000000000000000002)) (by decide +kernel)) dL_carry_14 ?_
      have hP9 : va_P D vwCl (hkW ct b d (opCarry g x y).2.2) H := by rw [hg9]; exact hP
      have hD9 : va_D A (hkW ct b d (opCarry g x y).2.2) := by rw [hg9]; exact hD
      exact W.lret (v := (-9000000000000000002)) hx hb hr (fun t ht hW => ⟨by rw [lw, hz]; rfl, ⟨d, by rw [ht]; exact hP9, hD9⟩, hS.F ht⟩) hS.2.2 dL_carry_17
    · exact nomatch hk
  · skip
    have hP : va_P D vwCl (hkW ct b d9 (opCarry g x y).2.2) H := hP
    have hD : va_D A (hkW ct b d9 (opCarry g x y).2.2) := hD
    refine lv_i2l hx hb dL_carry_6 rfl ?_
    have hP9 : va_P D vwCl (hkW ct b d9 (opCarry g x y).2.2) H := hP
    have hD9 : va_D A (hkW ct b d9 (opCarry g x y).2.2) := hD
    exact W.lret (v := ((opCarry g x y).2.1).toInt64) hx hb hr (fun t ht hW => ⟨by rw [lw, if_pos hz], ⟨d9, by rw [ht]; exact hP9, hD9⟩, hS.F ht⟩) hS.2.2 dL_carry_7

set_option maxHeartbeats 4000000 in
set_option maxRecDepth 100000 in
theorem c_L_swap (l : Launch) (hfl : l.flags = flags0) (D : va_G) (ct : Nat → ClassId) (sa : Nat → Nat) (G0 sz : Nat) (b : Nat → Nat) (d : Ad) (g : Sg) (x : Int32) (y : Int32) (z : Int32) (hI : Inv g) : Met l yL_swap wsL_swap ({ frames := 9, cells := 4, slots := 24, locals := 148 }) (hkPx D ct sa G0 [.ref (b 0), .int x, .int y, .int z] (hkZP D ct b d g G0 sz)) (hkZQ D ct b (va_A (hkW ct b d g) sz) (.long (lw [(-9000000000000000001), (-9000000000000000002)] (opSwap g x y z))) (opSwap g x y z).2.2) 4 24 (va_A (hkW ct b d g) sz) := by
  refine hk_ofWH (cc := cL_swap) (maxL := 5) (ret := (some .long)) (by decide) rfl ?_
  intro p e s m args below meth c s₁ B hml hv
  obtain ⟨rfl, hE, hH, hp⟩ := hv
  have hx := B.exec
  have hb := B.bytes
  have hr := B.returns
  have hts := atoms_spec (ws := wsL_swap) B.pre
  have hown : s.vm.findClass RL = some m.cls := findClass_of_methodNamed B.named
  have hlocks := B.notSynchronized
  have htab := vx_table (x := yX2_at) B (hts (.codeWith yL_swap cL_swap 5 (some .long) [(0, 8, 9, 23), (0, 8, 15, 27)]) (List.mem_of_getElem? (i := 0) rfl))
  obtain ⟨hsz, hP, hDG⟩ := hp
  subst hsz
  have hD := hDG.self (sz := s.heap.size)
  generalize hAe : va_A (hkW ct b d g) s.heap.size = A at hD ⊢
  have hA : ∀ q : Nat, s.heap.size ≤ q → A q := fun q h => by rw [← hAe]; exact Or.inr h
  have hS : va_S A s.heap s.heap [] := va_S.rf
  have hl := lv_entry ([.ref (b 0), .int x, .int y, .int z]) (n := 5) (Nat.le_of_ble_eq_true rfl)
  rw [lg_entry_eq]
  generalize (lg_sl ([.ref (b 0), .int x, .int y, .int z]) ++ List.replicate (5 - (lg_sl ([.ref (b 0), .int x, .int y, .int z])).length) Slot.unset).toArray = ls at hl ⊢
  have hl : lv_has ls 5 [(0, .ref (b 0)), (1, .int x), (2, .int y), (3, .int z)] := hl
  refine lv_aload_n hx hb dL_swap_0 rfl (lv_at hl 0 rfl) ?_
  refine lv_iload_n hx hb dL_swap_1 rfl (lv_at hl 1 rfl) ?_
  refine lv_iload_n hx hb dL_swap_2 rfl (lv_at hl 2 rfl) ?_
  refine lv_iload_n hx hb dL_swap_3 rfl (lv_at hl 3 rfl) ?_
  refine hk_L (wr := []) (z := (opSwap g x y z)) (rest := []) (vx_runV (As := [.int x, .int y, .int z]) (rest := []) ⟨hx, hb, hml, hown, hts⟩ (c_X2_swap l hfl D ct sa G0 s.heap.size b d g x y z hI) (cwV 3 hts gL_swap_X2_swap rfl rfl rfl (by decide +kernel) ⟨Nat.le_of_ble_eq_true rfl, Nat.le_of_ble_eq_true rfl⟩) (hk_prxV hE hH (va_recv hE.1 hP (ci := 2) (q0 := 0) rfl rfl) ⟨rfl, hP, hDG⟩) rfl rfl hl.1 rfl (lv_room (Nat.le_of_ble_eq_true rfl)) dL_swap_4 ⟨Nat.le_of_ble_eq_true rfl, Nat.le_of_ble_eq_true rfl⟩) rfl hP hD hS hA (fun E ce q9 H locs ho hP hS hce hcv hcl => ?_) (fun d9 H locs hz hP hD hS => ?_)
  · obtain ⟨k, hk, hz⟩ := ho
    have hg9 : (opSwap g x y z).2.2 = g := rf_opSwap (by rw [hz]; exact nI_ne0 (by omega) (by
        have h9 : k < 2 := (List.getElem?_eq_some_iff.mp hk).1
        omega))
    rcases k with _ | _ | k
    · obtain rfl : E = "java/lang/IndexOutOfBoundsException" := (Option.some.inj hk).symm
      refine vx_catch hown [] ⟨0, 8, 9, 23⟩ [⟨0, 8, 15, 27⟩] (htab.trans rfl) (fun z hz => absurd hz List.not_mem_nil) (by decide) (by decide) (hts (.classLink RL 23 "java/lang/IndexOutOfBoundsException") (by decide +kernel)) (hE.use hkN_c1) hce hcv hcl ?_
      refine lv_astore (lv' := [(4, .ref q9), (0, .ref (b 0)), (1, .int x), (2, .int y), (3, .int z)]) hx hb dL_swap_9 hl (by decide) rfl (fun ls hl => ?_)
      refine hk_ldc2 (v := (-9000000000000000001)) hx hb hown (hts (.constantLong RL 25 (-9000000000000000001)) (by decide +kernel)) dL_swap_11 ?_
      have hP9 : va_P D vwCl (hkW ct b d (opSwap g x y z).2.2) H := by rw [hg9]; exact hP
      have hD9 : va_D A (hkW ct b d (opSwap g x y z).2.2) := by rw [hg9]; exact hD
      exact W.lret (v := (-9000000000000000001)) hx hb hr (fun t ht hW => ⟨by rw [lw, hz]; rfl, ⟨d, by rw [ht]; exact hP9, hD9⟩, hS.F ht⟩) hS.2.2 dL_swap_14
    · obtain rfl : E = "java/lang/IllegalArgumentException" := (Option.some.inj hk).symm
      refine vx_catch hown [⟨0, 8, 9, 23⟩] ⟨0, 8, 15, 27⟩ [] (htab.trans rfl) (fun z hz => by
        obtain rfl := List.mem_singleton.mp hz
        exact Or.inr ⟨by decide, "java/lang/IndexOutOfBoundsException", (hts (.classLink RL 23 "java/lang/IndexOutOfBoundsException") (by decide +kernel)), hE.2.2.2.1 _ (List.mem_of_getElem? (i := 5) rfl)⟩) (by decide) (by decide) (hts (.classLink RL 27 "java/lang/IllegalArgumentException") (by decide +kernel)) (hE.use hkN_c2) hce hcv hcl ?_
      refine lv_astore (lv' := [(4, .ref q9), (0, .ref (b 0)), (1, .int x), (2, .int y), (3, .int z)]) hx hb dL_swap_15 hl (by decide) rfl (fun ls hl => ?_)
      refine hk_ldc2 (v := (-9000000000000000002)) hx hb hown (hts (.constantLong RL 29 (-9000000000000000002)) (by decide +kernel)) dL_swap_17 ?_
      have hP9 : va_P D vwCl (hkW ct b d (opSwap g x y z).2.2) H := by rw [hg9]; exact hP
      have hD9 : va_D A (hkW ct b d (opSwap g x y z).2.2) := by rw [hg9]; exact hD
      exact W.lret (v := (-9000000000000000002)) hx hb hr (fun t ht hW => ⟨by rw [lw, hz]; rfl, ⟨d, by rw [ht]; exact hP9, hD9⟩, hS.F ht⟩) hS.2.2 dL_swap_20
    · exact nomatch hk
  · skip
    have hP : va_P D vwCl (hkW ct b d9 (opSwap g x y z).2.2) H := hP
    have hD : va_D A (hkW ct b d9 (opSwap g x y z).2.2) := hD
    refine lv_i2l hx hb dL_swap_7 rfl ?_
    have hP9 : va_P D vwCl (hkW ct b d9 (opSwap g x y z).2.2) H := hP
    have hD9 : va_D A (hkW ct b d9 (opSwap g x y z).2.2) := hD
    exact W.lret (v := ((opSwap g x y z).2.1).toInt64) hx hb hr (fun t ht hW => ⟨by rw [lw, if_pos hz], ⟨d9, by rw [ht]; exact hP9, hD9⟩, hS.F ht⟩) hS.2.2 dL_swap_8

set_option maxHeartbeats 4000000 in
set_option maxRecDepth 100000 in
theorem c_L_keyOf (l : Launch) (hfl : l.flags = flags0) (D : va_G) (ct : Nat → ClassId) (sa : Nat → Nat) (G0 sz : Nat) (b : Nat → Nat) (d : Ad) (g : Sg) (x : Int32) (y : Int32) (hI : Inv g) : Met l yL_keyOf wsL_keyOf ({ frames := 8, cells := 2, slots := 12, locals := 127 }) (hkPx D ct sa G0 [.ref (b 0), .int x, .int y] (hkZP D ct b d g G0 sz)) (hkZQ D ct b (va_A (hkW ct b d g) sz) (.long (lw [(-9000000000000000001)] (opKeyOf g x y))) (opKeyOf g x y).2.2) 2 12 (va_A (hkW ct b d g) sz) := by
  refine hk_ofWH (cc := cL_keyOf) (maxL := 4) (ret := (some .long)) (by decide) rfl ?_
  intro p e s m args below meth c s₁ B hml hv
  obtain ⟨rfl, hE, hH, hp⟩ := hv
  have hx := B.exec
  have hb := B.bytes
  have hr := B.returns
  have hts := atoms_spec (ws := wsL_keyOf) B.pre
  have hown : s.vm.findClass RL = some m.cls := findClass_of_methodNamed B.named
  have hlocks := B.notSynchronized
  have htab := vx_table (x := yX2_at) B (hts (.codeWith yL_keyOf cL_keyOf 4 (some .long) [(0, 7, 8, 23)]) (List.mem_of_getElem? (i := 0) rfl))
  obtain ⟨hsz, hP, hDG⟩ := hp
  subst hsz
  have hD := hDG.self (sz := s.heap.size)
  generalize hAe : va_A (hkW ct b d g) s.heap.size = A at hD ⊢
  have hA : ∀ q : Nat, s.heap.size ≤ q → A q := fun q h => by rw [← hAe]; exact Or.inr h
  have hS : va_S A s.heap s.heap [] := va_S.rf
  have hl := lv_entry ([.ref (b 0), .int x, .int y]) (n := 4) (Nat.le_of_ble_eq_true rfl)
  rw [lg_entry_eq]
  generalize (lg_sl ([.ref (b 0), .int x, .int y]) ++ List.replicate (4 - (lg_sl ([.ref (b 0), .int x, .int y])).length) Slot.unset).toArray = ls at hl ⊢
  have hl : lv_has ls 4 [(0, .ref (b 0)), (1, .int x), (2, .int y)] := hl
  refine lv_aload_n hx hb dL_keyOf_0 rfl (lv_at hl 0 rfl) ?_
  refine lv_iload_n hx hb dL_keyOf_1 rfl (lv_at hl 1 rfl) ?_
  refine lv_iload_n hx hb dL_keyOf_2 rfl (lv_at hl 2 rfl) ?_
  refine hk_L (wr := []) (z := (opKeyOf g x y)) (rest := []) (vx_runV (As := [.int x, .int y]) (rest := []) ⟨hx, hb, hml, hown, hts⟩ (c_X2_keyOf l hfl D ct sa G0 s.heap.size b d g x y hI) (cwV 2 hts gL_keyOf_X2_keyOf rfl rfl rfl (by decide +kernel) ⟨Nat.le_of_ble_eq_true rfl, Nat.le_of_ble_eq_true rfl⟩) (hk_prxV hE hH (va_recv hE.1 hP (ci := 2) (q0 := 0) rfl rfl) ⟨rfl, hP, hDG⟩) rfl rfl hl.1 rfl (lv_room (Nat.le_of_ble_eq_true rfl)) dL_keyOf_3 ⟨Nat.le_of_ble_eq_true rfl, Nat.le_of_ble_eq_true rfl⟩) rfl hP hD hS hA (fun E ce q9 H locs ho hP hS hce hcv hcl => ?_) (fun d9 H locs hz hP hD hS => ?_)
  · obtain ⟨k, hk, hz⟩ := ho
    have hg9 : (opKeyOf g x y).2.2 = g := rf_opKeyOf (by rw [hz]; exact nI_ne0 (by omega) (by
        have h9 : k < 1 := (List.getElem?_eq_some_iff.mp hk).1
        omega))
    rcases k with _ | k
    · obtain rfl : E = "java/lang/IndexOutOfBoundsException" := (Option.some.inj hk).symm
      refine vx_catch hown [] ⟨0, 7, 8, 23⟩ [] (htab.trans rfl) (fun z hz => absurd hz List.not_mem_nil) (by decide) (by decide) (hts (.classLink RL 23 "java/lang/IndexOutOfBoundsException") (by decide +kernel)) (hE.use hkN_c1) hce hcv hcl ?_
      refine lv_astore_n (lv' := [(3, .ref q9), (0, .ref (b 0)), (1, .int x), (2, .int y)]) hx hb dL_keyOf_8 rfl hl (by decide) rfl (fun ls hl => ?_)
      refine hk_ldc2 (v := (-9000000000000000001)) hx hb hown (hts (.constantLong RL 25 (-9000000000000000001)) (by decide +kernel)) dL_keyOf_9 ?_
      have hP9 : va_P D vwCl (hkW ct b d (opKeyOf g x y).2.2) H := by rw [hg9]; exact hP
      have hD9 : va_D A (hkW ct b d (opKeyOf g x y).2.2) := by rw [hg9]; exact hD
      exact W.lret (v := (-9000000000000000001)) hx hb hr (fun t ht hW => ⟨by rw [lw, hz]; rfl, ⟨d, by rw [ht]; exact hP9, hD9⟩, hS.F ht⟩) hS.2.2 dL_keyOf_12
    · exact nomatch hk
  · skip
    have hP : va_P D vwCl (hkW ct b d9 (opKeyOf g x y).2.2) H := hP
    have hD : va_D A (hkW ct b d9 (opKeyOf g x y).2.2) := hD
    refine lv_i2l hx hb dL_keyOf_6 rfl ?_
    have hP9 : va_P D vwCl (hkW ct b d9 (opKeyOf g x y).2.2) H := hP
    have hD9 : va_D A (hkW ct b d9 (opKeyOf g x y).2.2) := hD
    exact W.lret (v := ((opKeyOf g x y).2.1).toInt64) hx hb hr (fun t ht hW => ⟨by rw [lw, if_pos hz], ⟨d9, by rw [ht]; exact hP9, hD9⟩, hS.F ht⟩) hS.2.2 dL_keyOf_7

set_option maxHeartbeats 4000000 in
set_option maxRecDepth 100000 in
theorem c_L_letterOn (l : Launch) (hfl : l.flags = flags0) (D : va_G) (ct : Nat → ClassId) (sa : Nat → Nat) (G0 sz : Nat) (b : Nat → Nat) (d : Ad) (g : Sg) (x : Int32) (y : Int32) (hI : Inv g) : Met l yL_letterOn wsL_letterOn ({ frames := 8, cells := 2, slots := 12, locals := 127 }) (hkPx D ct sa G0 [.ref (b 0), .int x, .int y] (hkZP D ct b d g G0 sz)) (hkZQ D ct b (va_A (hkW ct b d g) sz) (.long (lw [(-9000000000000000001)] (opLetterOn g x y))) (opLetterOn g x y).2.2) 2 12 (va_A (hkW ct b d g) sz) := by
  refine hk_ofWH (cc := cL_letterOn) (maxL := 4) (ret := (some .long)) (by decide) rfl ?_
  intro p e s m args below meth c s₁ B hml hv
  obtain ⟨rfl, hE, hH, hp⟩ := hv
  have hx := B.exec
  have hb := B.bytes
  have hr := B.returns
  have hts := atoms_spec (ws := wsL_letterOn) B.pre
  have hown : s.vm.findClass RL = some m.cls := findClass_of_methodNamed B.named
  have hlocks := B.notSynchronized
  have htab := vx_table (x := yX2_at) B (hts (.codeWith yL_letterOn cL_letterOn 4 (some .long) [(0, 7, 8, 23)]) (List.mem_of_getElem? (i := 0) rfl))
  obtain ⟨hsz, hP, hDG⟩ := hp
  subst hsz
  have hD := hDG.self (sz := s.heap.size)
  generalize hAe : va_A (hkW ct b d g) s.heap.size = A at hD ⊢
  have hA : ∀ q : Nat, s.heap.size ≤ q → A q := fun q h => by rw [← hAe]; exact Or.inr h
  have hS : va_S A s.heap s.heap [] := va_S.rf
  have hl := lv_entry ([.ref (b 0), .int x, .int y]) (n := 4) (Nat.le_of_ble_eq_true rfl)
  rw [lg_entry_eq]
  generalize (lg_sl ([.ref (b 0), .int x, .int y]) ++ List.replicate (4 - (lg_sl ([.ref (b 0), .int x, .int y])).length) Slot.unset).toArray = ls at hl ⊢
  have hl : lv_has ls 4 [(0, .ref (b 0)), (1, .int x), (2, .int y)] := hl
  refine lv_aload_n hx hb dL_letterOn_0 rfl (lv_at hl 0 rfl) ?_
  refine lv_iload_n hx hb dL_letterOn_1 rfl (lv_at hl 1 rfl) ?_
  refine lv_iload_n hx hb dL_letterOn_2 rfl (lv_at hl 2 rfl) ?_
  refine hk_L (wr := []) (z := (opLetterOn g x y)) (rest := []) (vx_runV (As := [.int x, .int y]) (rest := []) ⟨hx, hb, hml, hown, hts⟩ (c_X2_letterOn l hfl D ct sa G0 s.heap.size b d g x y hI) (cwV 2 hts gL_letterOn_X2_letterOn rfl rfl rfl (by decide +kernel) ⟨Nat.le_of_ble_eq_true rfl, Nat.le_of_ble_eq_true rfl⟩) (hk_prxV hE hH (va_recv hE.1 hP (ci := 2) (q0 := 0) rfl rfl) ⟨rfl, hP, hDG⟩) rfl rfl hl.1 rfl (lv_room (Nat.le_of_ble_eq_true rfl)) dL_letterOn_3 ⟨Nat.le_of_ble_eq_true rfl, Nat.le_of_ble_eq_true rfl⟩) rfl hP hD hS hA (fun E ce q9 H locs ho hP hS hce hcv hcl => ?_) (fun d9 H locs hz hP hD hS => ?_)
  · obtain ⟨k, hk, hz⟩ := ho
    have hg9 : (opLetterOn g x y).2.2 = g := rf_opLetterOn (by rw [hz]; exact nI_ne0 (by omega) (by
        have h9 : k < 1 := (List.getElem?_eq_some_iff.mp hk).1
        omega))
    rcases k with _ | k
    · obtain rfl : E = "java/lang/IndexOutOfBoundsException" := (Option.some.inj hk).symm
      refine vx_catch hown [] ⟨0, 7, 8, 23⟩ [] (htab.trans rfl) (fun z hz => absurd hz List.not_mem_nil) (by decide) (by decide) (hts (.classLink RL 23 "java/lang/IndexOutOfBoundsException") (by decide +kernel)) (hE.use hkN_c1) hce hcv hcl ?_
      refine lv_astore_n (lv' := [(3, .ref q9), (0, .ref (b 0)), (1, .int x), (2, .int y)]) hx hb dL_letterOn_8 rfl hl (by decide) rfl (fun ls hl => ?_)
      refine hk_ldc2 (v := (-9000000000000000001)) hx hb hown (hts (.constantLong RL 25 (-9000000000000000001)) (by decide +kernel)) dL_letterOn_9 ?_
      have hP9 : va_P D vwCl (hkW ct b d (opLetterOn g x y).2.2) H := by rw [hg9]; exact hP
      have hD9 : va_D A (hkW ct b d (opLetterOn g x y).2.2) := by rw [hg9]; exact hD
      exact W.lret (v := (-9000000000000000001)) hx hb hr (fun t ht hW => ⟨by rw [lw, hz]; rfl, ⟨d, by rw [ht]; exact hP9, hD9⟩, hS.F ht⟩) hS.2.2 dL_letterOn_12
    · exact nomatch hk
  · skip
    have hP : va_P D vwCl (hkW ct b d9 (opLetterOn g x y).2.2) H := hP
    have hD : va_D A (hkW ct b d9 (opLetterOn g x y).2.2) := hD
    refine lv_i2l hx hb dL_letterOn_6 rfl ?_
    have hP9 : va_P D vwCl (hkW ct b d9 (opLetterOn g x y).2.2) H := hP
    have hD9 : va_D A (hkW ct b d9 (opLetterOn g x y).2.2) := hD
    exact W.lret (v := ((opLetterOn g x y).2.1).toInt64) hx hb hr (fun t ht hW => ⟨by rw [lw, if_pos hz], ⟨d9, by rw [ht]; exact hP9, hD9⟩, hS.F ht⟩) hS.2.2 dL_letterOn_7

set_option maxHeartbeats 4000000 in
set_option maxRecDepth 100000 in
theorem c_L_press (l : Launch) (hfl : l.flags = flags0) (D : va_G) (ct : Nat → ClassId) (sa : Nat → Nat) (G0 sz : Nat) (b : Nat → Nat) (d : Ad) (g : Sg) (x : Int32) (y : Int32) (z : Int32) (hI : Inv g) : Met l yL_press wsL_press ({ frames := 8, cells := 3, slots := 18, locals := 128 }) (hkPx D ct sa G0 [.ref (b 0), .int x, .int y, .int z] (hkZP D ct b d g G0 sz)) (hkZQ D ct b (va_A (hkW ct b d g) sz) (.long (lw [(-9000000000000000001)] (opPress g x y z))) (opPress g x y z).2.2) 3 18 (va_A (hkW ct b d g) sz) := by
  refine hk_ofWH (cc := cL_press) (maxL := 5) (ret := (some .long)) (by decide) rfl ?_
  intro p e s m args below meth c s₁ B hml hv
  obtain ⟨rfl, hE, hH, hp⟩ := hv
  have hx := B.exec
  have hb := B.bytes
  have hr := B.returns
  have hts := atoms_spec (ws := wsL_press) B.pre
  have hown : s.vm.findClass RL = some m.cls := findClass_of_methodNamed B.named
  have hlocks := B.notSynchronized
  have htab := vx_table (x := yX2_at) B (hts (.codeWith yL_press cL_press 5 (some .long) [(0, 15, 16, 23)]) (List.mem_of_getElem? (i := 0) rfl))
  obtain ⟨hsz, hP, hDG⟩ := hp
  subst hsz
  have hD := hDG.self (sz := s.heap.size)
  generalize hAe : va_A (hkW ct b d g) s.heap.size = A at hD ⊢
  have hA : ∀ q : Nat, s.heap.size ≤ q → A q := fun q h => by rw [← hAe]; exact Or.inr h
  have hS : va_S A s.heap s.heap [] := va_S.rf
  have hl := lv_entry ([.ref (b 0), .int x, .int y, .int z]) (n := 5) (Nat.le_of_ble_eq_true rfl)
  rw [lg_entry_eq]
  generalize (lg_sl ([.ref (b 0), .int x, .int y, .int z]) ++ List.replicate (5 - (lg_sl ([.ref (b 0), .int x, .int y, .int z])).length) Slot.unset).toArray = ls at hl ⊢
  have hl : lv_has ls 5 [(0, .ref (b 0)), (1, .int x), (2, .int y), (3, .int z)] := hl
  refine lv_aload_n hx hb dL_press_0 rfl (lv_at hl 0 rfl) ?_
  refine lv_iload_n hx hb dL_press_1 rfl (lv_at hl 1 rfl) ?_
  refine lv_iload_n hx hb dL_press_2 rfl (lv_at hl 2 rfl) ?_
  refine lv_iload_n hx hb dL_press_3 rfl (lv_at hl 3 rfl) ?_
  refine hk_L (wr := []) (z := (opPress g x y z)) (rest := []) (vx_runV (As := [.int x, .int y, .int z]) (rest := []) ⟨hx, hb, hml, hown, hts⟩ (c_X2_press l hfl D ct sa G0 s.heap.size b d g x y z hI) (cwV 3 hts gL_press_X2_press rfl rfl rfl (by decide +kernel) ⟨Nat.le_of_ble_eq_true rfl, Nat.le_of_ble_eq_true rfl⟩) (hk_prxV hE hH (va_recv hE.1 hP (ci := 2) (q0 := 0) rfl rfl) ⟨rfl, hP, hDG⟩) rfl rfl hl.1 rfl (lv_room (Nat.le_of_ble_eq_true rfl)) dL_press_4 ⟨Nat.le_of_ble_eq_true rfl, Nat.le_of_ble_eq_true rfl⟩) rfl hP hD hS hA (fun E ce q9 H locs ho hP hS hce hcv hcl => ?_) (fun d9 H locs hz hP hD hS => ?_)
  · obtain ⟨k, hk, hz⟩ := ho
    have hg9 : (opPress g x y z).2.2 = g := rf_opPress (by rw [hz]; exact nI_ne0 (by omega) (by
        have h9 : k < 1 := (List.getElem?_eq_some_iff.mp hk).1
        omega))
    rcases k with _ | k
    · obtain rfl : E = "java/lang/IndexOutOfBoundsException" := (Option.some.inj hk).symm
      refine vx_catch hown [] ⟨0, 15, 16, 23⟩ [] (htab.trans rfl) (fun z hz => absurd hz List.not_mem_nil) (by decide) (by decide) (hts (.classLink RL 23 "java/lang/IndexOutOfBoundsException") (by decide +kernel)) (hE.use hkN_c1) hce hcv hcl ?_
      refine lv_astore (lv' := [(4, .ref q9), (0, .ref (b 0)), (1, .int x), (2, .int y), (3, .int z)]) hx hb dL_press_16 hl (by decide) rfl (fun ls hl => ?_)
      refine hk_ldc2 (v := (-9000000000000000001)) hx hb hown (hts (.constantLong RL 25 (-9000000000000000001)) (by decide +kernel)) dL_press_18 ?_
      have hP9 : va_P D vwCl (hkW ct b d (opPress g x y z).2.2) H := by rw [hg9]; exact hP
      have hD9 : va_D A (hkW ct b d (opPress g x y z).2.2) := by rw [hg9]; exact hD
      exact W.lret (v := (-9000000000000000001)) hx hb hr (fun t ht hW => ⟨by rw [lw, hz]; rfl, ⟨d, by rw [ht]; exact hP9, hD9⟩, hS.F ht⟩) hS.2.2 dL_press_21
    · exact nomatch hk
  · skip
    have hP : va_P D vwCl (hkW ct b d9 (opPress g x y z).2.2) H := hP
    have hD : va_D A (hkW ct b d9 (opPress g x y z).2.2) := hD
    refine lv_if_eq (tgt := 14) hx hb dL_press_7 (by decide) (fun hq9 => ?_) (fun hq9 => ?_)
    · refine lv_lconst (v := 0) hx hb dL_press_14 rfl ?_
      have hP9 : va_P D vwCl (hkW ct b d9 (opPress g x y z).2.2) H := hP
      have hD9 : va_D A (hkW ct b d9 (opPress g x y z).2.2) := hD
      exact W.lret (v := 0) hx hb hr (fun t ht hW => ⟨by rw [lw, if_pos hz, hq9]; rfl, ⟨d9, by rw [ht]; exact hP9, hD9⟩, hS.F ht⟩) hS.2.2 dL_press_15
    · refine lv_lconst (v := 1) hx hb dL_press_10 rfl ?_
      refine lv_goto (tgt := 15) hx hb dL_press_11 (by decide) ?_
      have hP9 : va_P D vwCl (hkW ct b d9 (opPress g x y z).2.2) H := hP
      have hD9 : va_D A (hkW ct b d9 (opPress g x y z).2.2) := hD
      exact W.lret (v := 1) hx hb hr (fun t ht hW => ⟨by rw [lw, if_pos hz, pr_01 g x y z hq9]; rfl, ⟨d9, by rw [ht]; exact hP9, hD9⟩, hS.F ht⟩) hS.2.2 dL_press_15

set_option maxHeartbeats 4000000 in
set_option maxRecDepth 100000 in
theorem c_L_slips (l : Launch) (hfl : l.flags = flags0) (D : va_G) (ct : Nat → ClassId) (sa : Nat → Nat) (G0 sz : Nat) (b : Nat → Nat) (d : Ad) (g : Sg) (x : Int32) (y : Int32) (z : Int32) (hI : Inv g) : Met l yL_slips wsL_slips ({ frames := 8, cells := 2, slots := 12, locals := 128 }) (hkPx D ct sa G0 [.ref (b 0), .int x, .int y, .int z] (hkZP D ct b d g G0 sz)) (hkZQ D ct b (va_A (hkW ct b d g) sz) (.long (lw [(-9000000000000000001), (-9000000000000000002)] (opSlips g x y z))) (opSlips g x y z).2.2) 2 12 (va_A (hkW ct b d g) sz) := by
  refine hk_ofWH (cc := cL_slips) (maxL := 5) (ret := (some .long)) (by decide) rfl ?_
  intro p e s m args below meth c s₁ B hml hv
  obtain ⟨rfl, hE, hH, hp⟩ := hv
  have hx := B.exec
  have hb := B.bytes
  have hr := B.returns
  have hts := atoms_spec (ws := wsL_slips) B.pre
  have hown : s.vm.findClass RL = some m.cls := findClass_of_methodNamed B.named
  have hlocks := B.notSynchronized
  have htab := vx_table (x := yX2_at) B (hts (.codeWith yL_slips cL_slips 5 (some .long) [(0, 8, 9, 23), (0, 8, 15, 27)]) (List.mem_of_getElem? (i := 0) rfl))
  obtain ⟨hsz, hP, hDG⟩ := hp
  subst hsz
  have hD := hDG.self (sz := s.heap.size)
  generalize hAe : va_A (hkW ct b d g) s.heap.size = A at hD ⊢
  have hA : ∀ q : Nat, s.heap.size ≤ q → A q := fun q h => by rw [← hAe]; exact Or.inr h
  have hS : va_S A s.heap s.heap [] := va_S.rf
  have hl := lv_entry ([.ref (b 0), .int x, .int y, .int z]) (n := 5) (Nat.le_of_ble_eq_true rfl)
  rw [lg_entry_eq]
  generalize (lg_sl ([.ref (b 0), .int x, .int y, .int z]) ++ List.replicate (5 - (lg_sl ([.ref (b 0), .int x, .int y, .int z])).length) Slot.unset).toArray = ls at hl ⊢
  have hl : lv_has ls 5 [(0, .ref (b 0)), (1, .int x), (2, .int y), (3, .int z)] := hl
  refine lv_aload_n hx hb dL_slips_0 rfl (lv_at hl 0 rfl) ?_
  refine lv_iload_n hx hb dL_slips_1 rfl (lv_at hl 1 rfl) ?_
  refine lv_iload_n hx hb dL_slips_2 rfl (lv_at hl 2 rfl) ?_
  refine lv_iload_n hx hb dL_slips_3 rfl (lv_at hl 3 rfl) ?_
  refine hk_L (wr := []) (z := (opSlips g x y z)) (rest := []) (vx_runV (As := [.int x, .int y, .int z]) (rest := []) ⟨hx, hb, hml, hown, hts⟩ (c_X2_slips l hfl D ct sa G0 s.heap.size b d g x y z hI) (cwV 3 hts gL_slips_X2_slips rfl rfl rfl (by decide +kernel) ⟨Nat.le_of_ble_eq_true rfl, Nat.le_of_ble_eq_true rfl⟩) (hk_prxV hE hH (va_recv hE.1 hP (ci := 2) (q0 := 0) rfl rfl) ⟨rfl, hP, hDG⟩) rfl rfl hl.1 rfl (lv_room (Nat.le_of_ble_eq_true rfl)) dL_slips_4 ⟨Nat.le_of_ble_eq_true rfl, Nat.le_of_ble_eq_true rfl⟩) rfl hP hD hS hA (fun E ce q9 H locs ho hP hS hce hcv hcl => ?_) (fun d9 H locs hz hP hD hS => ?_)
  · obtain ⟨k, hk, hz⟩ := ho
    have hg9 : (opSlips g x y z).2.2 = g := rf_opSlips (by rw [hz]; exact nI_ne0 (by omega) (by
        have h9 : k < 2 := (List.getElem?_eq_some_iff.mp hk).1
        omega))
    rcases k with _ | _ | k
    · obtain rfl : E = "java/lang/IndexOutOfBoundsException" := (Option.some.inj hk).symm
      refine vx_catch hown [] ⟨0, 8, 9, 23⟩ [⟨0, 8, 15, 27⟩] (htab.trans rfl) (fun z hz => absurd hz List.not_mem_nil) (by decide) (by decide) (hts (.classLink RL 23 "java/lang/IndexOutOfBoundsException") (by decide +kernel)) (hE.use hkN_c1) hce hcv hcl ?_
      refine lv_astore (lv' := [(4, .ref q9), (0, .ref (b 0)), (1, .int x), (2, .int y), (3, .int z)]) hx hb dL_slips_9 hl (by decide) rfl (fun ls hl => ?_)
      refine hk_ldc2 (v := (-9000000000000000001)) hx hb hown (hts (.constantLong RL 25 (-9000000000000000001)) (by decide +kernel)) dL_slips_11 ?_
      have hP9 : va_P D vwCl (hkW ct b d (opSlips g x y z).2.2) H := by rw [hg9]; exact hP
      have hD9 : va_D A (hkW ct b d (opSlips g x y z).2.2) := by rw [hg9]; exact hD
      exact W.lret (v := (-9000000000000000001)) hx hb hr (fun t ht hW => ⟨by rw [lw, hz]; rfl, ⟨d, by rw [ht]; exact hP9, hD9⟩, hS.F ht⟩) hS.2.2 dL_slips_14
    · obtain rfl : E = "java/lang/IllegalArgumentException" := (Option.some.inj hk).symm
      refine vx_catch hown [⟨0, 8, 9, 23⟩] ⟨0, 8, 15, 27⟩ [] (htab.trans rfl) (fun z hz => by
        obtain rfl := List.mem_singleton.mp hz
        exact Or.inr ⟨by decide, "java/lang/IndexOutOfBoundsException", (hts (.classLink RL 23 "java/lang/IndexOutOfBoundsException") (by decide +kernel)), hE.2.2.2.1 _ (List.mem_of_getElem? (i := 5) rfl)⟩) (by decide) (by decide) (hts (.classLink RL 27 "java/lang/IllegalArgumentException") (by decide +kernel)) (hE.use hkN_c2) hce hcv hcl ?_
      refine lv_astore (lv' := [(4, .ref q9), (0, .ref (b 0)), (1, .int x), (2, .int y), (3, .int z)]) hx hb dL_slips_15 hl (by decide) rfl (fun ls hl => ?_)
      refine hk_ldc2 (v := (-9000000000000000002)) hx hb hown (hts (.constantLong RL 29 (-9000000000000000002)) (by decide +kernel)) dL_slips_17 ?_
      have hP9 : va_P D vwCl (hkW ct b d (opSlips g x y z).2.2) H := by rw [hg9]; exact hP
      have hD9 : va_D A (hkW ct b d (opSlips g x y z).2.2) := by rw [hg9]; exact hD
      exact W.lret (v := (-9000000000000000002)) hx hb hr (fun t ht hW => ⟨by rw [lw, hz]; rfl, ⟨d, by rw [ht]; exact hP9, hD9⟩, hS.F ht⟩) hS.2.2 dL_slips_20
    · exact nomatch hk
  · skip
    have hP : va_P D vwCl (hkW ct b d9 (opSlips g x y z).2.2) H := hP
    have hD : va_D A (hkW ct b d9 (opSlips g x y z).2.2) := hD
    refine lv_i2l hx hb dL_slips_7 rfl ?_
    have hP9 : va_P D vwCl (hkW ct b d9 (opSlips g x y z).2.2) H := hP
    have hD9 : va_D A (hkW ct b d9 (opSlips g x y z).2.2) := hD
    exact W.lret (v := ((opSlips g x y z).2.1).toInt64) hx hb hr (fun t ht hW => ⟨by rw [lw, if_pos hz], ⟨d9, by rw [ht]; exact hP9, hD9⟩, hS.F ht⟩) hS.2.2 dL_slips_8

set_option maxHeartbeats 4000000 in
set_option maxRecDepth 100000 in
theorem c_L_pair (l : Launch) (hfl : l.flags = flags0) (D : va_G) (ct : Nat → ClassId) (sa : Nat → Nat) (G0 sz : Nat) (b : Nat → Nat) (d : Ad) (g : Sg) (x : Int32) (y : Int32) (z : Int32) (hI : Inv g) : Met l yL_pair wsL_pair ({ frames := 8, cells := 3, slots := 18, locals := 128 }) (hkPx D ct sa G0 [.ref (b 0), .int x, .int y, .int z] (hkZP D ct b d g G0 sz)) (hkZQ D ct b (va_A (hkW ct b d g) sz) (.long (lw [(-9000000000000000001)] (opPair g x y z))) (opPair g x y z).2.2) 3 18 (va_A (hkW ct b d g) sz) := by
  refine hk_ofWH (cc := cL_pair) (maxL := 5) (ret := (some .long)) (by decide) rfl ?_
  intro p e s m args below meth c s₁ B hml hv
  obtain ⟨rfl, hE, hH, hp⟩ := hv
  have hx := B.exec
  have hb := B.bytes
  have hr := B.returns
  have hts := atoms_spec (ws := wsL_pair) B.pre
  have hown : s.vm.findClass RL = some m.cls := findClass_of_methodNamed B.named
  have hlocks := B.notSynchronized
  have htab := vx_table (x := yX2_at) B (hts (.codeWith yL_pair cL_pair 5 (some .long) [(0, 8, 9, 23)]) (List.mem_of_getElem? (i := 0) rfl))
  obtain ⟨hsz, hP, hDG⟩ := hp
  subst hsz
  have hD := hDG.self (sz := s.heap.size)
  generalize hAe : va_A (hkW ct b d g) s.heap.size = A at hD ⊢
  have hA : ∀ q : Nat, s.heap.size ≤ q → A q := fun q h => by rw [← hAe]; exact Or.inr h
  have hS : va_S A s.heap s.heap [] := va_S.rf
  have hl := lv_entry ([.ref (b 0), .int x, .int y, .int z]) (n := 5) (Nat.le_of_ble_eq_true rfl)
  rw [lg_entry_eq]
  generalize (lg_sl ([.ref (b 0), .int x, .int y, .int z]) ++ List.replicate (5 - (lg_sl ([.ref (b 0), .int x, .int y, .int z])).length) Slot.unset).toArray = ls at hl ⊢
  have hl : lv_has ls 5 [(0, .ref (b 0)), (1, .int x), (2, .int y), (3, .int z)] := hl
  refine lv_aload_n hx hb dL_pair_0 rfl (lv_at hl 0 rfl) ?_
  refine lv_iload_n hx hb dL_pair_1 rfl (lv_at hl 1 rfl) ?_
  refine lv_iload_n hx hb dL_pair_2 rfl (lv_at hl 2 rfl) ?_
  refine lv_iload_n hx hb dL_pair_3 rfl (lv_at hl 3 rfl) ?_
  refine hk_L (wr := []) (z := (opPair g x y z)) (rest := []) (vx_runV (As := [.int x, .int y, .int z]) (rest := []) ⟨hx, hb, hml, hown, hts⟩ (c_X2_pair l hfl D ct sa G0 s.heap.size b d g x y z hI) (cwV 3 hts gL_pair_X2_pair rfl rfl rfl (by decide +kernel) ⟨Nat.le_of_ble_eq_true rfl, Nat.le_of_ble_eq_true rfl⟩) (hk_prxV hE hH (va_recv hE.1 hP (ci := 2) (q0 := 0) rfl rfl) ⟨rfl, hP, hDG⟩) rfl rfl hl.1 rfl (lv_room (Nat.le_of_ble_eq_true rfl)) dL_pair_4 ⟨Nat.le_of_ble_eq_true rfl, Nat.le_of_ble_eq_true rfl⟩) rfl hP hD hS hA (fun E ce q9 H locs ho hP hS hce hcv hcl => ?_) (fun d9 H locs hz hP hD hS => ?_)
  · obtain ⟨k, hk, hz⟩ := ho
    have hg9 : (opPair g x y z).2.2 = g := rf_opPair (by rw [hz]; exact nI_ne0 (by omega) (by
        have h9 : k < 1 := (List.getElem?_eq_some_iff.mp hk).1
        omega))
    rcases k with _ | k
    · obtain rfl : E = "java/lang/IndexOutOfBoundsException" := (Option.some.inj hk).symm
      refine vx_catch hown [] ⟨0, 8, 9, 23⟩ [] (htab.trans rfl) (fun z hz => absurd hz List.not_mem_nil) (by decide) (by decide) (hts (.classLink RL 23 "java/lang/IndexOutOfBoundsException") (by decide +kernel)) (hE.use hkN_c1) hce hcv hcl ?_
      refine lv_astore (lv' := [(4, .ref q9), (0, .ref (b 0)), (1, .int x), (2, .int y), (3, .int z)]) hx hb dL_pair_9 hl (by decide) rfl (fun ls hl => ?_)
      refine hk_ldc2 (v := (-9000000000000000001)) hx hb hown (hts (.constantLong RL 25 (-9000000000000000001)) (by decide +kernel)) dL_pair_11 ?_
      have hP9 : va_P D vwCl (hkW ct b d (opPair g x y z).2.2) H := by rw [hg9]; exact hP
      have hD9 : va_D A (hkW ct b d (opPair g x y z).2.2) := by rw [hg9]; exact hD
      exact W.lret (v := (-9000000000000000001)) hx hb hr (fun t ht hW => ⟨by rw [lw, hz]; rfl, ⟨d, by rw [ht]; exact hP9, hD9⟩, hS.F ht⟩) hS.2.2 dL_pair_14
    · exact nomatch hk
  · skip
    have hP : va_P D vwCl (hkW ct b d9 (opPair g x y z).2.2) H := hP
    have hD : va_D A (hkW ct b d9 (opPair g x y z).2.2) := hD
    refine lv_i2l hx hb dL_pair_7 rfl ?_
    have hP9 : va_P D vwCl (hkW ct b d9 (opPair g x y z).2.2) H := hP
    have hD9 : va_D A (hkW ct b d9 (opPair g x y z).2.2) := hD
    exact W.lret (v := ((opPair g x y z).2.1).toInt64) hx hb hr (fun t ht hW => ⟨by rw [lw, if_pos hz], ⟨d9, by rw [ht]; exact hP9, hD9⟩, hS.F ht⟩) hS.2.2 dL_pair_8

set_option maxHeartbeats 4000000 in
set_option maxRecDepth 100000 in
theorem c_L_pressed (l : Launch) (hfl : l.flags = flags0) (D : va_G) (ct : Nat → ClassId) (sa : Nat → Nat) (G0 sz : Nat) (b : Nat → Nat) (d : Ad) (g : Sg) (x : Int32) (hI : Inv g) : Met l yL_pressed wsL_pressed ({ frames := 8, cells := 1, slots := 6, locals := 125 }) (hkPx D ct sa G0 [.ref (b 0), .int x] (hkZP D ct b d g G0 sz)) (hkZQ D ct b (va_A (hkW ct b d g) sz) (.long (lw [(-9000000000000000001)] (opPressed g x))) (opPressed g x).2.2) 1 6 (va_A (hkW ct b d g) sz) := by
  refine hk_ofWH (cc := cL_pressed) (maxL := 3) (ret := (some .long)) (by decide) rfl ?_
  intro p e s m args below meth c s₁ B hml hv
  obtain ⟨rfl, hE, hH, hp⟩ := hv
  have hx := B.exec
  have hb := B.bytes
  have hr := B.returns
  have hts := atoms_spec (ws := wsL_pressed) B.pre
  have hown : s.vm.findClass RL = some m.cls := findClass_of_methodNamed B.named
  have hlocks := B.notSynchronized
  have htab := vx_table (x := yX2_at) B (hts (.codeWith yL_pressed cL_pressed 3 (some .long) [(0, 6, 7, 23)]) (List.mem_of_getElem? (i := 0) rfl))
  obtain ⟨hsz, hP, hDG⟩ := hp
  subst hsz
  have hD := hDG.self (sz := s.heap.size)
  generalize hAe : va_A (hkW ct b d g) s.heap.size = A at hD ⊢
  have hA : ∀ q : Nat, s.heap.size ≤ q → A q := fun q h => by rw [← hAe]; exact Or.inr h
  have hS : va_S A s.heap s.heap [] := va_S.rf
  have hl := lv_entry ([.ref (b 0), .int x]) (n := 3) (Nat.le_of_ble_eq_true rfl)
  rw [lg_entry_eq]
  generalize (lg_sl ([.ref (b 0), .int x]) ++ List.replicate (3 - (lg_sl ([.ref (b 0), .int x])).length) Slot.unset).toArray = ls at hl ⊢
  have hl : lv_has ls 3 [(0, .ref (b 0)), (1, .int x)] := hl
  refine lv_aload_n hx hb dL_pressed_0 rfl (lv_at hl 0 rfl) ?_
  refine lv_iload_n hx hb dL_pressed_1 rfl (lv_at hl 1 rfl) ?_
  refine hk_L (wr := []) (z := (opPressed g x)) (rest := []) (vx_runV (As := [.int x]) (rest := []) ⟨hx, hb, hml, hown, hts⟩ (c_X2_pressed l hfl D ct sa G0 s.heap.size b d g x hI) (cwV 1 hts gL_pressed_X2_pressed rfl rfl rfl (by decide +kernel) ⟨Nat.le_of_ble_eq_true rfl, Nat.le_of_ble_eq_true rfl⟩) (hk_prxV hE hH (va_recv hE.1 hP (ci := 2) (q0 := 0) rfl rfl) ⟨rfl, hP, hDG⟩) rfl rfl hl.1 rfl (lv_room (Nat.le_of_ble_eq_true rfl)) dL_pressed_2 ⟨Nat.le_of_ble_eq_true rfl, Nat.le_of_ble_eq_true rfl⟩) rfl hP hD hS hA (fun E ce q9 H locs ho hP hS hce hcv hcl => ?_) (fun d9 H locs hz hP hD hS => ?_)
  · obtain ⟨k, hk, hz⟩ := ho
    have hg9 : (opPressed g x).2.2 = g := rf_opPressed (by rw [hz]; exact nI_ne0 (by omega) (by
        have h9 : k < 1 := (List.getElem?_eq_some_iff.mp hk).1
        omega))
    rcases k with _ | k
    · obtain rfl : E = "java/lang/IndexOutOfBoundsException" := (Option.some.inj hk).symm
      refine vx_catch hown [] ⟨0, 6, 7, 23⟩ [] (htab.trans rfl) (fun z hz => absurd hz List.not_mem_nil) (by decide) (by decide) (hts (.classLink RL 23 "java/lang/IndexOutOfBoundsException") (by decide +kernel)) (hE.use hkN_c1) hce hcv hcl ?_
      refine lv_astore_n (lv' := [(2, .ref q9), (0, .ref (b 0)), (1, .int x)]) hx hb dL_pressed_7 rfl hl (by decide) rfl (fun ls hl => ?_)
      refine hk_ldc2 (v := (-9000000000000000001)) hx hb hown (hts (.constantLong RL 25 (-9000000000000000001)) (by decide +kernel)) dL_pressed_8 ?_
      have hP9 : va_P D vwCl (hkW ct b d (opPressed g x).2.2) H := by rw [hg9]; exact hP
      have hD9 : va_D A (hkW ct b d (opPressed g x).2.2) := by rw [hg9]; exact hD
      exact W.lret (v := (-9000000000000000001)) hx hb hr (fun t ht hW => ⟨by rw [lw, hz]; rfl, ⟨d, by rw [ht]; exact hP9, hD9⟩, hS.F ht⟩) hS.2.2 dL_pressed_11
    · exact nomatch hk
  · skip
    have hP : va_P D vwCl (hkW ct b d9 (opPressed g x).2.2) H := hP
    have hD : va_D A (hkW ct b d9 (opPressed g x).2.2) := hD
    refine lv_i2l hx hb dL_pressed_5 rfl ?_
    have hP9 : va_P D vwCl (hkW ct b d9 (opPressed g x).2.2) H := hP
    have hD9 : va_D A (hkW ct b d9 (opPressed g x).2.2) := hD
    exact W.lret (v := ((opPressed g x).2.1).toInt64) hx hb hr (fun t ht hW => ⟨by rw [lw, if_pos hz], ⟨d9, by rw [ht]; exact hP9, hD9⟩, hS.F ht⟩) hS.2.2 dL_pressed_6

set_option maxHeartbeats 4000000 in
set_option maxRecDepth 100000 in
theorem c_L_history (l : Launch) (hfl : l.flags = flags0) (D : va_G) (ct : Nat → ClassId) (sa : Nat → Nat) (G0 sz : Nat) (b : Nat → Nat) (d : Ad) (g : Sg) (x : Int32) (y : Int32) (hI : Inv g) : Met l yL_history wsL_history ({ frames := 8, cells := 2, slots := 12, locals := 127 }) (hkPx D ct sa G0 [.ref (b 0), .int x, .int y] (hkZP D ct b d g G0 sz)) (hkZQ D ct b (va_A (hkW ct b d g) sz) (.long (lw [(-9000000000000000001)] (opHistory g x y))) (opHistory g x y).2.2) 2 12 (va_A (hkW ct b d g) sz) := by
  refine hk_ofWH (cc := cL_history) (maxL := 4) (ret := (some .long)) (by decide) rfl ?_
  intro p e s m args below meth c s₁ B hml hv
  obtain ⟨rfl, hE, hH, hp⟩ := hv
  have hx := B.exec
  have hb := B.bytes
  have hr := B.returns
  have hts := atoms_spec (ws := wsL_history) B.pre
  have hown : s.vm.findClass RL = some m.cls := findClass_of_methodNamed B.named
  have hlocks := B.notSynchronized
  have htab := vx_table (x := yX2_at) B (hts (.codeWith yL_history cL_history 4 (some .long) [(0, 7, 8, 23)]) (List.mem_of_getElem? (i := 0) rfl))
  obtain ⟨hsz, hP, hDG⟩ := hp
  subst hsz
  have hD := hDG.self (sz := s.heap.size)
  generalize hAe : va_A (hkW ct b d g) s.heap.size = A at hD ⊢
  have hA : ∀ q : Nat, s.heap.size ≤ q → A q := fun q h => by rw [← hAe]; exact Or.inr h
  have hS : va_S A s.heap s.heap [] := va_S.rf
  have hl := lv_entry ([.ref (b 0), .int x, .int y]) (n := 4) (Nat.le_of_ble_eq_true rfl)
  rw [lg_entry_eq]
  generalize (lg_sl ([.ref (b 0), .int x, .int y]) ++ List.replicate (4 - (lg_sl ([.ref (b 0), .int x, .int y])).length) Slot.unset).toArray = ls at hl ⊢
  have hl : lv_has ls 4 [(0, .ref (b 0)), (1, .int x), (2, .int y)] := hl
  refine lv_aload_n hx hb dL_history_0 rfl (lv_at hl 0 rfl) ?_
  refine lv_iload_n hx hb dL_history_1 rfl (lv_at hl 1 rfl) ?_
  refine lv_iload_n hx hb dL_history_2 rfl (lv_at hl 2 rfl) ?_
  refine hk_L (wr := []) (z := (opHistory g x y)) (rest := []) (vx_runV (As := [.int x, .int y]) (rest := []) ⟨hx, hb, hml, hown, hts⟩ (c_X2_history l hfl D ct sa G0 s.heap.size b d g x y hI) (cwV 2 hts gL_history_X2_history rfl rfl rfl (by decide +kernel) ⟨Nat.le_of_ble_eq_true rfl, Nat.le_of_ble_eq_true rfl⟩) (hk_prxV hE hH (va_recv hE.1 hP (ci := 2) (q0 := 0) rfl rfl) ⟨rfl, hP, hDG⟩) rfl rfl hl.1 rfl (lv_room (Nat.le_of_ble_eq_true rfl)) dL_history_3 ⟨Nat.le_of_ble_eq_true rfl, Nat.le_of_ble_eq_true rfl⟩) rfl hP hD hS hA (fun E ce q9 H locs ho hP hS hce hcv hcl => ?_) (fun d9 H locs hz hP hD hS => ?_)
  · obtain ⟨k, hk, hz⟩ := ho
    have hg9 : (opHistory g x y).2.2 = g := rf_opHistory (by rw [hz]; exact nI_ne0 (by omega) (by
        have h9 : k < 1 := (List.getElem?_eq_some_iff.mp hk).1
        omega))
    rcases k with _ | k
    · obtain rfl : E = "java/lang/IndexOutOfBoundsException" := (Option.some.inj hk).symm
      refine vx_catch hown [] ⟨0, 7, 8, 23⟩ [] (htab.trans rfl) (fun z hz => absurd hz List.not_mem_nil) (by decide) (by decide) (hts (.classLink RL 23 "java/lang/IndexOutOfBoundsException") (by decide +kernel)) (hE.use hkN_c1) hce hcv hcl ?_
      refine lv_astore_n (lv' := [(3, .ref q9), (0, .ref (b 0)), (1, .int x), (2, .int y)]) hx hb dL_history_8 rfl hl (by decide) rfl (fun ls hl => ?_)
      refine hk_ldc2 (v := (-9000000000000000001)) hx hb hown (hts (.constantLong RL 25 (-9000000000000000001)) (by decide +kernel)) dL_history_9 ?_
      have hP9 : va_P D vwCl (hkW ct b d (opHistory g x y).2.2) H := by rw [hg9]; exact hP
      have hD9 : va_D A (hkW ct b d (opHistory g x y).2.2) := by rw [hg9]; exact hD
      exact W.lret (v := (-9000000000000000001)) hx hb hr (fun t ht hW => ⟨by rw [lw, hz]; rfl, ⟨d, by rw [ht]; exact hP9, hD9⟩, hS.F ht⟩) hS.2.2 dL_history_12
    · exact nomatch hk
  · skip
    have hP : va_P D vwCl (hkW ct b d9 (opHistory g x y).2.2) H := hP
    have hD : va_D A (hkW ct b d9 (opHistory g x y).2.2) := hD
    refine lv_i2l hx hb dL_history_6 rfl ?_
    have hP9 : va_P D vwCl (hkW ct b d9 (opHistory g x y).2.2) H := hP
    have hD9 : va_D A (hkW ct b d9 (opHistory g x y).2.2) := hD
    exact W.lret (v := ((opHistory g x y).2.1).toInt64) hx hb hr (fun t ht hW => ⟨by rw [lw, if_pos hz], ⟨d9, by rw [ht]; exact hP9, hD9⟩, hS.F ht⟩) hS.2.2 dL_history_7

set_option maxHeartbeats 4000000 in
set_option maxRecDepth 100000 in
theorem c_L_time (l : Launch) (hfl : l.flags = flags0) (D : va_G) (ct : Nat → ClassId) (sa : Nat → Nat) (G0 sz : Nat) (b : Nat → Nat) (d : Ad) (g : Sg) (x : Int32) (hI : Inv g) : Met l yL_time wsL_time ({ frames := 8, cells := 1, slots := 6, locals := 125 }) (hkPx D ct sa G0 [.ref (b 0), .int x] (hkZP D ct b d g G0 sz)) (hkZQ D ct b (va_A (hkW ct b d g) sz) (.long (lw [(-9000000000000000001)] (opTime g x))) (opTime g x).2.2) 1 6 (va_A (hkW ct b d g) sz) := by
  refine hk_ofWH (cc := cL_time) (maxL := 3) (ret := (some .long)) (by decide) rfl ?_
  intro p e s m args below meth c s₁ B hml hv
  obtain ⟨rfl, hE, hH, hp⟩ := hv
  have hx := B.exec
  have hb := B.bytes
  have hr := B.returns
  have hts := atoms_spec (ws := wsL_time) B.pre
  have hown : s.vm.findClass RL = some m.cls := findClass_of_methodNamed B.named
  have hlocks := B.notSynchronized
  have htab := vx_table (x := yX2_at) B (hts (.codeWith yL_time cL_time 3 (some .long) [(0, 6, 7, 23)]) (List.mem_of_getElem? (i := 0) rfl))
  obtain ⟨hsz, hP, hDG⟩ := hp
  subst hsz
  have hD := hDG.self (sz := s.heap.size)
  generalize hAe : va_A (hkW ct b d g) s.heap.size = A at hD ⊢
  have hA : ∀ q : Nat, s.heap.size ≤ q → A q := fun q h => by rw [← hAe]; exact Or.inr h
  have hS : va_S A s.heap s.heap [] := va_S.rf
  have hl := lv_entry ([.ref (b 0), .int x]) (n := 3) (Nat.le_of_ble_eq_true rfl)
  rw [lg_entry_eq]
  generalize (lg_sl ([.ref (b 0), .int x]) ++ List.replicate (3 - (lg_sl ([.ref (b 0), .int x])).length) Slot.unset).toArray = ls at hl ⊢
  have hl : lv_has ls 3 [(0, .ref (b 0)), (1, .int x)] := hl
  refine lv_aload_n hx hb dL_time_0 rfl (lv_at hl 0 rfl) ?_
  refine lv_iload_n hx hb dL_time_1 rfl (lv_at hl 1 rfl) ?_
  refine hk_L (wr := []) (z := (opTime g x)) (rest := []) (vx_runV (As := [.int x]) (rest := []) ⟨hx, hb, hml, hown, hts⟩ (c_X2_time l hfl D ct sa G0 s.heap.size b d g x hI) (cwV 1 hts gL_time_X2_time rfl rfl rfl (by decide +kernel) ⟨Nat.le_of_ble_eq_true rfl, Nat.le_of_ble_eq_true rfl⟩) (hk_prxV hE hH (va_recv hE.1 hP (ci := 2) (q0 := 0) rfl rfl) ⟨rfl, hP, hDG⟩) rfl rfl hl.1 rfl (lv_room (Nat.le_of_ble_eq_true rfl)) dL_time_2 ⟨Nat.le_of_ble_eq_true rfl, Nat.le_of_ble_eq_true rfl⟩) rfl hP hD hS hA (fun E ce q9 H locs ho hP hS hce hcv hcl => ?_) (fun d9 H locs hz hP hD hS => ?_)
  · obtain ⟨k, hk, hz⟩ := ho
    have hg9 : (opTime g x).2.2 = g := rf_opTime (by rw [hz]; exact nI_ne0 (by omega) (by
        have h9 : k < 1 := (List.getElem?_eq_some_iff.mp hk).1
        omega))
    rcases k with _ | k
    · obtain rfl : E = "java/lang/IndexOutOfBoundsException" := (Option.some.inj hk).symm
      refine vx_catch hown [] ⟨0, 6, 7, 23⟩ [] (htab.trans rfl) (fun z hz => absurd hz List.not_mem_nil) (by decide) (by decide) (hts (.classLink RL 23 "java/lang/IndexOutOfBoundsException") (by decide +kernel)) (hE.use hkN_c1) hce hcv hcl ?_
      refine lv_astore_n (lv' := [(2, .ref q9), (0, .ref (b 0)), (1, .int x)]) hx hb dL_time_7 rfl hl (by decide) rfl (fun ls hl => ?_)
      refine hk_ldc2 (v := (-9000000000000000001)) hx hb hown (hts (.constantLong RL 25 (-9000000000000000001)) (by decide +kernel)) dL_time_8 ?_
      have hP9 : va_P D vwCl (hkW ct b d (opTime g x).2.2) H := by rw [hg9]; exact hP
      have hD9 : va_D A (hkW ct b d (opTime g x).2.2) := by rw [hg9]; exact hD
      exact W.lret (v := (-9000000000000000001)) hx hb hr (fun t ht hW => ⟨by rw [lw, hz]; rfl, ⟨d, by rw [ht]; exact hP9, hD9⟩, hS.F ht⟩) hS.2.2 dL_time_11
    · exact nomatch hk
  · skip
    have hP : va_P D vwCl (hkW ct b d9 (opTime g x).2.2) H := hP
    have hD : va_D A (hkW ct b d9 (opTime g x).2.2) := hD
    refine lv_i2l hx hb dL_time_5 rfl ?_
    have hP9 : va_P D vwCl (hkW ct b d9 (opTime g x).2.2) H := hP
    have hD9 : va_D A (hkW ct b d9 (opTime g x).2.2) := hD
    exact W.lret (v := ((opTime g x).2.1).toInt64) hx hb hr (fun t ht hW => ⟨by rw [lw, if_pos hz], ⟨d9, by rw [ht]; exact hP9, hD9⟩, hS.F ht⟩) hS.2.2 dL_time_6

set_option maxHeartbeats 4000000 in
set_option maxRecDepth 100000 in
theorem c_L_timeAnew (l : Launch) (hfl : l.flags = flags0) (D : va_G) (ct : Nat → ClassId) (sa : Nat → Nat) (G0 sz : Nat) (b : Nat → Nat) (d : Ad) (g : Sg) (x : Int32) (hI : Inv g) : Met l yL_timeAnew wsL_timeAnew ({ frames := 8, cells := 1, slots := 6, locals := 125 }) (hkPx D ct sa G0 [.ref (b 0), .int x] (hkZP D ct b d g G0 sz)) (hkZQ D ct b (va_A (hkW ct b d g) sz) (.long (lw [(-9000000000000000001)] (opTime g x))) (opTime g x).2.2) 1 6 (va_A (hkW ct b d g) sz) := by
  refine hk_ofWH (cc := cL_timeAnew) (maxL := 3) (ret := (some .long)) (by decide) rfl ?_
  intro p e s m args below meth c s₁ B hml hv
  obtain ⟨rfl, hE, hH, hp⟩ := hv
  have hx := B.exec
  have hb := B.bytes
  have hr := B.returns
  have hts := atoms_spec (ws := wsL_timeAnew) B.pre
  have hown : s.vm.findClass RL = some m.cls := findClass_of_methodNamed B.named
  have hlocks := B.notSynchronized
  have htab := vx_table (x := yX2_at) B (hts (.codeWith yL_timeAnew cL_timeAnew 3 (some .long) [(0, 6, 7, 23)]) (List.mem_of_getElem? (i := 0) rfl))
  obtain ⟨hsz, hP, hDG⟩ := hp
  subst hsz
  have hD := hDG.self (sz := s.heap.size)
  generalize hAe : va_A (hkW ct b d g) s.heap.size = A at hD ⊢
  have hA : ∀ q : Nat, s.heap.size ≤ q → A q := fun q h => by rw [← hAe]; exact Or.inr h
  have hS : va_S A s.heap s.heap [] := va_S.rf
  have hl := lv_entry ([.ref (b 0), .int x]) (n := 3) (Nat.le_of_ble_eq_true rfl)
  rw [lg_entry_eq]
  generalize (lg_sl ([.ref (b 0), .int x]) ++ List.replicate (3 - (lg_sl ([.ref (b 0), .int x])).length) Slot.unset).toArray = ls at hl ⊢
  have hl : lv_has ls 3 [(0, .ref (b 0)), (1, .int x)] := hl
  refine lv_aload_n hx hb dL_timeAnew_0 rfl (lv_at hl 0 rfl) ?_
  refine lv_iload_n hx hb dL_timeAnew_1 rfl (lv_at hl 1 rfl) ?_
  refine hk_L (wr := []) (z := (opTime g x)) (rest := []) (vx_runV (As := [.int x]) (rest := []) ⟨hx, hb, hml, hown, hts⟩ (c_X2_timeAnew l hfl D ct sa G0 s.heap.size b d g x hI) (cwV 1 hts gL_timeAnew_X2_timeAnew rfl rfl rfl (by decide +kernel) ⟨Nat.le_of_ble_eq_true rfl, Nat.le_of_ble_eq_true rfl⟩) (hk_prxV hE hH (va_recv hE.1 hP (ci := 2) (q0 := 0) rfl rfl) ⟨rfl, hP, hDG⟩) rfl rfl hl.1 rfl (lv_room (Nat.le_of_ble_eq_true rfl)) dL_timeAnew_2 ⟨Nat.le_of_ble_eq_true rfl, Nat.le_of_ble_eq_true rfl⟩) rfl hP hD hS hA (fun E ce q9 H locs ho hP hS hce hcv hcl => ?_) (fun d9 H locs hz hP hD hS => ?_)
  · obtain ⟨k, hk, hz⟩ := ho
    have hg9 : (opTime g x).2.2 = g := rf_opTime (by rw [hz]; exact nI_ne0 (by omega) (by
        have h9 : k < 1 := (List.getElem?_eq_some_iff.mp hk).1
        omega))
    rcases k with _ | k
    · obtain rfl : E = "java/lang/IndexOutOfBoundsException" := (Option.some.inj hk).symm
      refine vx_catch hown [] ⟨0, 6, 7, 23⟩ [] (htab.trans rfl) (fun z hz => absurd hz List.not_mem_nil) (by decide) (by decide) (hts (.classLink RL 23 "java/lang/IndexOutOfBoundsException") (by decide +kernel)) (hE.use hkN_c1) hce hcv hcl ?_
      refine lv_astore_n (lv' := [(2, .ref q9), (0, .ref (b 0)), (1, .int x)]) hx hb dL_timeAnew_7 rfl hl (by decide) rfl (fun ls hl => ?_)
      refine hk_ldc2 (v := (-9000000000000000001)) hx hb hown (hts (.constantLong RL 25 (-9000000000000000001)) (by decide +kernel)) dL_timeAnew_8 ?_
      have hP9 : va_P D vwCl (hkW ct b d (opTime g x).2.2) H := by rw [hg9]; exact hP
      have hD9 : va_D A (hkW ct b d (opTime g x).2.2) := by rw [hg9]; exact hD
      exact W.lret (v := (-9000000000000000001)) hx hb hr (fun t ht hW => ⟨by rw [lw, hz]; rfl, ⟨d, by rw [ht]; exact hP9, hD9⟩, hS.F ht⟩) hS.2.2 dL_timeAnew_11
    · exact nomatch hk
  · skip
    have hP : va_P D vwCl (hkW ct b d9 (opTime g x).2.2) H := hP
    have hD : va_D A (hkW ct b d9 (opTime g x).2.2) := hD
    refine lv_i2l hx hb dL_timeAnew_5 rfl ?_
    have hP9 : va_P D vwCl (hkW ct b d9 (opTime g x).2.2) H := hP
    have hD9 : va_D A (hkW ct b d9 (opTime g x).2.2) := hD
    exact W.lret (v := ((opTime g x).2.1).toInt64) hx hb hr (fun t ht hW => ⟨by rw [lw, if_pos hz], ⟨d9, by rw [ht]; exact hP9, hD9⟩, hS.F ht⟩) hS.2.2 dL_timeAnew_6

set_option maxHeartbeats 4000000 in
set_option maxRecDepth 100000 in
theorem c_L_lesson (l : Launch) (hfl : l.flags = flags0) (D : va_G) (ct : Nat → ClassId) (sa : Nat → Nat) (G0 sz : Nat) (b : Nat → Nat) (d : Ad) (g : Sg) (x : Int32) (y : Int32) (hI : Inv g) : Met l yL_lesson wsL_lesson ({ frames := 8, cells := 2, slots := 12, locals := 127 }) (hkPx D ct sa G0 [.ref (b 0), .int x, .int y] (hkZP D ct b d g G0 sz)) (hkZQ D ct b (va_A (hkW ct b d g) sz) (.long (lw [(-9000000000000000001)] (opLesson g x y))) (opLesson g x y).2.2) 2 12 (va_A (hkW ct b d g) sz) := by
  refine hk_ofWH (cc := cL_lesson) (maxL := 4) (ret := (some .long)) (by decide) rfl ?_
  intro p e s m args below meth c s₁ B hml hv
  obtain ⟨rfl, hE, hH, hp⟩ := hv
  have hx := B.exec
  have hb := B.bytes
  have hr := B.returns
  have hts := atoms_spec (ws := wsL_lesson) B.pre
  have hown : s.vm.findClass RL = some m.cls := findClass_of_methodNamed B.named
  have hlocks := B.notSynchronized
  have htab := vx_table (x := yX2_at) B (hts (.codeWith yL_lesson cL_lesson 4 (some .long) [(0, 7, 8, 23)]) (List.mem_of_getElem? (i := 0) rfl))
  obtain ⟨hsz, hP, hDG⟩ := hp
  subst hsz
  have hD := hDG.self (sz := s.heap.size)
  generalize hAe : va_A (hkW ct b d g) s.heap.size = A at hD ⊢
  have hA : ∀ q : Nat, s.heap.size ≤ q → A q := fun q h => by rw [← hAe]; exact Or.inr h
  have hS : va_S A s.heap s.heap [] := va_S.rf
  have hl := lv_entry ([.ref (b 0), .int x, .int y]) (n := 4) (Nat.le_of_ble_eq_true rfl)
  rw [lg_entry_eq]
  generalize (lg_sl ([.ref (b 0), .int x, .int y]) ++ List.replicate (4 - (lg_sl ([.ref (b 0), .int x, .int y])).length) Slot.unset).toArray = ls at hl ⊢
  have hl : lv_has ls 4 [(0, .ref (b 0)), (1, .int x), (2, .int y)] := hl
  refine lv_aload_n hx hb dL_lesson_0 rfl (lv_at hl 0 rfl) ?_
  refine lv_iload_n hx hb dL_lesson_1 rfl (lv_at hl 1 rfl) ?_
  refine lv_iload_n hx hb dL_lesson_2 rfl (lv_at hl 2 rfl) ?_
  refine hk_L (wr := []) (z := (opLesson g x y)) (rest := []) (vx_runV (As := [.int x, .int y]) (rest := []) ⟨hx, hb, hml, hown, hts⟩ (c_X2_lesson l hfl D ct sa G0 s.heap.size b d g x y hI) (cwV 2 hts gL_lesson_X2_lesson rfl rfl rfl (by decide +kernel) ⟨Nat.le_of_ble_eq_true rfl, Nat.le_of_ble_eq_true rfl⟩) (hk_prxV hE hH (va_recv hE.1 hP (ci := 2) (q0 := 0) rfl rfl) ⟨rfl, hP, hDG⟩) rfl rfl hl.1 rfl (lv_room (Nat.le_of_ble_eq_true rfl)) dL_lesson_3 ⟨Nat.le_of_ble_eq_true rfl, Nat.le_of_ble_eq_true rfl⟩) rfl hP hD hS hA (fun E ce q9 H locs ho hP hS hce hcv hcl => ?_) (fun d9 H locs hz hP hD hS => ?_)
  · obtain ⟨k, hk, hz⟩ := ho
    have hg9 : (opLesson g x y).2.2 = g := rf_opLesson (by rw [hz]; exact nI_ne0 (by omega) (by
        have h9 : k < 1 := (List.getElem?_eq_some_iff.mp hk).1
        omega))
    rcases k with _ | k
    · obtain rfl : E = "java/lang/IndexOutOfBoundsException" := (Option.some.inj hk).symm
      refine vx_catch hown [] ⟨0, 7, 8, 23⟩ [] (htab.trans rfl) (fun z hz => absurd hz List.not_mem_nil) (by decide) (by decide) (hts (.classLink RL 23 "java/lang/IndexOutOfBoundsException") (by decide +kernel)) (hE.use hkN_c1) hce hcv hcl ?_
      refine lv_astore_n (lv' := [(3, .ref q9), (0, .ref (b 0)), (1, .int x), (2, .int y)]) hx hb dL_lesson_8 rfl hl (by decide) rfl (fun ls hl => ?_)
      refine hk_ldc2 (v := (-9000000000000000001)) hx hb hown (hts (.constantLong RL 25 (-9000000000000000001)) (by decide +kernel)) dL_lesson_9 ?_
      have hP9 : va_P D vwCl (hkW ct b d (opLesson g x y).2.2) H := by rw [hg9]; exact hP
      have hD9 : va_D A (hkW ct b d (opLesson g x y).2.2) := by rw [hg9]; exact hD
      exact W.lret (v := (-9000000000000000001)) hx hb hr (fun t ht hW => ⟨by rw [lw, hz]; rfl, ⟨d, by rw [ht]; exact hP9, hD9⟩, hS.F ht⟩) hS.2.2 dL_lesson_12
    · exact nomatch hk
  · skip
    have hP : va_P D vwCl (hkW ct b d9 (opLesson g x y).2.2) H := hP
    have hD : va_D A (hkW ct b d9 (opLesson g x y).2.2) := hD
    refine lv_i2l hx hb dL_lesson_6 rfl ?_
    have hP9 : va_P D vwCl (hkW ct b d9 (opLesson g x y).2.2) H := hP
    have hD9 : va_D A (hkW ct b d9 (opLesson g x y).2.2) := hD
    exact W.lret (v := ((opLesson g x y).2.1).toInt64) hx hb hr (fun t ht hW => ⟨by rw [lw, if_pos hz], ⟨d9, by rw [ht]; exact hP9, hD9⟩, hS.F ht⟩) hS.2.2 dL_lesson_7

set_option maxHeartbeats 4000000 in
set_option maxRecDepth 100000 in
theorem c_L_saves (l : Launch) (hfl : l.flags = flags0) (D : va_G) (ct : Nat → ClassId) (sa : Nat → Nat) (G0 sz : Nat) (b : Nat → Nat) (d : Ad) (g : Sg) (x : Int32) (y : Int32) (z : Int32) (hI : Inv g) : Met l yL_saves wsL_saves ({ frames := 9, cells := 4, slots := 24, locals := 147 }) (hkPx D ct sa G0 [.ref (b 0), .int x, .int y, .int z] (hkZP D ct b d g G0 sz)) (hkZQ D ct b (va_A (hkW ct b d g) sz) (.long (lw [(-9000000000000000001), (-9000000000000000002)] (opSaves g x y z))) (opSaves g x y z).2.2) 4 24 (va_A (hkW ct b d g) sz) := by
  refine hk_ofWH (cc := cL_saves) (maxL := 5) (ret := (some .long)) (by decide) rfl ?_
  intro p e s m args below meth c s₁ B hml hv
  obtain ⟨rfl, hE, hH, hp⟩ := hv
  have hx := B.exec
  have hb := B.bytes
  have hr := B.returns
  have hts := atoms_spec (ws := wsL_saves) B.pre
  have hown : s.vm.findClass RL = some m.cls := findClass_of_methodNamed B.named
  have hlocks := B.notSynchronized
  have htab := vx_table (x := yX2_at) B (hts (.codeWith yL_saves cL_saves 5 (some .long) [(0, 8, 9, 23), (0, 8, 15, 27)]) (List.mem_of_getElem? (i := 0) rfl))
  obtain ⟨hsz, hP, hDG⟩ := hp
  subst hsz
  have hD := hDG.self (sz := s.heap.size)
  generalize hAe : va_A (hkW ct b d g) s.heap.size = A at hD ⊢
  have hA : ∀ q : Nat, s.heap.size ≤ q → A q := fun q h => by rw [← hAe]; exact Or.inr h
  have hS : va_S A s.heap s.heap [] := va_S.rf
  have hl := lv_entry ([.ref (b 0), .int x, .int y, .int z]) (n := 5) (Nat.le_of_ble_eq_true rfl)
  rw [lg_entry_eq]
  generalize (lg_sl ([.ref (b 0), .int x, .int y, .int z]) ++ List.replicate (5 - (lg_sl ([.ref (b 0), .int x, .int y, .int z])).length) Slot.unset).toArray = ls at hl ⊢
  have hl : lv_has ls 5 [(0, .ref (b 0)), (1, .int x), (2, .int y), (3, .int z)] := hl
  refine lv_aload_n hx hb dL_saves_0 rfl (lv_at hl 0 rfl) ?_
  refine lv_iload_n hx hb dL_saves_1 rfl (lv_at hl 1 rfl) ?_
  refine lv_iload_n hx hb dL_saves_2 rfl (lv_at hl 2 rfl) ?_
  refine lv_iload_n hx hb dL_saves_3 rfl (lv_at hl 3 rfl) ?_
  refine hk_L (wr := []) (z := (opSaves g x y z)) (rest := []) (vx_runV (As := [.int x, .int y, .int z]) (rest := []) ⟨hx, hb, hml, hown, hts⟩ (c_X2_saves l hfl D ct sa G0 s.heap.size b d g x y z hI) (cwV 3 hts gL_saves_X2_saves rfl rfl rfl (by decide +kernel) ⟨Nat.le_of_ble_eq_true rfl, Nat.le_of_ble_eq_true rfl⟩) (hk_prxV hE hH (va_recv hE.1 hP (ci := 2) (q0 := 0) rfl rfl) ⟨rfl, hP, hDG⟩) rfl rfl hl.1 rfl (lv_room (Nat.le_of_ble_eq_true rfl)) dL_saves_4 ⟨Nat.le_of_ble_eq_true rfl, Nat.le_of_ble_eq_true rfl⟩) rfl hP hD hS hA (fun E ce q9 H locs ho hP hS hce hcv hcl => ?_) (fun d9 H locs hz hP hD hS => ?_)
  · obtain ⟨k, hk, hz⟩ := ho
    have hg9 : (opSaves g x y z).2.2 = g := rf_opSaves (by rw [hz]; exact nI_ne0 (by omega) (by
        have h9 : k < 2 := (List.getElem?_eq_some_iff.mp hk).1
        omega))
    rcases k with _ | _ | k
    · obtain rfl : E = "java/lang/IndexOutOfBoundsException" := (Option.some.inj hk).symm
      refine vx_catch hown [] ⟨0, 8, 9, 23⟩ [⟨0, 8, 15, 27⟩] (htab.trans rfl) (fun z hz => absurd hz List.not_mem_nil) (by decide) (by decide) (hts (.classLink RL 23 "java/lang/IndexOutOfBoundsException") (by decide +kernel)) (hE.use hkN_c1) hce hcv hcl ?_
      refine lv_astore (lv' := [(4, .ref q9), (0, .ref (b 0)), (1, .int x), (2, .int y), (3, .int z)]) hx hb dL_saves_9 hl (by decide) rfl (fun ls hl => ?_)
      refine hk_ldc2 (v := (-9000000000000000001)) hx hb hown (hts (.constantLong RL 25 (-9000000000000000001)) (by decide +kernel)) dL_saves_11 ?_
      have hP9 : va_P D vwCl (hkW ct b d (opSaves g x y z).2.2) H := by rw [hg9]; exact hP
      have hD9 : va_D A (hkW ct b d (opSaves g x y z).2.2) := by rw [hg9]; exact hD
      exact W.lret (v := (-9000000000000000001)) hx hb hr (fun t ht hW => ⟨by rw [lw, hz]; rfl, ⟨d, by rw [ht]; exact hP9, hD9⟩, hS.F ht⟩) hS.2.2 dL_saves_14
    · obtain rfl : E = "java/lang/IllegalArgumentException" := (Option.some.inj hk).symm
      refine vx_catch hown [⟨0, 8, 9, 23⟩] ⟨0, 8, 15, 27⟩ [] (htab.trans rfl) (fun z hz => by
        obtain rfl := List.mem_singleton.mp hz
        exact Or.inr ⟨by decide, "java/lang/IndexOutOfBoundsException", (hts (.classLink RL 23 "java/lang/IndexOutOfBoundsException") (by decide +kernel)), hE.2.2.2.1 _ (List.mem_of_getElem? (i := 5) rfl)⟩) (by decide) (by decide) (hts (.classLink RL 27 "java/lang/IllegalArgumentException") (by decide +kernel)) (hE.use hkN_c2) hce hcv hcl ?_
      refine lv_astore (lv' := [(4, .ref q9), (0, .ref (b 0)), (1, .int x), (2, .int y), (3, .int z)]) hx hb dL_saves_15 hl (by decide) rfl (fun ls hl => ?_)
      refine hk_ldc2 (v := (-9000000000000000002)) hx hb hown (hts (.constantLong RL 29 (-9000000000000000002)) (by decide +kernel)) dL_saves_17 ?_
      have hP9 : va_P D vwCl (hkW ct b d (opSaves g x y z).2.2) H := by rw [hg9]; exact hP
      have hD9 : va_D A (hkW ct b d (opSaves g x y z).2.2) := by rw [hg9]; exact hD
      exact W.lret (v := (-9000000000000000002)) hx hb hr (fun t ht hW => ⟨by rw [lw, hz]; rfl, ⟨d, by rw [ht]; exact hP9, hD9⟩, hS.F ht⟩) hS.2.2 dL_saves_20
    · exact nomatch hk
  · skip
    have hP : va_P D vwCl (hkW ct b d9 (opSaves g x y z).2.2) H := hP
    have hD : va_D A (hkW ct b d9 (opSaves g x y z).2.2) := hD
    refine lv_i2l hx hb dL_saves_7 rfl ?_
    have hP9 : va_P D vwCl (hkW ct b d9 (opSaves g x y z).2.2) H := hP
    have hD9 : va_D A (hkW ct b d9 (opSaves g x y z).2.2) := hD
    exact W.lret (v := ((opSaves g x y z).2.1).toInt64) hx hb hr (fun t ht hW => ⟨by rw [lw, if_pos hz], ⟨d9, by rw [ht]; exact hP9, hD9⟩, hS.F ht⟩) hS.2.2 dL_saves_8

set_option maxHeartbeats 4000000 in
set_option maxRecDepth 100000 in
theorem c_L_best (l : Launch) (hfl : l.flags = flags0) (D : va_G) (ct : Nat → ClassId) (sa : Nat → Nat) (G0 sz : Nat) (b : Nat → Nat) (d : Ad) (g : Sg) (x : Int32) (hI : Inv g) : Met l yL_best wsL_best ({ frames := 8, cells := 1, slots := 6, locals := 138 }) (hkPx D ct sa G0 [.ref (b 0), .int x] (hkZP D ct b d g G0 sz)) (hkZQ D ct b (va_A (hkW ct b d g) sz) (.long (lw [(-9000000000000000001)] (opBest g x))) (opBest g x).2.2) 1 6 (va_A (hkW ct b d g) sz) := by
  refine hk_ofWH (cc := cL_best) (maxL := 3) (ret := (some .long)) (by decide) rfl ?_
  intro p e s m args below meth c s₁ B hml hv
  obtain ⟨rfl, hE, hH, hp⟩ := hv
  have hx := B.exec
  have hb := B.bytes
  have hr := B.returns
  have hts := atoms_spec (ws := wsL_best) B.pre
  have hown : s.vm.findClass RL = some m.cls := findClass_of_methodNamed B.named
  have hlocks := B.notSynchronized
  have htab := vx_table (x := yX2_at) B (hts (.codeWith yL_best cL_best 3 (some .long) [(0, 6, 7, 23)]) (List.mem_of_getElem? (i := 0) rfl))
  obtain ⟨hsz, hP, hDG⟩ := hp
  subst hsz
  have hD := hDG.self (sz := s.heap.size)
  generalize hAe : va_A (hkW ct b d g) s.heap.size = A at hD ⊢
  have hA : ∀ q : Nat, s.heap.size ≤ q → A q := fun q h => by rw [← hAe]; exact Or.inr h
  have hS : va_S A s.heap s.heap [] := va_S.rf
  have hl := lv_entry ([.ref (b 0), .int x]) (n := 3) (Nat.le_of_ble_eq_true rfl)
  rw [lg_entry_eq]
  generalize (lg_sl ([.ref (b 0), .int x]) ++ List.replicate (3 - (lg_sl ([.ref (b 0), .int x])).length) Slot.unset).toArray = ls at hl ⊢
  have hl : lv_has ls 3 [(0, .ref (b 0)), (1, .int x)] := hl
  refine lv_aload_n hx hb dL_best_0 rfl (lv_at hl 0 rfl) ?_
  refine lv_iload_n hx hb dL_best_1 rfl (lv_at hl 1 rfl) ?_
  refine hk_L (wr := []) (z := (opBest g x)) (rest := []) (vx_runV (As := [.int x]) (rest := []) ⟨hx, hb, hml, hown, hts⟩ (c_X2_best l hfl D ct sa G0 s.heap.size b d g x hI) (cwV 1 hts gL_best_X2_best rfl rfl rfl (by decide +kernel) ⟨Nat.le_of_ble_eq_true rfl, Nat.le_of_ble_eq_true rfl⟩) (hk_prxV hE hH (va_recv hE.1 hP (ci := 2) (q0 := 0) rfl rfl) ⟨rfl, hP, hDG⟩) rfl rfl hl.1 rfl (lv_room (Nat.le_of_ble_eq_true rfl)) dL_best_2 ⟨Nat.le_of_ble_eq_true rfl, Nat.le_of_ble_eq_true rfl⟩) rfl hP hD hS hA (fun E ce q9 H locs ho hP hS hce hcv hcl => ?_) (fun d9 H locs hz hP hD hS => ?_)
  · obtain ⟨k, hk, hz⟩ := ho
    have hg9 : (opBest g x).2.2 = g := rf_opBest (by rw [hz]; exact nI_ne0 (by omega) (by
        have h9 : k < 1 := (List.getElem?_eq_some_iff.mp hk).1
        omega))
    rcases k with _ | k
    · obtain rfl : E = "java/lang/IndexOutOfBoundsException" := (Option.some.inj hk).symm
      refine vx_catch hown [] ⟨0, 6, 7, 23⟩ [] (htab.trans rfl) (fun z hz => absurd hz List.not_mem_nil) (by decide) (by decide) (hts (.classLink RL 23 "java/lang/IndexOutOfBoundsException") (by decide +kernel)) (hE.use hkN_c1) hce hcv hcl ?_
      refine lv_astore_n (lv' := [(2, .ref q9), (0, .ref (b 0)), (1, .int x)]) hx hb dL_best_7 rfl hl (by decide) rfl (fun ls hl => ?_)
      refine hk_ldc2 (v := (-9000000000000000001)) hx hb hown (hts (.constantLong RL 25 (-9000000000000000001)) (by decide +kernel)) dL_best_8 ?_
      have hP9 : va_P D vwCl (hkW ct b d (opBest g x).2.2) H := by rw [hg9]; exact hP
      have hD9 : va_D A (hkW ct b d (opBest g x).2.2) := by rw [hg9]; exact hD
      exact W.lret (v := (-9000000000000000001)) hx hb hr (fun t ht hW => ⟨by rw [lw, hz]; rfl, ⟨d, by rw [ht]; exact hP9, hD9⟩, hS.F ht⟩) hS.2.2 dL_best_11
    · exact nomatch hk
  · skip
    have hP : va_P D vwCl (hkW ct b d9 (opBest g x).2.2) H := hP
    have hD : va_D A (hkW ct b d9 (opBest g x).2.2) := hD
    refine lv_i2l hx hb dL_best_5 rfl ?_
    have hP9 : va_P D vwCl (hkW ct b d9 (opBest g x).2.2) H := hP
    have hD9 : va_D A (hkW ct b d9 (opBest g x).2.2) := hD
    exact W.lret (v := ((opBest g x).2.1).toInt64) hx hb hr (fun t ht hW => ⟨by rw [lw, if_pos hz], ⟨d9, by rw [ht]; exact hP9, hD9⟩, hS.F ht⟩) hS.2.2 dL_best_6

set_option maxHeartbeats 4000000 in
set_option maxRecDepth 100000 in
theorem c_L_draft (l : Launch) (hfl : l.flags = flags0) (D : va_G) (ct : Nat → ClassId) (sa : Nat → Nat) (G0 sz : Nat) (b : Nat → Nat) (d : Ad) (g : Sg) (x : Int32) (hI : Inv g) : Met l yL_draft wsL_draft ({ frames := 8, cells := 2, slots := 12, locals := 123 }) (hkPx D ct sa G0 [.ref (b 0), .int x] (hkZP D ct b d g G0 sz)) (hkZQ D ct b (va_A (hkW ct b d g) sz) (.long (lw [(-9000000000000000001), (-9000000000000000003)] (opDraft g x))) (opDraft g x).2.2) 2 12 (va_A (hkW ct b d g) sz) := by
  refine hk_ofWH (cc := cL_draft) (maxL := 3) (ret := (some .long)) (by decide) rfl ?_
  intro p e s m args below meth c s₁ B hml hv
  obtain ⟨rfl, hE, hH, hp⟩ := hv
  have hx := B.exec
  have hb := B.bytes
  have hr := B.returns
  have hts := atoms_spec (ws := wsL_draft) B.pre
  have hown : s.vm.findClass RL = some m.cls := findClass_of_methodNamed B.named
  have hlocks := B.notSynchronized
  have htab := vx_table (x := yX2_at) B (hts (.codeWith yL_draft cL_draft 3 (some .long) [(0, 6, 7, 23), (0, 6, 12, 15)]) (List.mem_of_getElem? (i := 0) rfl))
  obtain ⟨hsz, hP, hDG⟩ := hp
  subst hsz
  have hD := hDG.self (sz := s.heap.size)
  generalize hAe : va_A (hkW ct b d g) s.heap.size = A at hD ⊢
  have hA : ∀ q : Nat, s.heap.size ≤ q → A q := fun q h => by rw [← hAe]; exact Or.inr h
  have hS : va_S A s.heap s.heap [] := va_S.rf
  have hl := lv_entry ([.ref (b 0), .int x]) (n := 3) (Nat.le_of_ble_eq_true rfl)
  rw [lg_entry_eq]
  generalize (lg_sl ([.ref (b 0), .int x]) ++ List.replicate (3 - (lg_sl ([.ref (b 0), .int x])).length) Slot.unset).toArray = ls at hl ⊢
  have hl : lv_has ls 3 [(0, .ref (b 0)), (1, .int x)] := hl
  refine lv_aload_n hx hb dL_draft_0 rfl (lv_at hl 0 rfl) ?_
  refine lv_iload_n hx hb dL_draft_1 rfl (lv_at hl 1 rfl) ?_
  refine hk_L (wr := []) (z := (opDraft g x)) (rest := []) (vx_runV (As := [.int x]) (rest := []) ⟨hx, hb, hml, hown, hts⟩ (c_X2_draft l hfl D ct sa G0 s.heap.size b d g x hI) (cwV 1 hts gL_draft_X2_draft rfl rfl rfl (by decide +kernel) ⟨Nat.le_of_ble_eq_true rfl, Nat.le_of_ble_eq_true rfl⟩) (hk_prxV hE hH (va_recv hE.1 hP (ci := 2) (q0 := 0) rfl rfl) ⟨rfl, hP, hDG⟩) rfl rfl hl.1 rfl (lv_room (Nat.le_of_ble_eq_true rfl)) dL_draft_2 ⟨Nat.le_of_ble_eq_true rfl, Nat.le_of_ble_eq_true rfl⟩) rfl hP hD hS hA (fun E ce q9 H locs ho hP hS hce hcv hcl => ?_) (fun d9 H locs hz hP hD hS => ?_)
  · obtain ⟨k, hk, hz⟩ := ho
    have hg9 : (opDraft g x).2.2 = g := rf_opDraft (by rw [hz]; exact nI_ne0 (by omega) (by
        have h9 : k < 2 := (List.getElem?_eq_some_iff.mp hk).1
        omega))
    rcases k with _ | _ | k
    · obtain rfl : E = "java/lang/IndexOutOfBoundsException" := (Option.some.inj hk).symm
      refine vx_catch hown [] ⟨0, 6, 7, 23⟩ [⟨0, 6, 12, 15⟩] (htab.trans rfl) (fun z hz => absurd hz List.not_mem_nil) (by decide) (by decide) (hts (.classLink RL 23 "java/lang/IndexOutOfBoundsException") (by decide +kernel)) (hE.use hkN_c1) hce hcv hcl ?_
      refine lv_astore_n (lv' := [(2, .ref q9), (0, .ref (b 0)), (1, .int x)]) hx hb dL_draft_7 rfl hl (by decide) rfl (fun ls hl => ?_)
      refine hk_ldc2 (v := (-9000000000000000001)) hx hb hown (hts (.constantLong RL 25 (-9000000000000000001)) (by decide +kernel)) dL_draft_8 ?_
      have hP9 : va_P D vwCl (hkW ct b d (opDraft g x).2.2) H := by rw [hg9]; exact hP
      have hD9 : va_D A (hkW ct b d (opDraft g x).2.2) := by rw [hg9]; exact hD
      exact W.lret (v := (-9000000000000000001)) hx hb hr (fun t ht hW => ⟨by rw [lw, hz]; rfl, ⟨d, by rw [ht]; exact hP9, hD9⟩, hS.F ht⟩) hS.2.2 dL_draft_11
    · obtain rfl : E = "java/lang/IllegalStateException" := (Option.some.inj hk).symm
      refine vx_catch hown [⟨0, 6, 7, 23⟩] ⟨0, 6, 12, 15⟩ [] (htab.trans rfl) (fun z hz => by
        obtain rfl := List.mem_singleton.mp hz
        exact Or.inr ⟨by decide, "java/lang/IndexOutOfBoundsException", (hts (.classLink RL 23 "java/lang/IndexOutOfBoundsException") (by decide +kernel)), hE.2.2.2.1 _ (List.mem_of_getElem? (i := 0) rfl)⟩) (by decide) (by decide) (hts (.classLink RL 15 "java/lang/IllegalStateException") (by decide +kernel)) (hE.use hkN_c0) hce hcv hcl ?_
      refine lv_astore_n (lv' := [(2, .ref q9), (0, .ref (b 0)), (1, .int x)]) hx hb dL_draft_12 rfl hl (by decide) rfl (fun ls hl => ?_)
      refine hk_ldc2 (v := (-9000000000000000003)) hx hb hown (hts (.constantLong RL 17 (-9000000000000000003)) (by decide +kernel)) dL_draft_13 ?_
      have hP9 : va_P D vwCl (hkW ct b d (opDraft g x).2.2) H := by rw [hg9]; exact hP
      have hD9 : va_D A (hkW ct b d (opDraft g x).2.2) := by rw [hg9]; exact hD
      exact W.lret (v := (-9000000000000000003)) hx hb hr (fun t ht hW => ⟨by rw [lw, hz]; rfl, ⟨d, by rw [ht]; exact hP9, hD9⟩, hS.F ht⟩) hS.2.2 dL_draft_16
    · exact nomatch hk
  · skip
    have hP : va_P D vwCl (hkW ct b d9 (opDraft g x).2.2) H := hP
    have hD : va_D A (hkW ct b d9 (opDraft g x).2.2) := hD
    refine lv_i2l hx hb dL_draft_5 rfl ?_
    have hP9 : va_P D vwCl (hkW ct b d9 (opDraft g x).2.2) H := hP
    have hD9 : va_D A (hkW ct b d9 (opDraft g x).2.2) := hD
    exact W.lret (v := ((opDraft g x).2.1).toInt64) hx hb hr (fun t ht hW => ⟨by rw [lw, if_pos hz], ⟨d9, by rw [ht]; exact hP9, hD9⟩, hS.F ht⟩) hS.2.2 dL_draft_6

set_option maxHeartbeats 4000000 in
set_option maxRecDepth 100000 in
theorem c_L_contest (l : Launch) (hfl : l.flags = flags0) (D : va_G) (ct : Nat → ClassId) (sa : Nat → Nat) (G0 sz : Nat) (b : Nat → Nat) (d : Ad) (g : Sg)  (hI : Inv g) : Met l yL_contest wsL_contest ({ frames := 7, cells := 4, slots := 18, locals := 113 }) (hkPx D ct sa G0 [.ref (b 0)] (hkZP D ct b d g G0 sz)) (hkZQ D ct b (va_A (hkW ct b d g) sz) (.long (lw [(-9000000000000000003)] (opContest g))) (opContest g).2.2) 4 18 (va_A (hkW ct b d g) sz) := by
  refine hk_ofWH (cc := cL_contest) (maxL := 2) (ret := (some .long)) (by decide) rfl ?_
  intro p e s m args below meth c s₁ B hml hv
  obtain ⟨rfl, hE, hH, hp⟩ := hv
  have hx := B.exec
  have hb := B.bytes
  have hr := B.returns
  have hts := atoms_spec (ws := wsL_contest) B.pre
  have hown : s.vm.findClass RL = some m.cls := findClass_of_methodNamed B.named
  have hlocks := B.notSynchronized
  have htab := vx_table (x := yX2_at) B (hts (.codeWith yL_contest cL_contest 2 (some .long) [(0, 5, 6, 15)]) (List.mem_of_getElem? (i := 0) rfl))
  obtain ⟨hsz, hP, hDG⟩ := hp
  subst hsz
  have hD := hDG.self (sz := s.heap.size)
  generalize hAe : va_A (hkW ct b d g) s.heap.size = A at hD ⊢
  have hA : ∀ q : Nat, s.heap.size ≤ q → A q := fun q h => by rw [← hAe]; exact Or.inr h
  have hS : va_S A s.heap s.heap [] := va_S.rf
  have hl := lv_entry ([.ref (b 0)]) (n := 2) (Nat.le_of_ble_eq_true rfl)
  rw [lg_entry_eq]
  generalize (lg_sl ([.ref (b 0)]) ++ List.replicate (2 - (lg_sl ([.ref (b 0)])).length) Slot.unset).toArray = ls at hl ⊢
  have hl : lv_has ls 2 [(0, .ref (b 0))] := hl
  refine lv_aload_n hx hb dL_contest_0 rfl (lv_at hl 0 rfl) ?_
  refine hk_L (wr := []) (z := (opContest g)) (rest := []) (vx_runV (As := []) (rest := []) ⟨hx, hb, hml, hown, hts⟩ (c_X2_contest l hfl D ct sa G0 s.heap.size b d g  hI) (cwV 0 hts gL_contest_X2_contest rfl rfl rfl (by decide +kernel) ⟨Nat.le_of_ble_eq_true rfl, Nat.le_of_ble_eq_true rfl⟩) (hk_prxV hE hH (va_recv hE.1 hP (ci := 2) (q0 := 0) rfl rfl) ⟨rfl, hP, hDG⟩) rfl rfl hl.1 rfl (lv_room (Nat.le_of_ble_eq_true rfl)) dL_contest_1 ⟨Nat.le_of_ble_eq_true rfl, Nat.le_of_ble_eq_true rfl⟩) rfl hP hD hS hA (fun E ce q9 H locs ho hP hS hce hcv hcl => ?_) (fun d9 H locs hz hP hD hS => ?_)
  · obtain ⟨k, hk, hz⟩ := ho
    have hg9 : (opContest g).2.2 = g := rf_opContest (by rw [hz]; exact nI_ne0 (by omega) (by
        have h9 : k < 1 := (List.getElem?_eq_some_iff.mp hk).1
        omega))
    rcases k with _ | k
    · obtain rfl : E = "java/lang/IllegalStateException" := (Option.some.inj hk).symm
      refine vx_catch hown [] ⟨0, 5, 6, 15⟩ [] (htab.trans rfl) (fun z hz => absurd hz List.not_mem_nil) (by decide) (by decide) (hts (.classLink RL 15 "java/lang/IllegalStateException") (by decide +kernel)) (hE.use hkN_c0) hce hcv hcl ?_
      refine lv_astore_n (lv' := [(1, .ref q9), (0, .ref (b 0))]) hx hb dL_contest_6 rfl hl (by decide) rfl (fun ls hl => ?_)
      refine hk_ldc2 (v := (-9000000000000000003)) hx hb hown (hts (.constantLong RL 17 (-9000000000000000003)) (by decide +kernel)) dL_contest_7 ?_
      have hP9 : va_P D vwCl (hkW ct b d (opContest g).2.2) H := by rw [hg9]; exact hP
      have hD9 : va_D A (hkW ct b d (opContest g).2.2) := by rw [hg9]; exact hD
      exact W.lret (v := (-9000000000000000003)) hx hb hr (fun t ht hW => ⟨by rw [lw, hz]; rfl, ⟨d, by rw [ht]; exact hP9, hD9⟩, hS.F ht⟩) hS.2.2 dL_contest_10
    · exact nomatch hk
  · skip
    have hP : va_P D vwCl (hkW ct b d9 (opContest g).2.2) H := hP
    have hD : va_D A (hkW ct b d9 (opContest g).2.2) := hD
    refine lv_i2l hx hb dL_contest_4 rfl ?_
    have hP9 : va_P D vwCl (hkW ct b d9 (opContest g).2.2) H := hP
    have hD9 : va_D A (hkW ct b d9 (opContest g).2.2) := hD
    exact W.lret (v := ((opContest g).2.1).toInt64) hx hb hr (fun t ht hW => ⟨by rw [lw, if_pos hz], ⟨d9, by rw [ht]; exact hP9, hD9⟩, hS.F ht⟩) hS.2.2 dL_contest_5

set_option maxHeartbeats 4000000 in
set_option maxRecDepth 100000 in
theorem c_L_result (l : Launch) (hfl : l.flags = flags0) (D : va_G) (ct : Nat → ClassId) (sa : Nat → Nat) (G0 sz : Nat) (b : Nat → Nat) (d : Ad) (g : Sg) (x : Int32) (y : Int32) (z : Int32) (hI : Inv g) : Met l yL_result wsL_result ({ frames := 8, cells := 3, slots := 18, locals := 130 }) (hkPx D ct sa G0 [.ref (b 0), .int x, .int y, .int z] (hkZP D ct b d g G0 sz)) (hkZQ D ct b (va_A (hkW ct b d g) sz) (.long (lw [(-9000000000000000001), (-9000000000000000002), (-9000000000000000003)] (opResult g x y z))) (opResult g x y z).2.2) 3 18 (va_A (hkW ct b d g) sz) := by
  refine hk_ofWH (cc := cL_result) (maxL := 5) (ret := (some .long)) (by decide) rfl ?_
  intro p e s m args below meth c s₁ B hml hv
  obtain ⟨rfl, hE, hH, hp⟩ := hv
  have hx := B.exec
  have hb := B.bytes
  have hr := B.returns
  have hts := atoms_spec (ws := wsL_result) B.pre
  have hown : s.vm.findClass RL = some m.cls := findClass_of_methodNamed B.named
  have hlocks := B.notSynchronized
  have htab := vx_table (x := yX2_at) B (hts (.codeWith yL_result cL_result 5 (some .long) [(0, 8, 9, 23), (0, 8, 15, 27), (0, 8, 21, 15)]) (List.mem_of_getElem? (i := 0) rfl))
  obtain ⟨hsz, hP, hDG⟩ := hp
  subst hsz
  have hD := hDG.self (sz := s.heap.size)
  generalize hAe : va_A (hkW ct b d g) s.heap.size = A at hD ⊢
  have hA : ∀ q : Nat, s.heap.size ≤ q → A q := fun q h => by rw [← hAe]; exact Or.inr h
  have hS : va_S A s.heap s.heap [] := va_S.rf
  have hl := lv_entry ([.ref (b 0), .int x, .int y, .int z]) (n := 5) (Nat.le_of_ble_eq_true rfl)
  rw [lg_entry_eq]
  generalize (lg_sl ([.ref (b 0), .int x, .int y, .int z]) ++ List.replicate (5 - (lg_sl ([.ref (b 0), .int x, .int y, .int z])).length) Slot.unset).toArray = ls at hl ⊢
  have hl : lv_has ls 5 [(0, .ref (b 0)), (1, .int x), (2, .int y), (3, .int z)] := hl
  refine lv_aload_n hx hb dL_result_0 rfl (lv_at hl 0 rfl) ?_
  refine lv_iload_n hx hb dL_result_1 rfl (lv_at hl 1 rfl) ?_
  refine lv_iload_n hx hb dL_result_2 rfl (lv_at hl 2 rfl) ?_
  refine lv_iload_n hx hb dL_result_3 rfl (lv_at hl 3 rfl) ?_
  refine hk_L (wr := []) (z := (opResult g x y z)) (rest := []) (vx_runV (As := [.int x, .int y, .int z]) (rest := []) ⟨hx, hb, hml, hown, hts⟩ (c_X2_result l hfl D ct sa G0 s.heap.size b d g x y z hI) (cwV 3 hts gL_result_X2_result rfl rfl rfl (by decide +kernel) ⟨Nat.le_of_ble_eq_true rfl, Nat.le_of_ble_eq_true rfl⟩) (hk_prxV hE hH (va_recv hE.1 hP (ci := 2) (q0 := 0) rfl rfl) ⟨rfl, hP, hDG⟩) rfl rfl hl.1 rfl (lv_room (Nat.le_of_ble_eq_true rfl)) dL_result_4 ⟨Nat.le_of_ble_eq_true rfl, Nat.le_of_ble_eq_true rfl⟩) rfl hP hD hS hA (fun E ce q9 H locs ho hP hS hce hcv hcl => ?_) (fun d9 H locs hz hP hD hS => ?_)
  · obtain ⟨k, hk, hz⟩ := ho
    have hg9 : (opResult g x y z).2.2 = g := rf_opResult (by rw [hz]; exact nI_ne0 (by omega) (by
        have h9 : k < 3 := (List.getElem?_eq_some_iff.mp hk).1
        omega))
    rcases k with _ | _ | _ | k
    · obtain rfl : E = "java/lang/IndexOutOfBoundsException" := (Option.some.inj hk).symm
      refine vx_catch hown [] ⟨0, 8, 9, 23⟩ [⟨0, 8, 15, 27⟩, ⟨0, 8, 21, 15⟩] (htab.trans rfl) (fun z hz => absurd hz List.not_mem_nil) (by decide) (by decide) (hts (.classLink RL 23 "java/lang/IndexOutOfBoundsException") (by decide +kernel)) (hE.use hkN_c1) hce hcv hcl ?_
      refine lv_astore (lv' := [(4, .ref q9), (0, .ref (b 0)), (1, .int x), (2, .int y), (3, .int z)]) hx hb dL_result_9 hl (by decide) rfl (fun ls hl => ?_)
      refine hk_ldc2 (v := (-9000000000000000001)) hx hb hown (hts (.constantLong RL 25 (-9000000000000000001)) (by decide +kernel)) dL_result_11 ?_
      have hP9 : va_P D vwCl (hkW ct b d (opResult g x y z).2.2) H := by rw [hg9]; exact hP
      have hD9 : va_D A (hkW ct b d (opResult g x y z).2.2) := by rw [hg9]; exact hD
      exact W.lret (v := (-9000000000000000001)) hx hb hr (fun t ht hW => ⟨by rw [lw, hz]; rfl, ⟨d, by rw [ht]; exact hP9, hD9⟩, hS.F ht⟩) hS.2.2 dL_result_14
    · obtain rfl : E = "java/lang/IllegalArgumentException" := (Option.some.inj hk).symm
      refine vx_catch hown [⟨0, 8, 9, 23⟩] ⟨0, 8, 15, 27⟩ [⟨0, 8, 21, 15⟩] (htab.trans rfl) (fun z hz => by
        obtain rfl := List.mem_singleton.mp hz
        exact Or.inr ⟨by decide, "java/lang/IndexOutOfBoundsException", (hts (.classLink RL 23 "java/lang/IndexOutOfBoundsException") (by decide +kernel)), hE.2.2.2.1 _ (List.mem_of_getElem? (i := 5) rfl)⟩) (by decide) (by decide) (hts (.classLink RL 27 "java/lang/IllegalArgumentException") (by decide +kernel)) (hE.use hkN_c2) hce hcv hcl ?_
      refine lv_astore (lv' := [(4, .ref q9), (0, .ref (b 0)), (1, .int x), (2, .int y), (3, .int z)]) hx hb dL_result_15 hl (by decide) rfl (fun ls hl => ?_)
      refine hk_ldc2 (v := (-9000000000000000002)) hx hb hown (hts (.constantLong RL 29 (-9000000000000000002)) (by decide +kernel)) dL_result_17 ?_
      have hP9 : va_P D vwCl (hkW ct b d (opResult g x y z).2.2) H := by rw [hg9]; exact hP
      have hD9 : va_D A (hkW ct b d (opResult g x y z).2.2) := by rw [hg9]; exact hD
      exact W.lret (v := (-9000000000000000002)) hx hb hr (fun t ht hW => ⟨by rw [lw, hz]; rfl, ⟨d, by rw [ht]; exact hP9, hD9⟩, hS.F ht⟩) hS.2.2 dL_result_20
    · obtain rfl : E = "java/lang/IllegalStateException" := (Option.some.inj hk).symm
      refine vx_catch hown [⟨0, 8, 9, 23⟩, ⟨0, 8, 15, 27⟩] ⟨0, 8, 21, 15⟩ [] (htab.trans rfl) (fun z hz => by
        rcases List.mem_cons.mp hz with rfl | hz
        · exact Or.inr ⟨by decide, "java/lang/IndexOutOfBoundsException", (hts (.classLink RL 23 "java/lang/IndexOutOfBoundsException") (by decide +kernel)), hE.2.2.2.1 _ (List.mem_of_getElem? (i := 0) rfl)⟩
        · obtain rfl := List.mem_singleton.mp hz
          exact Or.inr ⟨by decide, "java/lang/IllegalArgumentException", (hts (.classLink RL 27 "java/lang/IllegalArgumentException") (by decide +kernel)), hE.2.2.2.1 _ (List.mem_of_getElem? (i := 1) rfl)⟩) (by decide) (by decide) (hts (.classLink RL 15 "java/lang/IllegalStateException") (by decide +kernel)) (hE.use hkN_c0) hce hcv hcl ?_
      refine lv_astore (lv' := [(4, .ref q9), (0, .ref (b 0)), (1, .int x), (2, .int y), (3, .int z)]) hx hb dL_result_21 hl (by decide) rfl (fun ls hl => ?_)
      refine hk_ldc2 (v := (-9000000000000000003)) hx hb hown (hts (.constantLong RL 17 (-9000000000000000003)) (by decide +kernel)) dL_result_23 ?_
      have hP9 : va_P D vwCl (hkW ct b d (opResult g x y z).2.2) H := by rw [hg9]; exact hP
      have hD9 : va_D A (hkW ct b d (opResult g x y z).2.2) := by rw [hg9]; exact hD
      exact W.lret (v := (-9000000000000000003)) hx hb hr (fun t ht hW => ⟨by rw [lw, hz]; rfl, ⟨d, by rw [ht]; exact hP9, hD9⟩, hS.F ht⟩) hS.2.2 dL_result_26
    · exact nomatch hk
  · skip
    have hP : va_P D vwCl (hkW ct b d9 (opResult g x y z).2.2) H := hP
    have hD : va_D A (hkW ct b d9 (opResult g x y z).2.2) := hD
    refine lv_i2l hx hb dL_result_7 rfl ?_
    have hP9 : va_P D vwCl (hkW ct b d9 (opResult g x y z).2.2) H := hP
    have hD9 : va_D A (hkW ct b d9 (opResult g x y z).2.2) := hD
    exact W.lret (v := ((opResult g x y z).2.1).toInt64) hx hb hr (fun t ht hW => ⟨by rw [lw, if_pos hz], ⟨d9, by rw [ht]; exact hP9, hD9⟩, hS.F ht⟩) hS.2.2 dL_result_8

set_option maxHeartbeats 4000000 in
set_option maxRecDepth 100000 in
theorem c_L_of (l : Launch) (hfl : l.flags = flags0) (D : va_G) (ct : Nat → ClassId) (sa : Nat → Nat) (G0 sz : Nat) (b : Nat → Nat) (d : Ad) (g : Sg) (x : Int32) (y : Int32) (z : Int32) (hI : Inv g) : Met l yL_of wsL_of ({ frames := 8, cells := 3, slots := 18, locals := 129 }) (hkPx D ct sa G0 [.ref (b 0), .int x, .int y, .int z] (hkZP D ct b d g G0 sz)) (hkZQ D ct b (va_A (hkW ct b d g) sz) (.long (lw [(-9000000000000000001), (-9000000000000000002)] (opOf g x y z))) (opOf g x y z).2.2) 3 18 (va_A (hkW ct b d g) sz) := by
  refine hk_ofWH (cc := cL_of) (maxL := 5) (ret := (some .long)) (by decide) rfl ?_
  intro p e s m args below meth c s₁ B hml hv
  obtain ⟨rfl, hE, hH, hp⟩ := hv
  have hx := B.exec
  have hb := B.bytes
  have hr := B.returns
  have hts := atoms_spec (ws := wsL_of) B.pre
  have hown : s.vm.findClass RL = some m.cls := findClass_of_methodNamed B.named
  have hlocks := B.notSynchronized
  have htab := vx_table (x := yX2_at) B (hts (.codeWith yL_of cL_of 5 (some .long) [(0, 8, 9, 23), (0, 8, 15, 27)]) (List.mem_of_getElem? (i := 0) rfl))
  obtain ⟨hsz, hP, hDG⟩ := hp
  subst hsz
  have hD := hDG.self (sz := s.heap.size)
  generalize hAe : va_A (hkW ct b d g) s.heap.size = A at hD ⊢
  have hA : ∀ q : Nat, s.heap.size ≤ q → A q := fun q h => by rw [← hAe]; exact Or.inr h
  have hS : va_S A s.heap s.heap [] := va_S.rf
  have hl := lv_entry ([.ref (b 0), .int x, .int y, .int z]) (n := 5) (Nat.le_of_ble_eq_true rfl)
  rw [lg_entry_eq]
  generalize (lg_sl ([.ref (b 0), .int x, .int y, .int z]) ++ List.replicate (5 - (lg_sl ([.ref (b 0), .int x, .int y, .int z])).length) Slot.unset).toArray = ls at hl ⊢
  have hl : lv_has ls 5 [(0, .ref (b 0)), (1, .int x), (2, .int y), (3, .int z)] := hl
  refine lv_aload_n hx hb dL_of_0 rfl (lv_at hl 0 rfl) ?_
  refine lv_iload_n hx hb dL_of_1 rfl (lv_at hl 1 rfl) ?_
  refine lv_iload_n hx hb dL_of_2 rfl (lv_at hl 2 rfl) ?_
  refine lv_iload_n hx hb dL_of_3 rfl (lv_at hl 3 rfl) ?_
  refine hk_L (wr := []) (z := (opOf g x y z)) (rest := []) (vx_runV (As := [.int x, .int y, .int z]) (rest := []) ⟨hx, hb, hml, hown, hts⟩ (c_X2_of l hfl D ct sa G0 s.heap.size b d g x y z hI) (cwV 3 hts gL_of_X2_of rfl rfl rfl (by decide +kernel) ⟨Nat.le_of_ble_eq_true rfl, Nat.le_of_ble_eq_true rfl⟩) (hk_prxV hE hH (va_recv hE.1 hP (ci := 2) (q0 := 0) rfl rfl) ⟨rfl, hP, hDG⟩) rfl rfl hl.1 rfl (lv_room (Nat.le_of_ble_eq_true rfl)) dL_of_4 ⟨Nat.le_of_ble_eq_true rfl, Nat.le_of_ble_eq_true rfl⟩) rfl hP hD hS hA (fun E ce q9 H locs ho hP hS hce hcv hcl => ?_) (fun d9 H locs hz hP hD hS => ?_)
  · obtain ⟨k, hk, hz⟩ := ho
    have hg9 : (opOf g x y z).2.2 = g := rf_opOf (by rw [hz]; exact nI_ne0 (by omega) (by
        have h9 : k < 2 := (List.getElem?_eq_some_iff.mp hk).1
        omega))
    rcases k with _ | _ | k
    · obtain rfl : E = "java/lang/IndexOutOfBoundsException" := (Option.some.inj hk).symm
      refine vx_catch hown [] ⟨0, 8, 9, 23⟩ [⟨0, 8, 15, 27⟩] (htab.trans rfl) (fun z hz => absurd hz List.not_mem_nil) (by decide) (by decide) (hts (.classLink RL 23 "java/lang/IndexOutOfBoundsException") (by decide +kernel)) (hE.use hkN_c1) hce hcv hcl ?_
      refine lv_astore (lv' := [(4, .ref q9), (0, .ref (b 0)), (1, .int x), (2, .int y), (3, .int z)]) hx hb dL_of_9 hl (by decide) rfl (fun ls hl => ?_)
      refine hk_ldc2 (v := (-9000000000000000001)) hx hb hown (hts (.constantLong RL 25 (-9000000000000000001)) (by decide +kernel)) dL_of_11 ?_
      have hP9 : va_P D vwCl (hkW ct b d (opOf g x y z).2.2) H := by rw [hg9]; exact hP
      have hD9 : va_D A (hkW ct b d (opOf g x y z).2.2) := by rw [hg9]; exact hD
      exact W.lret (v := (-9000000000000000001)) hx hb hr (fun t ht hW => ⟨by rw [lw, hz]; rfl, ⟨d, by rw [ht]; exact hP9, hD9⟩, hS.F ht⟩) hS.2.2 dL_of_14
    · obtain rfl : E = "java/lang/IllegalArgumentException" := (Option.some.inj hk).symm
      refine vx_catch hown [⟨0, 8, 9, 23⟩] ⟨0, 8, 15, 27⟩ [] (htab.trans rfl) (fun z hz => by
        obtain rfl := List.mem_singleton.mp hz
        exact Or.inr ⟨by decide, "java/lang/IndexOutOfBoundsException", (hts (.classLink RL 23 "java/lang/IndexOutOfBoundsException") (by decide +kernel)), hE.2.2.2.1 _ (List.mem_of_getElem? (i := 5) rfl)⟩) (by decide) (by decide) (hts (.classLink RL 27 "java/lang/IllegalArgumentException") (by decide +kernel)) (hE.use hkN_c2) hce hcv hcl ?_
      refine lv_astore (lv' := [(4, .ref q9), (0, .ref (b 0)), (1, .int x), (2, .int y), (3, .int z)]) hx hb dL_of_15 hl (by decide) rfl (fun ls hl => ?_)
      refine hk_ldc2 (v := (-9000000000000000002)) hx hb hown (hts (.constantLong RL 29 (-9000000000000000002)) (by decide +kernel)) dL_of_17 ?_
      have hP9 : va_P D vwCl (hkW ct b d (opOf g x y z).2.2) H := by rw [hg9]; exact hP
      have hD9 : va_D A (hkW ct b d (opOf g x y z).2.2) := by rw [hg9]; exact hD
      exact W.lret (v := (-9000000000000000002)) hx hb hr (fun t ht hW => ⟨by rw [lw, hz]; rfl, ⟨d, by rw [ht]; exact hP9, hD9⟩, hS.F ht⟩) hS.2.2 dL_of_20
    · exact nomatch hk
  · skip
    have hP : va_P D vwCl (hkW ct b d9 (opOf g x y z).2.2) H := hP
    have hD : va_D A (hkW ct b d9 (opOf g x y z).2.2) := hD
    refine lv_i2l hx hb dL_of_7 rfl ?_
    have hP9 : va_P D vwCl (hkW ct b d9 (opOf g x y z).2.2) H := hP
    have hD9 : va_D A (hkW ct b d9 (opOf g x y z).2.2) := hD
    exact W.lret (v := ((opOf g x y z).2.1).toInt64) hx hb hr (fun t ht hW => ⟨by rw [lw, if_pos hz], ⟨d9, by rw [ht]; exact hP9, hD9⟩, hS.F ht⟩) hS.2.2 dL_of_8

set_option maxHeartbeats 4000000 in
set_option maxRecDepth 100000 in
theorem c_L_ranked (l : Launch) (hfl : l.flags = flags0) (D : va_G) (ct : Nat → ClassId) (sa : Nat → Nat) (G0 sz : Nat) (b : Nat → Nat) (d : Ad) (g : Sg) (x : Int32) (y : Int32) (hI : Inv g) : Met l yL_ranked wsL_ranked ({ frames := 8, cells := 2, slots := 12, locals := 127 }) (hkPx D ct sa G0 [.ref (b 0), .int x, .int y] (hkZP D ct b d g G0 sz)) (hkZQ D ct b (va_A (hkW ct b d g) sz) (.long (lw [(-9000000000000000001)] (opRanked g x y))) (opRanked g x y).2.2) 2 12 (va_A (hkW ct b d g) sz) := by
  refine hk_ofWH (cc := cL_ranked) (maxL := 4) (ret := (some .long)) (by decide) rfl ?_
  intro p e s m args below meth c s₁ B hml hv
  obtain ⟨rfl, hE, hH, hp⟩ := hv
  have hx := B.exec
  have hb := B.bytes
  have hr := B.returns
  have hts := atoms_spec (ws := wsL_ranked) B.pre
  have hown : s.vm.findClass RL = some m.cls := findClass_of_methodNamed B.named
  have hlocks := B.notSynchronized
  have htab := vx_table (x := yX2_at) B (hts (.codeWith yL_ranked cL_ranked 4 (some .long) [(0, 7, 8, 23)]) (List.mem_of_getElem? (i := 0) rfl))
  obtain ⟨hsz, hP, hDG⟩ := hp
  subst hsz
  have hD := hDG.self (sz := s.heap.size)
  generalize hAe : va_A (hkW ct b d g) s.heap.size = A at hD ⊢
  have hA : ∀ q : Nat, s.heap.size ≤ q → A q := fun q h => by rw [← hAe]; exact Or.inr h
  have hS : va_S A s.heap s.heap [] := va_S.rf
  have hl := lv_entry ([.ref (b 0), .int x, .int y]) (n := 4) (Nat.le_of_ble_eq_true rfl)
  rw [lg_entry_eq]
  generalize (lg_sl ([.ref (b 0), .int x, .int y]) ++ List.replicate (4 - (lg_sl ([.ref (b 0), .int x, .int y])).length) Slot.unset).toArray = ls at hl ⊢
  have hl : lv_has ls 4 [(0, .ref (b 0)), (1, .int x), (2, .int y)] := hl
  refine lv_aload_n hx hb dL_ranked_0 rfl (lv_at hl 0 rfl) ?_
  refine lv_iload_n hx hb dL_ranked_1 rfl (lv_at hl 1 rfl) ?_
  refine lv_iload_n hx hb dL_ranked_2 rfl (lv_at hl 2 rfl) ?_
  refine hk_L (wr := []) (z := (opRanked g x y)) (rest := []) (vx_runV (As := [.int x, .int y]) (rest := []) ⟨hx, hb, hml, hown, hts⟩ (c_X2_ranked l hfl D ct sa G0 s.heap.size b d g x y hI) (cwV 2 hts gL_ranked_X2_ranked rfl rfl rfl (by decide +kernel) ⟨Nat.le_of_ble_eq_true rfl, Nat.le_of_ble_eq_true rfl⟩) (hk_prxV hE hH (va_recv hE.1 hP (ci := 2) (q0 := 0) rfl rfl) ⟨rfl, hP, hDG⟩) rfl rfl hl.1 rfl (lv_room (Nat.le_of_ble_eq_true rfl)) dL_ranked_3 ⟨Nat.le_of_ble_eq_true rfl, Nat.le_of_ble_eq_true rfl⟩) rfl hP hD hS hA (fun E ce q9 H locs ho hP hS hce hcv hcl => ?_) (fun d9 H locs hz hP hD hS => ?_)
  · obtain ⟨k, hk, hz⟩ := ho
    have hg9 : (opRanked g x y).2.2 = g := rf_opRanked (by rw [hz]; exact nI_ne0 (by omega) (by
        have h9 : k < 1 := (List.getElem?_eq_some_iff.mp hk).1
        omega))
    rcases k with _ | k
    · obtain rfl : E = "java/lang/IndexOutOfBoundsException" := (Option.some.inj hk).symm
      refine vx_catch hown [] ⟨0, 7, 8, 23⟩ [] (htab.trans rfl) (fun z hz => absurd hz List.not_mem_nil) (by decide) (by decide) (hts (.classLink RL 23 "java/lang/IndexOutOfBoundsException") (by decide +kernel)) (hE.use hkN_c1) hce hcv hcl ?_
      refine lv_astore_n (lv' := [(3, .ref q9), (0, .ref (b 0)), (1, .int x), (2, .int y)]) hx hb dL_ranked_8 rfl hl (by decide) rfl (fun ls hl => ?_)
      refine hk_ldc2 (v := (-9000000000000000001)) hx hb hown (hts (.constantLong RL 25 (-9000000000000000001)) (by decide +kernel)) dL_ranked_9 ?_
      have hP9 : va_P D vwCl (hkW ct b d (opRanked g x y).2.2) H := by rw [hg9]; exact hP
      have hD9 : va_D A (hkW ct b d (opRanked g x y).2.2) := by rw [hg9]; exact hD
      exact W.lret (v := (-9000000000000000001)) hx hb hr (fun t ht hW => ⟨by rw [lw, hz]; rfl, ⟨d, by rw [ht]; exact hP9, hD9⟩, hS.F ht⟩) hS.2.2 dL_ranked_12
    · exact nomatch hk
  · skip
    have hP : va_P D vwCl (hkW ct b d9 (opRanked g x y).2.2) H := hP
    have hD : va_D A (hkW ct b d9 (opRanked g x y).2.2) := hD
    refine lv_i2l hx hb dL_ranked_6 rfl ?_
    have hP9 : va_P D vwCl (hkW ct b d9 (opRanked g x y).2.2) H := hP
    have hD9 : va_D A (hkW ct b d9 (opRanked g x y).2.2) := hD
    exact W.lret (v := ((opRanked g x y).2.1).toInt64) hx hb hr (fun t ht hW => ⟨by rw [lw, if_pos hz], ⟨d9, by rw [ht]; exact hP9, hD9⟩, hS.F ht⟩) hS.2.2 dL_ranked_7
