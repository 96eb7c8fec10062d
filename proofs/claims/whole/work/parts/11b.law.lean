/-! the law's calls -/
def hkLW (ct : Nat → ClassId) (b : Nat → Nat) (d : Ad) (g : Sg) (o : Nat) (f : Nat → Int64) : va_W := (o, .inl (ct 3, 1, .inr (.inl f))) :: hkW ct b d g
def hkLP (D : va_G) (ct : Nat → ClassId) (b : Nat → Nat) (d : Ad) (g : Sg) (o : Nat) (f : Nat → Int64) (G0 sz : Nat) : Heap → Prop := fun H => H.size = sz ∧ va_P D vwCl (hkLW ct b d g o f) H ∧ va_D (fun q => G0 ≤ q) (hkLW ct b d g o f)
def hkLQ (D : va_G) (ct : Nat → ClassId) (b : Nat → Nat) (o : Nat) (A : Nat → Prop) (z : Op) : Array Value → State → Outcome → State → Prop := fun _ st x t =>
  x = .returned (some (.int z.1)) ∧ (∃ (d : Ad) (f : Nat → Int64), va_P D vwCl (hkLW ct b d z.2.2 o f) t.heap ∧ va_D A (hkLW ct b d z.2.2 o f) ∧ (z.1 = 0 → f 0 = z.2.1.toInt64)) ∧ va_F A st t
theorem hk_ofWH {l : Launch} {y : MethodName} {ws ws' : List Cond} {rm : Room} {Pc : Array Value → State → Prop} {Qc : Array Value → State → Outcome → State → Prop} {mc ms : Nat} {free : Addr → Prop} {cc : ByteArray} {maxL : Nat} {ret : Option FieldType} {hh : List (Nat × Nat × Nat × Nat)}
    (hy : plainName y.cls = true) (hw : ws = Cond.codeWith y cc maxL ret hh :: ws')
    (body : ∀ p e s m args below meth c s₁, BodyLoose p l y (headSpec ws rm) cc maxL ret e s m args below meth c s₁ → c.maxLocals = maxL → Pc args s →
      W p l e (headSpec ws rm).room s m args below meth c s.heap [] 0 0 (MQ below Qc args s mc ms free) (entryFrame m args maxL)) : Met l y ws rm Pc Qc mc ms free := by
  refine MetFree.of_bodyS (code := cc) (maxLocals := maxL) (ret := ret) hy ?_ ?_
  · intro args s m h hn
    obtain ⟨m9, meth, c, hn9, h1, h2, h3, h4, -, h5, h6, -⟩ := Cond.codeWith_spec (atoms_spec (ws := ws) h _ (by rw [hw]; exact List.mem_cons_self))
    cases hn.symm.trans hn9
    exact ⟨meth, c, h1, h2, h3, h4, h5, h6⟩
  · intro p e s m args below meth c s₁ B hml hP _
    have hh0 : s₁.heap = s.heap := by rw [B.state]; rfl
    obtain ⟨t, a1, o, b1, b2, b3⟩ := body p e s m args below meth c s₁ B hml hP s₁ hh0 (Stand.of_body B)
    exact ⟨t, o, a1, b1, b2, b3⟩
section HKL
variable {p : Program} {l : Launch} {e : Env} {R : Room} {s : State} {m : MethodId} {args : Array Value} {below : List Frame} {meth : Method} {c : Code} {H : Heap} {locs : List Loc} {cells slots : Nat} {Q : State → Prop}
variable {cc : ByteArray} {pc : Nat} {ls : Array Slot} {rest st0 : List Value} {D : va_G} {ct : Nat → ClassId} {sa : Nat → Nat} {ws : va_W} {A : Nat → Prop} {H0 : Heap} {a : Nat}
theorem hk_lst (hx : p.tables.exec = Jvm.exec) (hb : c.code = cc) (hE : hkE D ct sa s) (hP : va_P D vwCl ws H) (hD : va_D A ws) (hS : va_S A H0 H locs) (q0 : Nat) {n : Nat} {f : Nat → Int64} (ha : ws[q0]? = some (a, .inl (ct 3, n, .inr (.inl f)))) {j : Nat} {x : Int64} (hj : j < n) (hn : n < 2 ^ 31) (hdg : decode cc pc = .ok (.lastore, 1))
    (kk : ∀ (H1 : Heap) (locs1 : List Loc), va_P D vwCl (ws.set q0 (a, .inl (ct 3, n, .inr (.inl (vp_updL f j x))))) H1 → va_D A (ws.set q0 (a, .inl (ct 3, n, .inr (.inl (vp_updL f j x))))) → va_S A H0 H1 locs1 → W p l e R s m args below meth c H1 locs1 cells slots Q (F0 m (pc + 1) ls rest)) : W p l e R s m args below meth c H locs cells slots Q (F0 m pc ls (.long x :: .int (nI j) :: .ref a :: rest)) :=
  va_last hx hb hE.1 hP hD hS q0 3 ha rfl (vp_in_nI hj hn) hdg (by rw [nI_clamp (by omega)]; exact kk)
theorem hk_lld (hx : p.tables.exec = Jvm.exec) (hb : c.code = cc) (hE : hkE D ct sa s) (hP : va_P D vwCl ws H) (q0 : Nat) {n : Nat} {f : Nat → Int64} (ha : ws[q0]? = some (a, .inl (ct 3, n, .inr (.inl f)))) {j : Nat} (hj : j < n) (hn : n < 2 ^ 31) (hdg : decode cc pc = .ok (.laload, 1))
    (kk : W p l e R s m args below meth c H locs cells slots Q (F0 m (pc + 1) ls (.long (f j) :: rest))) : W p l e R s m args below meth c H locs cells slots Q (F0 m pc ls (.int (nI j) :: .ref a :: rest)) :=
  va_lald hx hb hE.1 hP q0 3 ha rfl (vp_in_nI hj hn) hdg (by rw [nI_clamp (by omega)]; exact kk)
/-- a call of the face that may throw: what lies on both ways -/
theorem hk_L {b : Nat → Nat} {d : Ad} {g : Sg} {z : Op} {ok : String → Prop} {sz mc ms : Nat} {aa : Array Value} {wr : va_W} (hr : vx_Run p l e R s m args below meth c H locs cells slots mc ms (F0 m pc ls st0) rest (hkFQ D ct b (va_A (hkW ct b d g) sz) z aa) (hkXC ok) (va_A (hkW ct b d g) sz)) (hsz : H.size = sz) (hP : va_P D vwCl (wr ++ hkW ct b d g) H) (hD : va_D A (wr ++ hkW ct b d g)) (hS : va_S A H0 H locs) (hA : ∀ q, H0.size ≤ q → A q)
    (kx : ∀ (E : String) (ce : Cell) (q9 : Addr) (H1 : Heap) (locs1 : List Loc), ok E → va_P D vwCl (wr ++ hkW ct b d g) H1 → va_S A H0 H1 locs1 → H1[q9]? = some ce → ce.vm = .none → s.vm.findClass E = some ce.cls → vx_W p l e R s m args below meth c H1 locs1 (cells + mc) (slots + ms) Q (F0 m pc ls rest) q9)
    (kk : ∀ (d' : Ad) (H1 : Heap) (locs1 : List Loc), z.1 = 0 → va_P D vwCl (wr ++ hkW ct b d' z.2.2) H1 → va_D A (wr ++ hkW ct b d' z.2.2) → va_S A H0 H1 locs1 → W p l e R s m args below meth c H1 locs1 (cells + mc) (slots + ms) Q (F0 m (pc + 3) ls (.int z.2.1 :: rest))) : W p l e R s m args below meth c H locs cells slots Q (F0 m pc ls st0) := by
  subst hsz
  have hF := hk_free hD hS hA
  intro T hT X
  rcases hr T hT X with ⟨v', st₀, t, T', L, h0, X', hL, e1, e2, ⟨hv, hz0, ⟨d', hP1, hD1⟩, hF9⟩, st⟩ | ⟨q, st₀, t, T', L, E, ce, h0, X', hL, e1, e2, ⟨ho, hF9⟩, hce, hcv, hcl, st⟩
  · cases hv
    obtain ⟨hz1, hk1, hS1⟩ := vx_keep h0 e1 hS (fun q _ h => hF q h) hF hL hF9
    rw [← e1] at hP1
    obtain ⟨j1, j2⟩ := hk_split hP hD hk1 hF hP1 hD1
    obtain ⟨t2, a1, b1⟩ := kk d' T'.heap (locs ++ L) hz0 j1 j2 hS1 T' rfl X'
    exact ⟨t2, st t2 a1, b1⟩
  · have hF8 : va_F (va_A (hkW ct b d g) H.size) st₀ t := ⟨hF9.1, fun q h1 _ => hF9.2 q h1 (by simp)⟩
    obtain ⟨hz1, hk1, hS1⟩ := vx_keep h0 e1 hS (fun q _ h => hF q h) hF hL hF8
    obtain ⟨t2, a1, b1⟩ := kx E ce q T'.heap (locs ++ L) ho (fun k x hx9 => (hP k x hx9).kept (by rw [e1, ← h0]; exact hF9.2 x.1 (by rw [h0]; exact (hP k x hx9).lt) (by simp))) hS1 (by rw [e1]; exact hce) hcv hcl T' rfl X'
    exact ⟨t2, st.trans a1, b1⟩
end HKL
theorem pr_01 (g : Sg) (x y z : Int32) (h : ¬ (opPress g x y z).2.1 = 0) : (opPress g x y z).2.1 = 1 := by
  revert h
  unfold opPress
  split
  · intro h; exact absurd rfl h
  · show ¬ tpR _ _ _ = 0 → tpR _ _ _ = 1
    unfold tpR
    split
    · intro h; exact absurd rfl h
    · intro _; rfl
set_option maxHeartbeats 4000000 in
set_option maxRecDepth 100000 in
theorem c_L_student (l : Launch) (hfl : l.flags = flags0) (D : va_G) (ct : Nat → ClassId) (sa : Nat → Nat) (G0 sz : Nat) (b : Nat → Nat) (d : Ad) (g : Sg) (o : Nat) (f : Nat → Int64)  (hI : Inv g) : Met l yL_student wsL_student ({ frames := 7, cells := 6, slots := 218, locals := 103 }) (hkPx D ct sa G0 [.ref (b 0), .ref o] (hkLP D ct b d g o f G0 sz)) (hkLQ D ct b o (va_A (hkLW ct b d g o f) sz) (opStudent g)) 6 218 (va_A (hkLW ct b d g o f) sz) := by
  refine hk_ofWH (cc := cL_student) (maxL := 3) (ret := (some .int)) (by decide) rfl ?_
  intro p e s m args below meth c s₁ B hml hv
  obtain ⟨rfl, hE, hH, hp⟩ := hv
  have hx := B.exec
  have hb := B.bytes
  have hr := B.returns
  have hts := atoms_spec (ws := wsL_student) B.pre
  have hown : s.vm.findClass RL = some m.cls := findClass_of_methodNamed B.named
  have hlocks := B.notSynchronized
  have htab := vx_table (x := yX2_at) B (hts (.codeWith yL_student cL_student 3 (some .int) [(0, 8, 11, 13)]) (List.mem_of_getElem? (i := 0) rfl))
  obtain ⟨hsz, hP, hDG⟩ := hp
  subst hsz
  have hD := hDG.self (sz := s.heap.size)
  generalize hAe : va_A (hkLW ct b d g o f) s.heap.size = A at hD ⊢
  have hA : ∀ q : Nat, s.heap.size ≤ q → A q := fun q h => by rw [← hAe]; exact Or.inr h
  have hS : va_S A s.heap s.heap [] := va_S.rf
  have hl := lv_entry ([.ref (b 0), .ref o]) (n := 3) (Nat.le_of_ble_eq_true rfl)
  rw [lg_entry_eq]
  generalize (lg_sl ([.ref (b 0), .ref o]) ++ List.replicate (3 - (lg_sl ([.ref (b 0), .ref o])).length) Slot.unset).toArray = ls at hl ⊢
  have hl : lv_has ls 3 [(0, .ref (b 0)), (1, .ref o)] := hl
  refine lv_aload_n hx hb dL_student_0 rfl (lv_at hl 1 rfl) ?_
  refine lv_iconst (v := nI 0) hx hb dL_student_1 (by decide) ?_
  refine lv_aload_n hx hb dL_student_2 rfl (lv_at hl 0 rfl) ?_
  refine hk_L (wr := [(o, .inl (ct 3, 1, .inr (.inl f)))]) (z := (opStudent g)) (rest := [.int (nI 0), .ref o]) (vx_runV (As := []) (rest := [.int (nI 0), .ref o]) ⟨hx, hb, hml, hown, hts⟩ (c_X2_student l hfl D ct sa G0 s.heap.size b d g  hI) (cwV 0 hts gL_student_X2_student rfl rfl rfl (by decide +kernel) ⟨Nat.le_of_ble_eq_true rfl, Nat.le_of_ble_eq_true rfl⟩) (hk_prxV hE hH (va_recv hE.1 (hP.right (w1 := [(o, .inl (ct 3, 1, .inr (.inl f)))])) (ci := 2) (q0 := 0) rfl rfl) ⟨rfl, hP.right (w1 := [(o, .inl (ct 3, 1, .inr (.inl f)))]), hDG.right (w1 := [(o, .inl (ct 3, 1, .inr (.inl f)))])⟩) rfl rfl hl.1 rfl (lv_room (Nat.le_of_ble_eq_true rfl)) dL_student_3 ⟨Nat.le_of_ble_eq_true rfl, Nat.le_of_ble_eq_true rfl⟩) rfl hP hD hS hA (fun E ce q9 H locs ho hP hS hce hcv hcl => ?_) (fun d9 H locs hz hP hD hS => ?_)
  · obtain ⟨k, hk, hz⟩ := ho
    have hg9 : (opStudent g).2.2 = g := rf_opStudent (by rw [hz]; exact nI_ne0 (by omega) (by
        have h9 : k < 1 := (List.getElem?_eq_some_iff.mp hk).1
        omega))
    rcases k with _ | k
    · obtain rfl : E = "java/lang/IllegalStateException" := (Option.some.inj hk).symm
      refine vx_catch hown [] ⟨0, 8, 11, 13⟩ [] (htab.trans rfl) (fun z hz => absurd hz List.not_mem_nil) (by decide) (by decide) (hts (.classLink RL 13 "java/lang/IllegalStateException") (by decide +kernel)) (hE.use hkN_c0) hce hcv hcl ?_
      refine lv_astore_n (lv' := [(2, .ref q9), (0, .ref (b 0)), (1, .ref o)]) hx hb dL_student_11 rfl hl (by decide) rfl (fun ls hl => ?_)
      refine lv_iconst (v := nI 1) hx hb dL_student_12 (by decide) ?_
      have hP9 : va_P D vwCl (hkLW ct b d (opStudent g).2.2 o f) H := by rw [hg9]; exact hP
      have hD9 : va_D A (hkLW ct b d (opStudent g).2.2 o f) := by rw [hg9]; exact hD
      exact W.iret (v := nI 1) hx hb hr (fun t ht hW => ⟨by rw [hz], ⟨d, f, by rw [ht]; exact hP9, hD9, fun q => absurd (hz.symm.trans q) (by decide)⟩, hS.F ht⟩) hS.2.2 dL_student_13
    · exact nomatch hk
  · skip
    have hP : va_P D vwCl ((o, .inl (ct 3, 1, .inr (.inl f))) :: hkW ct b d9 (opStudent g).2.2) H := hP
    have hD : va_D A ((o, .inl (ct 3, 1, .inr (.inl f))) :: hkW ct b d9 (opStudent g).2.2) := hD
    refine lv_i2l hx hb dL_student_6 rfl ?_
    refine hk_lst hx hb hE hP hD hS 0 rfl (j := 0) (x := ((opStudent g).2.1).toInt64) (by omega) (by omega) dL_student_7 (fun H locs hP hD hS => ?_)
    have hP : va_P D vwCl ((o, .inl (ct 3, 1, .inr (.inl (vp_updL f 0 (((opStudent g).2.1).toInt64))))) :: hkW ct b d9 (opStudent g).2.2) H := hP
    have hD : va_D A ((o, .inl (ct 3, 1, .inr (.inl (vp_updL f 0 (((opStudent g).2.1).toInt64))))) :: hkW ct b d9 (opStudent g).2.2) := hD
    refine lv_goto (tgt := 14) hx hb dL_student_8 (by decide) ?_
    refine lv_iconst (v := nI 0) hx hb dL_student_14 (by decide) ?_
    have hP9 : va_P D vwCl (hkLW ct b d9 (opStudent g).2.2 o (vp_updL f 0 (((opStudent g).2.1).toInt64))) H := hP
    have hD9 : va_D A (hkLW ct b d9 (opStudent g).2.2 o (vp_updL f 0 (((opStudent g).2.1).toInt64))) := hD
    exact W.iret (v := nI 0) hx hb hr (fun t ht hW => ⟨by rw [hz]; rfl, ⟨d9, (vp_updL f 0 (((opStudent g).2.1).toInt64)), by rw [ht]; exact hP9, hD9, fun _ => rfl⟩, hS.F ht⟩) hS.2.2 dL_student_15

set_option maxHeartbeats 4000000 in
set_option maxRecDepth 100000 in
theorem c_L_carry (l : Launch) (hfl : l.flags = flags0) (D : va_G) (ct : Nat → ClassId) (sa : Nat → Nat) (G0 sz : Nat) (b : Nat → Nat) (d : Ad) (g : Sg) (o : Nat) (f : Nat → Int64) (x : Int32) (y : Int32) (hI : Inv g) : Met l yL_carry wsL_carry ({ frames := 8, cells := 2, slots := 12, locals := 128 }) (hkPx D ct sa G0 [.ref (b 0), .int x, .int y, .ref o] (hkLP D ct b d g o f G0 sz)) (hkLQ D ct b o (va_A (hkLW ct b d g o f) sz) (opCarry g x y)) 2 12 (va_A (hkLW ct b d g o f) sz) := by
  refine hk_ofWH (cc := cL_carry) (maxL := 5) (ret := (some .int)) (by decide) rfl ?_
  intro p e s m args below meth c s₁ B hml hv
  obtain ⟨rfl, hE, hH, hp⟩ := hv
  have hx := B.exec
  have hb := B.bytes
  have hr := B.returns
  have hts := atoms_spec (ws := wsL_carry) B.pre
  have hown : s.vm.findClass RL = some m.cls := findClass_of_methodNamed B.named
  have hlocks := B.notSynchronized
  have htab := vx_table (x := yX2_at) B (hts (.codeWith yL_carry cL_carry 5 (some .int) [(0, 10, 13, 19), (0, 10, 17, 21)]) (List.mem_of_getElem? (i := 0) rfl))
  obtain ⟨hsz, hP, hDG⟩ := hp
  subst hsz
  have hD := hDG.self (sz := s.heap.size)
  generalize hAe : va_A (hkLW ct b d g o f) s.heap.size = A at hD ⊢
  have hA : ∀ q : Nat, s.heap.size ≤ q → A q := fun q h => by rw [← hAe]; exact Or.inr h
  have hS : va_S A s.heap s.heap [] := va_S.rf
  have hl := lv_entry ([.ref (b 0), .int x, .int y, .ref o]) (n := 5) (Nat.le_of_ble_eq_true rfl)
  rw [lg_entry_eq]
  generalize (lg_sl ([.ref (b 0), .int x, .int y, .ref o]) ++ List.replicate (5 - (lg_sl ([.ref (b 0), .int x, .int y, .ref o])).length) Slot.unset).toArray = ls at hl ⊢
  have hl : lv_has ls 5 [(0, .ref (b 0)), (1, .int x), (2, .int y), (3, .ref o)] := hl
  refine lv_aload_n hx hb dL_carry_0 rfl (lv_at hl 3 rfl) ?_
  refine lv_iconst (v := nI 0) hx hb dL_carry_1 (by decide) ?_
  refine lv_aload_n hx hb dL_carry_2 rfl (lv_at hl 0 rfl) ?_
  refine lv_iload_n hx hb dL_carry_3 rfl (lv_at hl 1 rfl) ?_
  refine lv_iload_n hx hb dL_carry_4 rfl (lv_at hl 2 rfl) ?_
  refine hk_L (wr := [(o, .inl (ct 3, 1, .inr (.inl f)))]) (z := (opCarry g x y)) (rest := [.int (nI 0), .ref o]) (vx_runV (As := [.int x, .int y]) (rest := [.int (nI 0), .ref o]) ⟨hx, hb, hml, hown, hts⟩ (c_X2_carry l hfl D ct sa G0 s.heap.size b d g x y hI) (cwV 2 hts gL_carry_X2_carry rfl rfl rfl (by decide +kernel) ⟨Nat.le_of_ble_eq_true rfl, Nat.le_of_ble_eq_true rfl⟩) (hk_prxV hE hH (va_recv hE.1 (hP.right (w1 := [(o, .inl (ct 3, 1, .inr (.inl f)))])) (ci := 2) (q0 := 0) rfl rfl) ⟨rfl, hP.right (w1 := [(o, .inl (ct 3, 1, .inr (.inl f)))]), hDG.right (w1 := [(o, .inl (ct 3, 1, .inr (.inl f)))])⟩) rfl rfl hl.1 rfl (lv_room (Nat.le_of_ble_eq_true rfl)) dL_carry_5 ⟨Nat.le_of_ble_eq_true rfl, Nat.le_of_ble_eq_true rfl⟩) rfl hP hD hS hA (fun E ce q9 H locs ho hP hS hce hcv hcl => ?_) (fun d9 H locs hz hP hD hS => ?_)
  · obtain ⟨k, hk, hz⟩ := ho
    have hg9 : (opCarry g x y).2.2 = g := rf_opCarry (by rw [hz]; exact nI_ne0 (by omega) (by
        have h9 : k < 2 := (List.getElem?_eq_some_iff.mp hk).1
        omega))
    rcases k with _ | _ | k
    · obtain rfl : E = "java/lang/IndexOutOfBoundsException" := (Option.some.inj hk).symm
      refine vx_catch hown [] ⟨0, 10, 13, 19⟩ [⟨0, 10, 17, 21⟩] (htab.trans rfl) (fun z hz => absurd hz List.not_mem_nil) (by decide) (by decide) (hts (.classLink RL 19 "java/lang/IndexOutOfBoundsException") (by decide +kernel)) (hE.use hkN_c1) hce hcv hcl ?_
      refine lv_astore (lv' := [(4, .ref q9), (0, .ref (b 0)), (1, .int x), (2, .int y), (3, .ref o)]) hx hb dL_carry_13 hl (by decide) rfl (fun ls hl => ?_)
      refine lv_iconst (v := nI 1) hx hb dL_carry_15 (by decide) ?_
      have hP9 : va_P D vwCl (hkLW ct b d (opCarry g x y).2.2 o f) H := by rw [hg9]; exact hP
      have hD9 : va_D A (hkLW ct b d (opCarry g x y).2.2 o f) := by rw [hg9]; exact hD
      exact W.iret (v := nI 1) hx hb hr (fun t ht hW => ⟨by rw [hz], ⟨d, f, by rw [ht]; exact hP9, hD9, fun q => absurd (hz.symm.trans q) (by decide)⟩, hS.F ht⟩) hS.2.2 dL_carry_16
    · obtain rfl : E = "java/lang/IllegalArgumentException" := (Option.some.inj hk).symm
      refine vx_catch hown [⟨0, 10, 13, 19⟩] ⟨0, 10, 17, 21⟩ [] (htab.trans rfl) (fun z hz => by
        obtain rfl := List.mem_singleton.mp hz
        exact Or.inr ⟨by decide, "java/lang/IndexOutOfBoundsException", (hts (.classLink RL 19 "java/lang/IndexOutOfBoundsException") (by decide +kernel)), hE.2.2.2.1 _ (List.mem_of_getElem? (i := 5) rfl)⟩) (by decide) (by decide) (hts (.classLink RL 21 "java/lang/IllegalArgumentException") (by decide +kernel)) (hE.use hkN_c2) hce hcv hcl ?_
      refine lv_astore (lv' := [(4, .ref q9), (0, .ref (b 0)), (1, .int x), (2, .int y), (3, .ref o)]) hx hb dL_carry_17 hl (by decide) rfl (fun ls hl => ?_)
      refine lv_iconst (v := nI 2) hx hb dL_carry_19 (by decide) ?_
      have hP9 : va_P D vwCl (hkLW ct b d (opCarry g x y).2.2 o f) H := by rw [hg9]; exact hP
      have hD9 : va_D A (hkLW ct b d (opCarry g x y).2.2 o f) := by rw [hg9]; exact hD
      exact W.iret (v := nI 2) hx hb hr (fun t ht hW => ⟨by rw [hz], ⟨d, f, by rw [ht]; exact hP9, hD9, fun q => absurd (hz.symm.trans q) (by decide)⟩, hS.F ht⟩) hS.2.2 dL_carry_20
    · exact nomatch hk
  · skip
    have hP : va_P D vwCl ((o, .inl (ct 3, 1, .inr (.inl f))) :: hkW ct b d9 (opCarry g x y).2.2) H := hP
    have hD : va_D A ((o, .inl (ct 3, 1, .inr (.inl f))) :: hkW ct b d9 (opCarry g x y).2.2) := hD
    refine lv_i2l hx hb dL_carry_8 rfl ?_
    refine hk_lst hx hb hE hP hD hS 0 rfl (j := 0) (x := ((opCarry g x y).2.1).toInt64) (by omega) (by omega) dL_carry_9 (fun H locs hP hD hS => ?_)
    have hP : va_P D vwCl ((o, .inl (ct 3, 1, .inr (.inl (vp_updL f 0 (((opCarry g x y).2.1).toInt64))))) :: hkW ct b d9 (opCarry g x y).2.2) H := hP
    have hD : va_D A ((o, .inl (ct 3, 1, .inr (.inl (vp_updL f 0 (((opCarry g x y).2.1).toInt64))))) :: hkW ct b d9 (opCarry g x y).2.2) := hD
    refine lv_goto (tgt := 21) hx hb dL_carry_10 (by decide) ?_
    refine lv_iconst (v := nI 0) hx hb dL_carry_21 (by decide) ?_
    have hP9 : va_P D vwCl (hkLW ct b d9 (opCarry g x y).2.2 o (vp_updL f 0 (((opCarry g x y).2.1).toInt64))) H := hP
    have hD9 : va_D A (hkLW ct b d9 (opCarry g x y).2.2 o (vp_updL f 0 (((opCarry g x y).2.1).toInt64))) := hD
    exact W.iret (v := nI 0) hx hb hr (fun t ht hW => ⟨by rw [hz]; rfl, ⟨d9, (vp_updL f 0 (((opCarry g x y).2.1).toInt64)), by rw [ht]; exact hP9, hD9, fun _ => rfl⟩, hS.F ht⟩) hS.2.2 dL_carry_22

set_option maxHeartbeats 4000000 in
set_option maxRecDepth 100000 in
theorem c_L_swap (l : Launch) (hfl : l.flags = flags0) (D : va_G) (ct : Nat → ClassId) (sa : Nat → Nat) (G0 sz : Nat) (b : Nat → Nat) (d : Ad) (g : Sg) (o : Nat) (f : Nat → Int64) (x : Int32) (y : Int32) (z : Int32) (hI : Inv g) : Met l yL_swap wsL_swap ({ frames := 9, cells := 4, slots := 24, locals := 148 }) (hkPx D ct sa G0 [.ref (b 0), .int x, .int y, .int z, .ref o] (hkLP D ct b d g o f G0 sz)) (hkLQ D ct b o (va_A (hkLW ct b d g o f) sz) (opSwap g x y z)) 4 24 (va_A (hkLW ct b d g o f) sz) := by
  refine hk_ofWH (cc := cL_swap) (maxL := 6) (ret := (some .int)) (by decide) rfl ?_
  intro p e s m args below meth c s₁ B hml hv
  obtain ⟨rfl, hE, hH, hp⟩ := hv
  have hx := B.exec
  have hb := B.bytes
  have hr := B.returns
  have hts := atoms_spec (ws := wsL_swap) B.pre
  have hown : s.vm.findClass RL = some m.cls := findClass_of_methodNamed B.named
  have hlocks := B.notSynchronized
  have htab := vx_table (x := yX2_at) B (hts (.codeWith yL_swap cL_swap 6 (some .int) [(0, 12, 15, 19), (0, 12, 19, 21)]) (List.mem_of_getElem? (i := 0) rfl))
  obtain ⟨hsz, hP, hDG⟩ := hp
  subst hsz
  have hD := hDG.self (sz := s.heap.size)
  generalize hAe : va_A (hkLW ct b d g o f) s.heap.size = A at hD ⊢
  have hA : ∀ q : Nat, s.heap.size ≤ q → A q := fun q h => by rw [← hAe]; exact Or.inr h
  have hS : va_S A s.heap s.heap [] := va_S.rf
  have hl := lv_entry ([.ref (b 0), .int x, .int y, .int z, .ref o]) (n := 6) (Nat.le_of_ble_eq_true rfl)
  rw [lg_entry_eq]
  generalize (lg_sl ([.ref (b 0), .int x, .int y, .int z, .ref o]) ++ List.replicate (6 - (lg_sl ([.ref (b 0), .int x, .int y, .int z, .ref o])).length) Slot.unset).toArray = ls at hl ⊢
  have hl : lv_has ls 6 [(0, .ref (b 0)), (1, .int x), (2, .int y), (3, .int z), (4, .ref o)] := hl
  refine lv_aload hx hb dL_swap_0 (lv_at hl 4 rfl) ?_
  refine lv_iconst (v := nI 0) hx hb dL_swap_2 (by decide) ?_
  refine lv_aload_n hx hb dL_swap_3 rfl (lv_at hl 0 rfl) ?_
  refine lv_iload_n hx hb dL_swap_4 rfl (lv_at hl 1 rfl) ?_
  refine lv_iload_n hx hb dL_swap_5 rfl (lv_at hl 2 rfl) ?_
  refine lv_iload_n hx hb dL_swap_6 rfl (lv_at hl 3 rfl) ?_
  refine hk_L (wr := [(o, .inl (ct 3, 1, .inr (.inl f)))]) (z := (opSwap g x y z)) (rest := [.int (nI 0), .ref o]) (vx_runV (As := [.int x, .int y, .int z]) (rest := [.int (nI 0), .ref o]) ⟨hx, hb, hml, hown, hts⟩ (c_X2_swap l hfl D ct sa G0 s.heap.size b d g x y z hI) (cwV 3 hts gL_swap_X2_swap rfl rfl rfl (by decide +kernel) ⟨Nat.le_of_ble_eq_true rfl, Nat.le_of_ble_eq_true rfl⟩) (hk_prxV hE hH (va_recv hE.1 (hP.right (w1 := [(o, .inl (ct 3, 1, .inr (.inl f)))])) (ci := 2) (q0 := 0) rfl rfl) ⟨rfl, hP.right (w1 := [(o, .inl (ct 3, 1, .inr (.inl f)))]), hDG.right (w1 := [(o, .inl (ct 3, 1, .inr (.inl f)))])⟩) rfl rfl hl.1 rfl (lv_room (Nat.le_of_ble_eq_true rfl)) dL_swap_7 ⟨Nat.le_of_ble_eq_true rfl, Nat.le_of_ble_eq_true rfl⟩) rfl hP hD hS hA (fun E ce q9 H locs ho hP hS hce hcv hcl => ?_) (fun d9 H locs hz hP hD hS => ?_)
  · obtain ⟨k, hk, hz⟩ := ho
    have hg9 : (opSwap g x y z).2.2 = g := rf_opSwap (by rw [hz]; exact nI_ne0 (by omega) (by
        have h9 : k < 2 := (List.getElem?_eq_some_iff.mp hk).1
        omega))
    rcases k with _ | _ | k
    · obtain rfl : E = "java/lang/IndexOutOfBoundsException" := (Option.some.inj hk).symm
      refine vx_catch hown [] ⟨0, 12, 15, 19⟩ [⟨0, 12, 19, 21⟩] (htab.trans rfl) (fun z hz => absurd hz List.not_mem_nil) (by decide) (by decide) (hts (.classLink RL 19 "java/lang/IndexOutOfBoundsException") (by decide +kernel)) (hE.use hkN_c1) hce hcv hcl ?_
      refine lv_astore (lv' := [(5, .ref q9), (0, .ref (b 0)), (1, .int x), (2, .int y), (3, .int z), (4, .ref o)]) hx hb dL_swap_15 hl (by decide) rfl (fun ls hl => ?_)
      refine lv_iconst (v := nI 1) hx hb dL_swap_17 (by decide) ?_
      have hP9 : va_P D vwCl (hkLW ct b d (opSwap g x y z).2.2 o f) H := by rw [hg9]; exact hP
      have hD9 : va_D A (hkLW ct b d (opSwap g x y z).2.2 o f) := by rw [hg9]; exact hD
      exact W.iret (v := nI 1) hx hb hr (fun t ht hW => ⟨by rw [hz], ⟨d, f, by rw [ht]; exact hP9, hD9, fun q => absurd (hz.symm.trans q) (by decide)⟩, hS.F ht⟩) hS.2.2 dL_swap_18
    · obtain rfl : E = "java/lang/IllegalArgumentException" := (Option.some.inj hk).symm
      refine vx_catch hown [⟨0, 12, 15, 19⟩] ⟨0, 12, 19, 21⟩ [] (htab.trans rfl) (fun z hz => by
        obtain rfl := List.mem_singleton.mp hz
        exact Or.inr ⟨by decide, "java/lang/IndexOutOfBoundsException", (hts (.classLink RL 19 "java/lang/IndexOutOfBoundsException") (by decide +kernel)), hE.2.2.2.1 _ (List.mem_of_getElem? (i := 5) rfl)⟩) (by decide) (by decide) (hts (.classLink RL 21 "java/lang/IllegalArgumentException") (by decide +kernel)) (hE.use hkN_c2) hce hcv hcl ?_
      refine lv_astore (lv' := [(5, .ref q9), (0, .ref (b 0)), (1, .int x), (2, .int y), (3, .int z), (4, .ref o)]) hx hb dL_swap_19 hl (by decide) rfl (fun ls hl => ?_)
      refine lv_iconst (v := nI 2) hx hb dL_swap_21 (by decide) ?_
      have hP9 : va_P D vwCl (hkLW ct b d (opSwap g x y z).2.2 o f) H := by rw [hg9]; exact hP
      have hD9 : va_D A (hkLW ct b d (opSwap g x y z).2.2 o f) := by rw [hg9]; exact hD
      exact W.iret (v := nI 2) hx hb hr (fun t ht hW => ⟨by rw [hz], ⟨d, f, by rw [ht]; exact hP9, hD9, fun q => absurd (hz.symm.trans q) (by decide)⟩, hS.F ht⟩) hS.2.2 dL_swap_22
    · exact nomatch hk
  · skip
    have hP : va_P D vwCl ((o, .inl (ct 3, 1, .inr (.inl f))) :: hkW ct b d9 (opSwap g x y z).2.2) H := hP
    have hD : va_D A ((o, .inl (ct 3, 1, .inr (.inl f))) :: hkW ct b d9 (opSwap g x y z).2.2) := hD
    refine lv_i2l hx hb dL_swap_10 rfl ?_
    refine hk_lst hx hb hE hP hD hS 0 rfl (j := 0) (x := ((opSwap g x y z).2.1).toInt64) (by omega) (by omega) dL_swap_11 (fun H locs hP hD hS => ?_)
    have hP : va_P D vwCl ((o, .inl (ct 3, 1, .inr (.inl (vp_updL f 0 (((opSwap g x y z).2.1).toInt64))))) :: hkW ct b d9 (opSwap g x y z).2.2) H := hP
    have hD : va_D A ((o, .inl (ct 3, 1, .inr (.inl (vp_updL f 0 (((opSwap g x y z).2.1).toInt64))))) :: hkW ct b d9 (opSwap g x y z).2.2) := hD
    refine lv_goto (tgt := 23) hx hb dL_swap_12 (by decide) ?_
    refine lv_iconst (v := nI 0) hx hb dL_swap_23 (by decide) ?_
    have hP9 : va_P D vwCl (hkLW ct b d9 (opSwap g x y z).2.2 o (vp_updL f 0 (((opSwap g x y z).2.1).toInt64))) H := hP
    have hD9 : va_D A (hkLW ct b d9 (opSwap g x y z).2.2 o (vp_updL f 0 (((opSwap g x y z).2.1).toInt64))) := hD
    exact W.iret (v := nI 0) hx hb hr (fun t ht hW => ⟨by rw [hz]; rfl, ⟨d9, (vp_updL f 0 (((opSwap g x y z).2.1).toInt64)), by rw [ht]; exact hP9, hD9, fun _ => rfl⟩, hS.F ht⟩) hS.2.2 dL_swap_24

set_option maxHeartbeats 4000000 in
set_option maxRecDepth 100000 in
theorem c_L_keyOf (l : Launch) (hfl : l.flags = flags0) (D : va_G) (ct : Nat → ClassId) (sa : Nat → Nat) (G0 sz : Nat) (b : Nat → Nat) (d : Ad) (g : Sg) (o : Nat) (f : Nat → Int64) (x : Int32) (y : Int32) (hI : Inv g) : Met l yL_keyOf wsL_keyOf ({ frames := 8, cells := 2, slots := 12, locals := 127 }) (hkPx D ct sa G0 [.ref (b 0), .int x, .int y, .ref o] (hkLP D ct b d g o f G0 sz)) (hkLQ D ct b o (va_A (hkLW ct b d g o f) sz) (opKeyOf g x y)) 2 12 (va_A (hkLW ct b d g o f) sz) := by
  refine hk_ofWH (cc := cL_keyOf) (maxL := 5) (ret := (some .int)) (by decide) rfl ?_
  intro p e s m args below meth c s₁ B hml hv
  obtain ⟨rfl, hE, hH, hp⟩ := hv
  have hx := B.exec
  have hb := B.bytes
  have hr := B.returns
  have hts := atoms_spec (ws := wsL_keyOf) B.pre
  have hown : s.vm.findClass RL = some m.cls := findClass_of_methodNamed B.named
  have hlocks := B.notSynchronized
  have htab := vx_table (x := yX2_at) B (hts (.codeWith yL_keyOf cL_keyOf 5 (some .int) [(0, 10, 13, 19)]) (List.mem_of_getElem? (i := 0) rfl))
  obtain ⟨hsz, hP, hDG⟩ := hp
  subst hsz
  have hD := hDG.self (sz := s.heap.size)
  generalize hAe : va_A (hkLW ct b d g o f) s.heap.size = A at hD ⊢
  have hA : ∀ q : Nat, s.heap.size ≤ q → A q := fun q h => by rw [← hAe]; exact Or.inr h
  have hS : va_S A s.heap s.heap [] := va_S.rf
  have hl := lv_entry ([.ref (b 0), .int x, .int y, .ref o]) (n := 5) (Nat.le_of_ble_eq_true rfl)
  rw [lg_entry_eq]
  generalize (lg_sl ([.ref (b 0), .int x, .int y, .ref o]) ++ List.replicate (5 - (lg_sl ([.ref (b 0), .int x, .int y, .ref o])).length) Slot.unset).toArray = ls at hl ⊢
  have hl : lv_has ls 5 [(0, .ref (b 0)), (1, .int x), (2, .int y), (3, .ref o)] := hl
  refine lv_aload_n hx hb dL_keyOf_0 rfl (lv_at hl 3 rfl) ?_
  refine lv_iconst (v := nI 0) hx hb dL_keyOf_1 (by decide) ?_
  refine lv_aload_n hx hb dL_keyOf_2 rfl (lv_at hl 0 rfl) ?_
  refine lv_iload_n hx hb dL_keyOf_3 rfl (lv_at hl 1 rfl) ?_
  refine lv_iload_n hx hb dL_keyOf_4 rfl (lv_at hl 2 rfl) ?_
  refine hk_L (wr := [(o, .inl (ct 3, 1, .inr (.inl f)))]) (z := (opKeyOf g x y)) (rest := [.int (nI 0), .ref o]) (vx_runV (As := [.int x, .int y]) (rest := [.int (nI 0), .ref o]) ⟨hx, hb, hml, hown, hts⟩ (c_X2_keyOf l hfl D ct sa G0 s.heap.size b d g x y hI) (cwV 2 hts gL_keyOf_X2_keyOf rfl rfl rfl (by decide +kernel) ⟨Nat.le_of_ble_eq_true rfl, Nat.le_of_ble_eq_true rfl⟩) (hk_prxV hE hH (va_recv hE.1 (hP.right (w1 := [(o, .inl (ct 3, 1, .inr (.inl f)))])) (ci := 2) (q0 := 0) rfl rfl) ⟨rfl, hP.right (w1 := [(o, .inl (ct 3, 1, .inr (.inl f)))]), hDG.right (w1 := [(o, .inl (ct 3, 1, .inr (.inl f)))])⟩) rfl rfl hl.1 rfl (lv_room (Nat.le_of_ble_eq_true rfl)) dL_keyOf_5 ⟨Nat.le_of_ble_eq_true rfl, Nat.le_of_ble_eq_true rfl⟩) rfl hP hD hS hA (fun E ce q9 H locs ho hP hS hce hcv hcl => ?_) (fun d9 H locs hz hP hD hS => ?_)
  · obtain ⟨k, hk, hz⟩ := ho
    have hg9 : (opKeyOf g x y).2.2 = g := rf_opKeyOf (by rw [hz]; exact nI_ne0 (by omega) (by
        have h9 : k < 1 := (List.getElem?_eq_some_iff.mp hk).1
        omega))
    rcases k with _ | k
    · obtain rfl : E = "java/lang/IndexOutOfBoundsException" := (Option.some.inj hk).symm
      refine vx_catch hown [] ⟨0, 10, 13, 19⟩ [] (htab.trans rfl) (fun z hz => absurd hz List.not_mem_nil) (by decide) (by decide) (hts (.classLink RL 19 "java/lang/IndexOutOfBoundsException") (by decide +kernel)) (hE.use hkN_c1) hce hcv hcl ?_
      refine lv_astore (lv' := [(4, .ref q9), (0, .ref (b 0)), (1, .int x), (2, .int y), (3, .ref o)]) hx hb dL_keyOf_13 hl (by decide) rfl (fun ls hl => ?_)
      refine lv_iconst (v := nI 1) hx hb dL_keyOf_15 (by decide) ?_
      have hP9 : va_P D vwCl (hkLW ct b d (opKeyOf g x y).2.2 o f) H := by rw [hg9]; exact hP
      have hD9 : va_D A (hkLW ct b d (opKeyOf g x y).2.2 o f) := by rw [hg9]; exact hD
      exact W.iret (v := nI 1) hx hb hr (fun t ht hW => ⟨by rw [hz], ⟨d, f, by rw [ht]; exact hP9, hD9, fun q => absurd (hz.symm.trans q) (by decide)⟩, hS.F ht⟩) hS.2.2 dL_keyOf_16
    · exact nomatch hk
  · skip
    have hP : va_P D vwCl ((o, .inl (ct 3, 1, .inr (.inl f))) :: hkW ct b d9 (opKeyOf g x y).2.2) H := hP
    have hD : va_D A ((o, .inl (ct 3, 1, .inr (.inl f))) :: hkW ct b d9 (opKeyOf g x y).2.2) := hD
    refine lv_i2l hx hb dL_keyOf_8 rfl ?_
    refine hk_lst hx hb hE hP hD hS 0 rfl (j := 0) (x := ((opKeyOf g x y).2.1).toInt64) (by omega) (by omega) dL_keyOf_9 (fun H locs hP hD hS => ?_)
    have hP : va_P D vwCl ((o, .inl (ct 3, 1, .inr (.inl (vp_updL f 0 (((opKeyOf g x y).2.1).toInt64))))) :: hkW ct b d9 (opKeyOf g x y).2.2) H := hP
    have hD : va_D A ((o, .inl (ct 3, 1, .inr (.inl (vp_updL f 0 (((opKeyOf g x y).2.1).toInt64))))) :: hkW ct b d9 (opKeyOf g x y).2.2) := hD
    refine lv_goto (tgt := 17) hx hb dL_keyOf_10 (by decide) ?_
    refine lv_iconst (v := nI 0) hx hb dL_keyOf_17 (by decide) ?_
    have hP9 : va_P D vwCl (hkLW ct b d9 (opKeyOf g x y).2.2 o (vp_updL f 0 (((opKeyOf g x y).2.1).toInt64))) H := hP
    have hD9 : va_D A (hkLW ct b d9 (opKeyOf g x y).2.2 o (vp_updL f 0 (((opKeyOf g x y).2.1).toInt64))) := hD
    exact W.iret (v := nI 0) hx hb hr (fun t ht hW => ⟨by rw [hz]; rfl, ⟨d9, (vp_updL f 0 (((opKeyOf g x y).2.1).toInt64)), by rw [ht]; exact hP9, hD9, fun _ => rfl⟩, hS.F ht⟩) hS.2.2 dL_keyOf_18

set_option maxHeartbeats 4000000 in
set_option maxRecDepth 100000 in
theorem c_L_letterOn (l : Launch) (hfl : l.flags = flags0) (D : va_G) (ct : Nat → ClassId) (sa : Nat → Nat) (G0 sz : Nat) (b : Nat → Nat) (d : Ad) (g : Sg) (o : Nat) (f : Nat → Int64) (x : Int32) (y : Int32) (hI : Inv g) : Met l yL_letterOn wsL_letterOn ({ frames := 8, cells := 2, slots := 12, locals := 127 }) (hkPx D ct sa G0 [.ref (b 0), .int x, .int y, .ref o] (hkLP D ct b d g o f G0 sz)) (hkLQ D ct b o (va_A (hkLW ct b d g o f) sz) (opLetterOn g x y)) 2 12 (va_A (hkLW ct b d g o f) sz) := by
  refine hk_ofWH (cc := cL_letterOn) (maxL := 5) (ret := (some .int)) (by decide) rfl ?_
  intro p e s m args below meth c s₁ B hml hv
  obtain ⟨rfl, hE, hH, hp⟩ := hv
  have hx := B.exec
  have hb := B.bytes
  have hr := B.returns
  have hts := atoms_spec (ws := wsL_letterOn) B.pre
  have hown : s.vm.findClass RL = some m.cls := findClass_of_methodNamed B.named
  have hlocks := B.notSynchronized
  have htab := vx_table (x := yX2_at) B (hts (.codeWith yL_letterOn cL_letterOn 5 (some .int) [(0, 10, 13, 19)]) (List.mem_of_getElem? (i := 0) rfl))
  obtain ⟨hsz, hP, hDG⟩ := hp
  subst hsz
  have hD := hDG.self (sz := s.heap.size)
  generalize hAe : va_A (hkLW ct b d g o f) s.heap.size = A at hD ⊢
  have hA : ∀ q : Nat, s.heap.size ≤ q → A q := fun q h => by rw [← hAe]; exact Or.inr h
  have hS : va_S A s.heap s.heap [] := va_S.rf
  have hl := lv_entry ([.ref (b 0), .int x, .int y, .ref o]) (n := 5) (Nat.le_of_ble_eq_true rfl)
  rw [lg_entry_eq]
  generalize (lg_sl ([.ref (b 0), .int x, .int y, .ref o]) ++ List.replicate (5 - (lg_sl ([.ref (b 0), .int x, .int y, .ref o])).length) Slot.unset).toArray = ls at hl ⊢
  have hl : lv_has ls 5 [(0, .ref (b 0)), (1, .int x), (2, .int y), (3, .ref o)] := hl
  refine lv_aload_n hx hb dL_letterOn_0 rfl (lv_at hl 3 rfl) ?_
  refine lv_iconst (v := nI 0) hx hb dL_letterOn_1 (by decide) ?_
  refine lv_aload_n hx hb dL_letterOn_2 rfl (lv_at hl 0 rfl) ?_
  refine lv_iload_n hx hb dL_letterOn_3 rfl (lv_at hl 1 rfl) ?_
  refine lv_iload_n hx hb dL_letterOn_4 rfl (lv_at hl 2 rfl) ?_
  refine hk_L (wr := [(o, .inl (ct 3, 1, .inr (.inl f)))]) (z := (opLetterOn g x y)) (rest := [.int (nI 0), .ref o]) (vx_runV (As := [.int x, .int y]) (rest := [.int (nI 0), .ref o]) ⟨hx, hb, hml, hown, hts⟩ (c_X2_letterOn l hfl D ct sa G0 s.heap.size b d g x y hI) (cwV 2 hts gL_letterOn_X2_letterOn rfl rfl rfl (by decide +kernel) ⟨Nat.le_of_ble_eq_true rfl, Nat.le_of_ble_eq_true rfl⟩) (hk_prxV hE hH (va_recv hE.1 (hP.right (w1 := [(o, .inl (ct 3, 1, .inr (.inl f)))])) (ci := 2) (q0 := 0) rfl rfl) ⟨rfl, hP.right (w1 := [(o, .inl (ct 3, 1, .inr (.inl f)))]), hDG.right (w1 := [(o, .inl (ct 3, 1, .inr (.inl f)))])⟩) rfl rfl hl.1 rfl (lv_room (Nat.le_of_ble_eq_true rfl)) dL_letterOn_5 ⟨Nat.le_of_ble_eq_true rfl, Nat.le_of_ble_eq_true rfl⟩) rfl hP hD hS hA (fun E ce q9 H locs ho hP hS hce hcv hcl => ?_) (fun d9 H locs hz hP hD hS => ?_)
  · obtain ⟨k, hk, hz⟩ := ho
    have hg9 : (opLetterOn g x y).2.2 = g := rf_opLetterOn (by rw [hz]; exact nI_ne0 (by omega) (by
        have h9 : k < 1 := (List.getElem?_eq_some_iff.mp hk).1
        omega))
    rcases k with _ | k
    · obtain rfl : E = "java/lang/IndexOutOfBoundsException" := (Option.some.inj hk).symm
      refine vx_catch hown [] ⟨0, 10, 13, 19⟩ [] (htab.trans rfl) (fun z hz => absurd hz List.not_mem_nil) (by decide) (by decide) (hts (.classLink RL 19 "java/lang/IndexOutOfBoundsException") (by decide +kernel)) (hE.use hkN_c1) hce hcv hcl ?_
      refine lv_astore (lv' := [(4, .ref q9), (0, .ref (b 0)), (1, .int x), (2, .int y), (3, .ref o)]) hx hb dL_letterOn_13 hl (by decide) rfl (fun ls hl => ?_)
      refine lv_iconst (v := nI 1) hx hb dL_letterOn_15 (by decide) ?_
      have hP9 : va_P D vwCl (hkLW ct b d (opLetterOn g x y).2.2 o f) H := by rw [hg9]; exact hP
      have hD9 : va_D A (hkLW ct b d (opLetterOn g x y).2.2 o f) := by rw [hg9]; exact hD
      exact W.iret (v := nI 1) hx hb hr (fun t ht hW => ⟨by rw [hz], ⟨d, f, by rw [ht]; exact hP9, hD9, fun q => absurd (hz.symm.trans q) (by decide)⟩, hS.F ht⟩) hS.2.2 dL_letterOn_16
    · exact nomatch hk
  · skip
    have hP : va_P D vwCl ((o, .inl (ct 3, 1, .inr (.inl f))) :: hkW ct b d9 (opLetterOn g x y).2.2) H := hP
    have hD : va_D A ((o, .inl (ct 3, 1, .inr (.inl f))) :: hkW ct b d9 (opLetterOn g x y).2.2) := hD
    refine lv_i2l hx hb dL_letterOn_8 rfl ?_
    refine hk_lst hx hb hE hP hD hS 0 rfl (j := 0) (x := ((opLetterOn g x y).2.1).toInt64) (by omega) (by omega) dL_letterOn_9 (fun H locs hP hD hS => ?_)
    have hP : va_P D vwCl ((o, .inl (ct 3, 1, .inr (.inl (vp_updL f 0 (((opLetterOn g x y).2.1).toInt64))))) :: hkW ct b d9 (opLetterOn g x y).2.2) H := hP
    have hD : va_D A ((o, .inl (ct 3, 1, .inr (.inl (vp_updL f 0 (((opLetterOn g x y).2.1).toInt64))))) :: hkW ct b d9 (opLetterOn g x y).2.2) := hD
    refine lv_goto (tgt := 17) hx hb dL_letterOn_10 (by decide) ?_
    refine lv_iconst (v := nI 0) hx hb dL_letterOn_17 (by decide) ?_
    have hP9 : va_P D vwCl (hkLW ct b d9 (opLetterOn g x y).2.2 o (vp_updL f 0 (((opLetterOn g x y).2.1).toInt64))) H := hP
    have hD9 : va_D A (hkLW ct b d9 (opLetterOn g x y).2.2 o (vp_updL f 0 (((opLetterOn g x y).2.1).toInt64))) := hD
    exact W.iret (v := nI 0) hx hb hr (fun t ht hW => ⟨by rw [hz]; rfl, ⟨d9, (vp_updL f 0 (((opLetterOn g x y).2.1).toInt64)), by rw [ht]; exact hP9, hD9, fun _ => rfl⟩, hS.F ht⟩) hS.2.2 dL_letterOn_18

set_option maxHeartbeats 4000000 in
set_option maxRecDepth 100000 in
theorem c_L_press (l : Launch) (hfl : l.flags = flags0) (D : va_G) (ct : Nat → ClassId) (sa : Nat → Nat) (G0 sz : Nat) (b : Nat → Nat) (d : Ad) (g : Sg) (o : Nat) (f : Nat → Int64) (x : Int32) (y : Int32) (z : Int32) (hI : Inv g) : Met l yL_press wsL_press ({ frames := 8, cells := 3, slots := 18, locals := 128 }) (hkPx D ct sa G0 [.ref (b 0), .int x, .int y, .int z, .ref o] (hkLP D ct b d g o f G0 sz)) (hkLQ D ct b o (va_A (hkLW ct b d g o f) sz) (opPress g x y z)) 3 18 (va_A (hkLW ct b d g o f) sz) := by
  refine hk_ofWH (cc := cL_press) (maxL := 6) (ret := (some .int)) (by decide) rfl ?_
  intro p e s m args below meth c s₁ B hml hv
  obtain ⟨rfl, hE, hH, hp⟩ := hv
  have hx := B.exec
  have hb := B.bytes
  have hr := B.returns
  have hts := atoms_spec (ws := wsL_press) B.pre
  have hown : s.vm.findClass RL = some m.cls := findClass_of_methodNamed B.named
  have hlocks := B.notSynchronized
  have htab := vx_table (x := yX2_at) B (hts (.codeWith yL_press cL_press 6 (some .int) [(0, 19, 22, 19)]) (List.mem_of_getElem? (i := 0) rfl))
  obtain ⟨hsz, hP, hDG⟩ := hp
  subst hsz
  have hD := hDG.self (sz := s.heap.size)
  generalize hAe : va_A (hkLW ct b d g o f) s.heap.size = A at hD ⊢
  have hA : ∀ q : Nat, s.heap.size ≤ q → A q := fun q h => by rw [← hAe]; exact Or.inr h
  have hS : va_S A s.heap s.heap [] := va_S.rf
  have hl := lv_entry ([.ref (b 0), .int x, .int y, .int z, .ref o]) (n := 6) (Nat.le_of_ble_eq_true rfl)
  rw [lg_entry_eq]
  generalize (lg_sl ([.ref (b 0), .int x, .int y, .int z, .ref o]) ++ List.replicate (6 - (lg_sl ([.ref (b 0), .int x, .int y, .int z, .ref o])).length) Slot.unset).toArray = ls at hl ⊢
  have hl : lv_has ls 6 [(0, .ref (b 0)), (1, .int x), (2, .int y), (3, .int z), (4, .ref o)] := hl
  refine lv_aload hx hb dL_press_0 (lv_at hl 4 rfl) ?_
  refine lv_iconst (v := nI 0) hx hb dL_press_2 (by decide) ?_
  refine lv_aload_n hx hb dL_press_3 rfl (lv_at hl 0 rfl) ?_
  refine lv_iload_n hx hb dL_press_4 rfl (lv_at hl 1 rfl) ?_
  refine lv_iload_n hx hb dL_press_5 rfl (lv_at hl 2 rfl) ?_
  refine lv_iload_n hx hb dL_press_6 rfl (lv_at hl 3 rfl) ?_
  refine hk_L (wr := [(o, .inl (ct 3, 1, .inr (.inl f)))]) (z := (opPress g x y z)) (rest := [.int (nI 0), .ref o]) (vx_runV (As := [.int x, .int y, .int z]) (rest := [.int (nI 0), .ref o]) ⟨hx, hb, hml, hown, hts⟩ (c_X2_press l hfl D ct sa G0 s.heap.size b d g x y z hI) (cwV 3 hts gL_press_X2_press rfl rfl rfl (by decide +kernel) ⟨Nat.le_of_ble_eq_true rfl, Nat.le_of_ble_eq_true rfl⟩) (hk_prxV hE hH (va_recv hE.1 (hP.right (w1 := [(o, .inl (ct 3, 1, .inr (.inl f)))])) (ci := 2) (q0 := 0) rfl rfl) ⟨rfl, hP.right (w1 := [(o, .inl (ct 3, 1, .inr (.inl f)))]), hDG.right (w1 := [(o, .inl (ct 3, 1, .inr (.inl f)))])⟩) rfl rfl hl.1 rfl (lv_room (Nat.le_of_ble_eq_true rfl)) dL_press_7 ⟨Nat.le_of_ble_eq_true rfl, Nat.le_of_ble_eq_true rfl⟩) rfl hP hD hS hA (fun E ce q9 H locs ho hP hS hce hcv hcl => ?_) (fun d9 H locs hz hP hD hS => ?_)
  · obtain ⟨k, hk, hz⟩ := ho
    have hg9 : (opPress g x y z).2.2 = g := rf_opPress (by rw [hz]; exact nI_ne0 (by omega) (by
        have h9 : k < 1 := (List.getElem?_eq_some_iff.mp hk).1
        omega))
    rcases k with _ | k
    · obtain rfl : E = "java/lang/IndexOutOfBoundsException" := (Option.some.inj hk).symm
      refine vx_catch hown [] ⟨0, 19, 22, 19⟩ [] (htab.trans rfl) (fun z hz => absurd hz List.not_mem_nil) (by decide) (by decide) (hts (.classLink RL 19 "java/lang/IndexOutOfBoundsException") (by decide +kernel)) (hE.use hkN_c1) hce hcv hcl ?_
      refine lv_astore (lv' := [(5, .ref q9), (0, .ref (b 0)), (1, .int x), (2, .int y), (3, .int z), (4, .ref o)]) hx hb dL_press_22 hl (by decide) rfl (fun ls hl => ?_)
      refine lv_iconst (v := nI 1) hx hb dL_press_24 (by decide) ?_
      have hP9 : va_P D vwCl (hkLW ct b d (opPress g x y z).2.2 o f) H := by rw [hg9]; exact hP
      have hD9 : va_D A (hkLW ct b d (opPress g x y z).2.2 o f) := by rw [hg9]; exact hD
      exact W.iret (v := nI 1) hx hb hr (fun t ht hW => ⟨by rw [hz], ⟨d, f, by rw [ht]; exact hP9, hD9, fun q => absurd (hz.symm.trans q) (by decide)⟩, hS.F ht⟩) hS.2.2 dL_press_25
    · exact nomatch hk
  · skip
    have hP : va_P D vwCl ((o, .inl (ct 3, 1, .inr (.inl f))) :: hkW ct b d9 (opPress g x y z).2.2) H := hP
    have hD : va_D A ((o, .inl (ct 3, 1, .inr (.inl f))) :: hkW ct b d9 (opPress g x y z).2.2) := hD
    refine lv_if_eq (tgt := 17) hx hb dL_press_10 (by decide) (fun hq9 => ?_) (fun hq9 => ?_)
    · refine lv_lconst (v := 0) hx hb dL_press_17 rfl ?_
      refine hk_lst hx hb hE hP hD hS 0 rfl (j := 0) (x := 0) (by omega) (by omega) dL_press_18 (fun H locs hP hD hS => ?_)
      have hP : va_P D vwCl ((o, .inl (ct 3, 1, .inr (.inl (vp_updL f 0 0)))) :: hkW ct b d9 (opPress g x y z).2.2) H := hP
      have hD : va_D A ((o, .inl (ct 3, 1, .inr (.inl (vp_updL f 0 0)))) :: hkW ct b d9 (opPress g x y z).2.2) := hD
      refine lv_goto (tgt := 26) hx hb dL_press_19 (by decide) ?_
      refine lv_iconst (v := nI 0) hx hb dL_press_26 (by decide) ?_
      have hP9 : va_P D vwCl (hkLW ct b d9 (opPress g x y z).2.2 o (vp_updL f 0 0)) H := hP
      have hD9 : va_D A (hkLW ct b d9 (opPress g x y z).2.2 o (vp_updL f 0 0)) := hD
      exact W.iret (v := nI 0) hx hb hr (fun t ht hW => ⟨by rw [hz]; rfl, ⟨d9, (vp_updL f 0 0), by rw [ht]; exact hP9, hD9, fun _ => (by rw [hq9]; rfl)⟩, hS.F ht⟩) hS.2.2 dL_press_27
    · refine lv_lconst (v := 1) hx hb dL_press_13 rfl ?_
      refine lv_goto (tgt := 18) hx hb dL_press_14 (by decide) ?_
      refine hk_lst hx hb hE hP hD hS 0 rfl (j := 0) (x := 1) (by omega) (by omega) dL_press_18 (fun H locs hP hD hS => ?_)
      have hP : va_P D vwCl ((o, .inl (ct 3, 1, .inr (.inl (vp_updL f 0 1)))) :: hkW ct b d9 (opPress g x y z).2.2) H := hP
      have hD : va_D A ((o, .inl (ct 3, 1, .inr (.inl (vp_updL f 0 1)))) :: hkW ct b d9 (opPress g x y z).2.2) := hD
      refine lv_goto (tgt := 26) hx hb dL_press_19 (by decide) ?_
      refine lv_iconst (v := nI 0) hx hb dL_press_26 (by decide) ?_
      have hP9 : va_P D vwCl (hkLW ct b d9 (opPress g x y z).2.2 o (vp_updL f 0 1)) H := hP
      have hD9 : va_D A (hkLW ct b d9 (opPress g x y z).2.2 o (vp_updL f 0 1)) := hD
      exact W.iret (v := nI 0) hx hb hr (fun t ht hW => ⟨by rw [hz]; rfl, ⟨d9, (vp_updL f 0 1), by rw [ht]; exact hP9, hD9, fun _ => (by rw [pr_01 g x y z hq9]; rfl)⟩, hS.F ht⟩) hS.2.2 dL_press_27

set_option maxHeartbeats 4000000 in
set_option maxRecDepth 100000 in
theorem c_L_slips (l : Launch) (hfl : l.flags = flags0) (D : va_G) (ct : Nat → ClassId) (sa : Nat → Nat) (G0 sz : Nat) (b : Nat → Nat) (d : Ad) (g : Sg) (o : Nat) (f : Nat → Int64) (x : Int32) (y : Int32) (z : Int32) (hI : Inv g) : Met l yL_slips wsL_slips ({ frames := 8, cells := 2, slots := 12, locals := 128 }) (hkPx D ct sa G0 [.ref (b 0), .int x, .int y, .int z, .ref o] (hkLP D ct b d g o f G0 sz)) (hkLQ D ct b o (va_A (hkLW ct b d g o f) sz) (opSlips g x y z)) 2 12 (va_A (hkLW ct b d g o f) sz) := by
  refine hk_ofWH (cc := cL_slips) (maxL := 6) (ret := (some .int)) (by decide) rfl ?_
  intro p e s m args below meth c s₁ B hml hv
  obtain ⟨rfl, hE, hH, hp⟩ := hv
  have hx := B.exec
  have hb := B.bytes
  have hr := B.returns
  have hts := atoms_spec (ws := wsL_slips) B.pre
  have hown : s.vm.findClass RL = some m.cls := findClass_of_methodNamed B.named
  have hlocks := B.notSynchronized
  have htab := vx_table (x := yX2_at) B (hts (.codeWith yL_slips cL_slips 6 (some .int) [(0, 12, 15, 19), (0, 12, 19, 21)]) (List.mem_of_getElem? (i := 0) rfl))
  obtain ⟨hsz, hP, hDG⟩ := hp
  subst hsz
  have hD := hDG.self (sz := s.heap.size)
  generalize hAe : va_A (hkLW ct b d g o f) s.heap.size = A at hD ⊢
  have hA : ∀ q : Nat, s.heap.size ≤ q → A q := fun q h => by rw [← hAe]; exact Or.inr h
  have hS : va_S A s.heap s.heap [] := va_S.rf
  have hl := lv_entry ([.ref (b 0), .int x, .int y, .int z, .ref o]) (n := 6) (Nat.le_of_ble_eq_true rfl)
  rw [lg_entry_eq]
  generalize (lg_sl ([.ref (b 0), .int x, .int y, .int z, .ref o]) ++ List.replicate (6 - (lg_sl ([.ref (b 0), .int x, .int y, .int z, .ref o])).length) Slot.unset).toArray = ls at hl ⊢
  have hl : lv_has ls 6 [(0, .ref (b 0)), (1, .int x), (2, .int y), (3, .int z), (4, .ref o)] := hl
  refine lv_aload hx hb dL_slips_0 (lv_at hl 4 rfl) ?_
  refine lv_iconst (v := nI 0) hx hb dL_slips_2 (by decide) ?_
  refine lv_aload_n hx hb dL_slips_3 rfl (lv_at hl 0 rfl) ?_
  refine lv_iload_n hx hb dL_slips_4 rfl (lv_at hl 1 rfl) ?_
  refine lv_iload_n hx hb dL_slips_5 rfl (lv_at hl 2 rfl) ?_
  refine lv_iload_n hx hb dL_slips_6 rfl (lv_at hl 3 rfl) ?_
  refine hk_L (wr := [(o, .inl (ct 3, 1, .inr (.inl f)))]) (z := (opSlips g x y z)) (rest := [.int (nI 0), .ref o]) (vx_runV (As := [.int x, .int y, .int z]) (rest := [.int (nI 0), .ref o]) ⟨hx, hb, hml, hown, hts⟩ (c_X2_slips l hfl D ct sa G0 s.heap.size b d g x y z hI) (cwV 3 hts gL_slips_X2_slips rfl rfl rfl (by decide +kernel) ⟨Nat.le_of_ble_eq_true rfl, Nat.le_of_ble_eq_true rfl⟩) (hk_prxV hE hH (va_recv hE.1 (hP.right (w1 := [(o, .inl (ct 3, 1, .inr (.inl f)))])) (ci := 2) (q0 := 0) rfl rfl) ⟨rfl, hP.right (w1 := [(o, .inl (ct 3, 1, .inr (.inl f)))]), hDG.right (w1 := [(o, .inl (ct 3, 1, .inr (.inl f)))])⟩) rfl rfl hl.1 rfl (lv_room (Nat.le_of_ble_eq_true rfl)) dL_slips_7 ⟨Nat.le_of_ble_eq_true rfl, Nat.le_of_ble_eq_true rfl⟩) rfl hP hD hS hA (fun E ce q9 H locs ho hP hS hce hcv hcl => ?_) (fun d9 H locs hz hP hD hS => ?_)
  · obtain ⟨k, hk, hz⟩ := ho
    have hg9 : (opSlips g x y z).2.2 = g := rf_opSlips (by rw [hz]; exact nI_ne0 (by omega) (by
        have h9 : k < 2 := (List.getElem?_eq_some_iff.mp hk).1
        omega))
    rcases k with _ | _ | k
    · obtain rfl : E = "java/lang/IndexOutOfBoundsException" := (Option.some.inj hk).symm
      refine vx_catch hown [] ⟨0, 12, 15, 19⟩ [⟨0, 12, 19, 21⟩] (htab.trans rfl) (fun z hz => absurd hz List.not_mem_nil) (by decide) (by decide) (hts (.classLink RL 19 "java/lang/IndexOutOfBoundsException") (by decide +kernel)) (hE.use hkN_c1) hce hcv hcl ?_
      refine lv_astore (lv' := [(5, .ref q9), (0, .ref (b 0)), (1, .int x), (2, .int y), (3, .int z), (4, .ref o)]) hx hb dL_slips_15 hl (by decide) rfl (fun ls hl => ?_)
      refine lv_iconst (v := nI 1) hx hb dL_slips_17 (by decide) ?_
      have hP9 : va_P D vwCl (hkLW ct b d (opSlips g x y z).2.2 o f) H := by rw [hg9]; exact hP
      have hD9 : va_D A (hkLW ct b d (opSlips g x y z).2.2 o f) := by rw [hg9]; exact hD
      exact W.iret (v := nI 1) hx hb hr (fun t ht hW => ⟨by rw [hz], ⟨d, f, by rw [ht]; exact hP9, hD9, fun q => absurd (hz.symm.trans q) (by decide)⟩, hS.F ht⟩) hS.2.2 dL_slips_18
    · obtain rfl : E = "java/lang/IllegalArgumentException" := (Option.some.inj hk).symm
      refine vx_catch hown [⟨0, 12, 15, 19⟩] ⟨0, 12, 19, 21⟩ [] (htab.trans rfl) (fun z hz => by
        obtain rfl := List.mem_singleton.mp hz
        exact Or.inr ⟨by decide, "java/lang/IndexOutOfBoundsException", (hts (.classLink RL 19 "java/lang/IndexOutOfBoundsException") (by decide +kernel)), hE.2.2.2.1 _ (List.mem_of_getElem? (i := 5) rfl)⟩) (by decide) (by decide) (hts (.classLink RL 21 "java/lang/IllegalArgumentException") (by decide +kernel)) (hE.use hkN_c2) hce hcv hcl ?_
      refine lv_astore (lv' := [(5, .ref q9), (0, .ref (b 0)), (1, .int x), (2, .int y), (3, .int z), (4, .ref o)]) hx hb dL_slips_19 hl (by decide) rfl (fun ls hl => ?_)
      refine lv_iconst (v := nI 2) hx hb dL_slips_21 (by decide) ?_
      have hP9 : va_P D vwCl (hkLW ct b d (opSlips g x y z).2.2 o f) H := by rw [hg9]; exact hP
      have hD9 : va_D A (hkLW ct b d (opSlips g x y z).2.2 o f) := by rw [hg9]; exact hD
      exact W.iret (v := nI 2) hx hb hr (fun t ht hW => ⟨by rw [hz], ⟨d, f, by rw [ht]; exact hP9, hD9, fun q => absurd (hz.symm.trans q) (by decide)⟩, hS.F ht⟩) hS.2.2 dL_slips_22
    · exact nomatch hk
  · skip
    have hP : va_P D vwCl ((o, .inl (ct 3, 1, .inr (.inl f))) :: hkW ct b d9 (opSlips g x y z).2.2) H := hP
    have hD : va_D A ((o, .inl (ct 3, 1, .inr (.inl f))) :: hkW ct b d9 (opSlips g x y z).2.2) := hD
    refine lv_i2l hx hb dL_slips_10 rfl ?_
    refine hk_lst hx hb hE hP hD hS 0 rfl (j := 0) (x := ((opSlips g x y z).2.1).toInt64) (by omega) (by omega) dL_slips_11 (fun H locs hP hD hS => ?_)
    have hP : va_P D vwCl ((o, .inl (ct 3, 1, .inr (.inl (vp_updL f 0 (((opSlips g x y z).2.1).toInt64))))) :: hkW ct b d9 (opSlips g x y z).2.2) H := hP
    have hD : va_D A ((o, .inl (ct 3, 1, .inr (.inl (vp_updL f 0 (((opSlips g x y z).2.1).toInt64))))) :: hkW ct b d9 (opSlips g x y z).2.2) := hD
    refine lv_goto (tgt := 23) hx hb dL_slips_12 (by decide) ?_
    refine lv_iconst (v := nI 0) hx hb dL_slips_23 (by decide) ?_
    have hP9 : va_P D vwCl (hkLW ct b d9 (opSlips g x y z).2.2 o (vp_updL f 0 (((opSlips g x y z).2.1).toInt64))) H := hP
    have hD9 : va_D A (hkLW ct b d9 (opSlips g x y z).2.2 o (vp_updL f 0 (((opSlips g x y z).2.1).toInt64))) := hD
    exact W.iret (v := nI 0) hx hb hr (fun t ht hW => ⟨by rw [hz]; rfl, ⟨d9, (vp_updL f 0 (((opSlips g x y z).2.1).toInt64)), by rw [ht]; exact hP9, hD9, fun _ => rfl⟩, hS.F ht⟩) hS.2.2 dL_slips_24

set_option maxHeartbeats 4000000 in
set_option maxRecDepth 100000 in
theorem c_L_pair (l : Launch) (hfl : l.flags = flags0) (D : va_G) (ct : Nat → ClassId) (sa : Nat → Nat) (G0 sz : Nat) (b : Nat → Nat) (d : Ad) (g : Sg) (o : Nat) (f : Nat → Int64) (x : Int32) (y : Int32) (z : Int32) (hI : Inv g) : Met l yL_pair wsL_pair ({ frames := 8, cells := 3, slots := 18, locals := 128 }) (hkPx D ct sa G0 [.ref (b 0), .int x, .int y, .int z, .ref o] (hkLP D ct b d g o f G0 sz)) (hkLQ D ct b o (va_A (hkLW ct b d g o f) sz) (opPair g x y z)) 3 18 (va_A (hkLW ct b d g o f) sz) := by
  refine hk_ofWH (cc := cL_pair) (maxL := 6) (ret := (some .int)) (by decide) rfl ?_
  intro p e s m args below meth c s₁ B hml hv
  obtain ⟨rfl, hE, hH, hp⟩ := hv
  have hx := B.exec
  have hb := B.bytes
  have hr := B.returns
  have hts := atoms_spec (ws := wsL_pair) B.pre
  have hown : s.vm.findClass RL = some m.cls := findClass_of_methodNamed B.named
  have hlocks := B.notSynchronized
  have htab := vx_table (x := yX2_at) B (hts (.codeWith yL_pair cL_pair 6 (some .int) [(0, 12, 15, 19)]) (List.mem_of_getElem? (i := 0) rfl))
  obtain ⟨hsz, hP, hDG⟩ := hp
  subst hsz
  have hD := hDG.self (sz := s.heap.size)
  generalize hAe : va_A (hkLW ct b d g o f) s.heap.size = A at hD ⊢
  have hA : ∀ q : Nat, s.heap.size ≤ q → A q := fun q h => by rw [← hAe]; exact Or.inr h
  have hS : va_S A s.heap s.heap [] := va_S.rf
  have hl := lv_entry ([.ref (b 0), .int x, .int y, .int z, .ref o]) (n := 6) (Nat.le_of_ble_eq_true rfl)
  rw [lg_entry_eq]
  generalize (lg_sl ([.ref (b 0), .int x, .int y, .int z, .ref o]) ++ List.replicate (6 - (lg_sl ([.ref (b 0), .int x, .int y, .int z, .ref o])).length) Slot.unset).toArray = ls at hl ⊢
  have hl : lv_has ls 6 [(0, .ref (b 0)), (1, .int x), (2, .int y), (3, .int z), (4, .ref o)] := hl
  refine lv_aload hx hb dL_pair_0 (lv_at hl 4 rfl) ?_
  refine lv_iconst (v := nI 0) hx hb dL_pair_2 (by decide) ?_
  refine lv_aload_n hx hb dL_pair_3 rfl (lv_at hl 0 rfl) ?_
  refine lv_iload_n hx hb dL_pair_4 rfl (lv_at hl 1 rfl) ?_
  refine lv_iload_n hx hb dL_pair_5 rfl (lv_at hl 2 rfl) ?_
  refine lv_iload_n hx hb dL_pair_6 rfl (lv_at hl 3 rfl) ?_
  refine hk_L (wr := [(o, .inl (ct 3, 1, .inr (.inl f)))]) (z := (opPair g x y z)) (rest := [.int (nI 0), .ref o]) (vx_runV (As := [.int x, .int y, .int z]) (rest := [.int (nI 0), .ref o]) ⟨hx, hb, hml, hown, hts⟩ (c_X2_pair l hfl D ct sa G0 s.heap.size b d g x y z hI) (cwV 3 hts gL_pair_X2_pair rfl rfl rfl (by decide +kernel) ⟨Nat.le_of_ble_eq_true rfl, Nat.le_of_ble_eq_true rfl⟩) (hk_prxV hE hH (va_recv hE.1 (hP.right (w1 := [(o, .inl (ct 3, 1, .inr (.inl f)))])) (ci := 2) (q0 := 0) rfl rfl) ⟨rfl, hP.right (w1 := [(o, .inl (ct 3, 1, .inr (.inl f)))]), hDG.right (w1 := [(o, .inl (ct 3, 1, .inr (.inl f)))])⟩) rfl rfl hl.1 rfl (lv_room (Nat.le_of_ble_eq_true rfl)) dL_pair_7 ⟨Nat.le_of_ble_eq_true rfl, Nat.le_of_ble_eq_true rfl⟩) rfl hP hD hS hA (fun E ce q9 H locs ho hP hS hce hcv hcl => ?_) (fun d9 H locs hz hP hD hS => ?_)
  · obtain ⟨k, hk, hz⟩ := ho
    have hg9 : (opPair g x y z).2.2 = g := rf_opPair (by rw [hz]; exact nI_ne0 (by omega) (by
        have h9 : k < 1 := (List.getElem?_eq_some_iff.mp hk).1
        omega))
    rcases k with _ | k
    · obtain rfl : E = "java/lang/IndexOutOfBoundsException" := (Option.some.inj hk).symm
      refine vx_catch hown [] ⟨0, 12, 15, 19⟩ [] (htab.trans rfl) (fun z hz => absurd hz List.not_mem_nil) (by decide) (by decide) (hts (.classLink RL 19 "java/lang/IndexOutOfBoundsException") (by decide +kernel)) (hE.use hkN_c1) hce hcv hcl ?_
      refine lv_astore (lv' := [(5, .ref q9), (0, .ref (b 0)), (1, .int x), (2, .int y), (3, .int z), (4, .ref o)]) hx hb dL_pair_15 hl (by decide) rfl (fun ls hl => ?_)
      refine lv_iconst (v := nI 1) hx hb dL_pair_17 (by decide) ?_
      have hP9 : va_P D vwCl (hkLW ct b d (opPair g x y z).2.2 o f) H := by rw [hg9]; exact hP
      have hD9 : va_D A (hkLW ct b d (opPair g x y z).2.2 o f) := by rw [hg9]; exact hD
      exact W.iret (v := nI 1) hx hb hr (fun t ht hW => ⟨by rw [hz], ⟨d, f, by rw [ht]; exact hP9, hD9, fun q => absurd (hz.symm.trans q) (by decide)⟩, hS.F ht⟩) hS.2.2 dL_pair_18
    · exact nomatch hk
  · skip
    have hP : va_P D vwCl ((o, .inl (ct 3, 1, .inr (.inl f))) :: hkW ct b d9 (opPair g x y z).2.2) H := hP
    have hD : va_D A ((o, .inl (ct 3, 1, .inr (.inl f))) :: hkW ct b d9 (opPair g x y z).2.2) := hD
    refine lv_i2l hx hb dL_pair_10 rfl ?_
    refine hk_lst hx hb hE hP hD hS 0 rfl (j := 0) (x := ((opPair g x y z).2.1).toInt64) (by omega) (by omega) dL_pair_11 (fun H locs hP hD hS => ?_)
    have hP : va_P D vwCl ((o, .inl (ct 3, 1, .inr (.inl (vp_updL f 0 (((opPair g x y z).2.1).toInt64))))) :: hkW ct b d9 (opPair g x y z).2.2) H := hP
    have hD : va_D A ((o, .inl (ct 3, 1, .inr (.inl (vp_updL f 0 (((opPair g x y z).2.1).toInt64))))) :: hkW ct b d9 (opPair g x y z).2.2) := hD
    refine lv_goto (tgt := 19) hx hb dL_pair_12 (by decide) ?_
    refine lv_iconst (v := nI 0) hx hb dL_pair_19 (by decide) ?_
    have hP9 : va_P D vwCl (hkLW ct b d9 (opPair g x y z).2.2 o (vp_updL f 0 (((opPair g x y z).2.1).toInt64))) H := hP
    have hD9 : va_D A (hkLW ct b d9 (opPair g x y z).2.2 o (vp_updL f 0 (((opPair g x y z).2.1).toInt64))) := hD
    exact W.iret (v := nI 0) hx hb hr (fun t ht hW => ⟨by rw [hz]; rfl, ⟨d9, (vp_updL f 0 (((opPair g x y z).2.1).toInt64)), by rw [ht]; exact hP9, hD9, fun _ => rfl⟩, hS.F ht⟩) hS.2.2 dL_pair_20

set_option maxHeartbeats 4000000 in
set_option maxRecDepth 100000 in
theorem c_L_pressed (l : Launch) (hfl : l.flags = flags0) (D : va_G) (ct : Nat → ClassId) (sa : Nat → Nat) (G0 sz : Nat) (b : Nat → Nat) (d : Ad) (g : Sg) (o : Nat) (f : Nat → Int64) (x : Int32) (hI : Inv g) : Met l yL_pressed wsL_pressed ({ frames := 8, cells := 1, slots := 6, locals := 125 }) (hkPx D ct sa G0 [.ref (b 0), .int x, .ref o] (hkLP D ct b d g o f G0 sz)) (hkLQ D ct b o (va_A (hkLW ct b d g o f) sz) (opPressed g x)) 1 6 (va_A (hkLW ct b d g o f) sz) := by
  refine hk_ofWH (cc := cL_pressed) (maxL := 4) (ret := (some .int)) (by decide) rfl ?_
  intro p e s m args below meth c s₁ B hml hv
  obtain ⟨rfl, hE, hH, hp⟩ := hv
  have hx := B.exec
  have hb := B.bytes
  have hr := B.returns
  have hts := atoms_spec (ws := wsL_pressed) B.pre
  have hown : s.vm.findClass RL = some m.cls := findClass_of_methodNamed B.named
  have hlocks := B.notSynchronized
  have htab := vx_table (x := yX2_at) B (hts (.codeWith yL_pressed cL_pressed 4 (some .int) [(0, 9, 12, 19)]) (List.mem_of_getElem? (i := 0) rfl))
  obtain ⟨hsz, hP, hDG⟩ := hp
  subst hsz
  have hD := hDG.self (sz := s.heap.size)
  generalize hAe : va_A (hkLW ct b d g o f) s.heap.size = A at hD ⊢
  have hA : ∀ q : Nat, s.heap.size ≤ q → A q := fun q h => by rw [← hAe]; exact Or.inr h
  have hS : va_S A s.heap s.heap [] := va_S.rf
  have hl := lv_entry ([.ref (b 0), .int x, .ref o]) (n := 4) (Nat.le_of_ble_eq_true rfl)
  rw [lg_entry_eq]
  generalize (lg_sl ([.ref (b 0), .int x, .ref o]) ++ List.replicate (4 - (lg_sl ([.ref (b 0), .int x, .ref o])).length) Slot.unset).toArray = ls at hl ⊢
  have hl : lv_has ls 4 [(0, .ref (b 0)), (1, .int x), (2, .ref o)] := hl
  refine lv_aload_n hx hb dL_pressed_0 rfl (lv_at hl 2 rfl) ?_
  refine lv_iconst (v := nI 0) hx hb dL_pressed_1 (by decide) ?_
  refine lv_aload_n hx hb dL_pressed_2 rfl (lv_at hl 0 rfl) ?_
  refine lv_iload_n hx hb dL_pressed_3 rfl (lv_at hl 1 rfl) ?_
  refine hk_L (wr := [(o, .inl (ct 3, 1, .inr (.inl f)))]) (z := (opPressed g x)) (rest := [.int (nI 0), .ref o]) (vx_runV (As := [.int x]) (rest := [.int (nI 0), .ref o]) ⟨hx, hb, hml, hown, hts⟩ (c_X2_pressed l hfl D ct sa G0 s.heap.size b d g x hI) (cwV 1 hts gL_pressed_X2_pressed rfl rfl rfl (by decide +kernel) ⟨Nat.le_of_ble_eq_true rfl, Nat.le_of_ble_eq_true rfl⟩) (hk_prxV hE hH (va_recv hE.1 (hP.right (w1 := [(o, .inl (ct 3, 1, .inr (.inl f)))])) (ci := 2) (q0 := 0) rfl rfl) ⟨rfl, hP.right (w1 := [(o, .inl (ct 3, 1, .inr (.inl f)))]), hDG.right (w1 := [(o, .inl (ct 3, 1, .inr (.inl f)))])⟩) rfl rfl hl.1 rfl (lv_room (Nat.le_of_ble_eq_true rfl)) dL_pressed_4 ⟨Nat.le_of_ble_eq_true rfl, Nat.le_of_ble_eq_true rfl⟩) rfl hP hD hS hA (fun E ce q9 H locs ho hP hS hce hcv hcl => ?_) (fun d9 H locs hz hP hD hS => ?_)
  · obtain ⟨k, hk, hz⟩ := ho
    have hg9 : (opPressed g x).2.2 = g := rf_opPressed (by rw [hz]; exact nI_ne0 (by omega) (by
        have h9 : k < 1 := (List.getElem?_eq_some_iff.mp hk).1
        omega))
    rcases k with _ | k
    · obtain rfl : E = "java/lang/IndexOutOfBoundsException" := (Option.some.inj hk).symm
      refine vx_catch hown [] ⟨0, 9, 12, 19⟩ [] (htab.trans rfl) (fun z hz => absurd hz List.not_mem_nil) (by decide) (by decide) (hts (.classLink RL 19 "java/lang/IndexOutOfBoundsException") (by decide +kernel)) (hE.use hkN_c1) hce hcv hcl ?_
      refine lv_astore_n (lv' := [(3, .ref q9), (0, .ref (b 0)), (1, .int x), (2, .ref o)]) hx hb dL_pressed_12 rfl hl (by decide) rfl (fun ls hl => ?_)
      refine lv_iconst (v := nI 1) hx hb dL_pressed_13 (by decide) ?_
      have hP9 : va_P D vwCl (hkLW ct b d (opPressed g x).2.2 o f) H := by rw [hg9]; exact hP
      have hD9 : va_D A (hkLW ct b d (opPressed g x).2.2 o f) := by rw [hg9]; exact hD
      exact W.iret (v := nI 1) hx hb hr (fun t ht hW => ⟨by rw [hz], ⟨d, f, by rw [ht]; exact hP9, hD9, fun q => absurd (hz.symm.trans q) (by decide)⟩, hS.F ht⟩) hS.2.2 dL_pressed_14
    · exact nomatch hk
  · skip
    have hP : va_P D vwCl ((o, .inl (ct 3, 1, .inr (.inl f))) :: hkW ct b d9 (opPressed g x).2.2) H := hP
    have hD : va_D A ((o, .inl (ct 3, 1, .inr (.inl f))) :: hkW ct b d9 (opPressed g x).2.2) := hD
    refine lv_i2l hx hb dL_pressed_7 rfl ?_
    refine hk_lst hx hb hE hP hD hS 0 rfl (j := 0) (x := ((opPressed g x).2.1).toInt64) (by omega) (by omega) dL_pressed_8 (fun H locs hP hD hS => ?_)
    have hP : va_P D vwCl ((o, .inl (ct 3, 1, .inr (.inl (vp_updL f 0 (((opPressed g x).2.1).toInt64))))) :: hkW ct b d9 (opPressed g x).2.2) H := hP
    have hD : va_D A ((o, .inl (ct 3, 1, .inr (.inl (vp_updL f 0 (((opPressed g x).2.1).toInt64))))) :: hkW ct b d9 (opPressed g x).2.2) := hD
    refine lv_goto (tgt := 15) hx hb dL_pressed_9 (by decide) ?_
    refine lv_iconst (v := nI 0) hx hb dL_pressed_15 (by decide) ?_
    have hP9 : va_P D vwCl (hkLW ct b d9 (opPressed g x).2.2 o (vp_updL f 0 (((opPressed g x).2.1).toInt64))) H := hP
    have hD9 : va_D A (hkLW ct b d9 (opPressed g x).2.2 o (vp_updL f 0 (((opPressed g x).2.1).toInt64))) := hD
    exact W.iret (v := nI 0) hx hb hr (fun t ht hW => ⟨by rw [hz]; rfl, ⟨d9, (vp_updL f 0 (((opPressed g x).2.1).toInt64)), by rw [ht]; exact hP9, hD9, fun _ => rfl⟩, hS.F ht⟩) hS.2.2 dL_pressed_16

set_option maxHeartbeats 4000000 in
set_option maxRecDepth 100000 in
theorem c_L_history (l : Launch) (hfl : l.flags = flags0) (D : va_G) (ct : Nat → ClassId) (sa : Nat → Nat) (G0 sz : Nat) (b : Nat → Nat) (d : Ad) (g : Sg) (o : Nat) (f : Nat → Int64) (x : Int32) (y : Int32) (hI : Inv g) : Met l yL_history wsL_history ({ frames := 8, cells := 2, slots := 12, locals := 127 }) (hkPx D ct sa G0 [.ref (b 0), .int x, .int y, .ref o] (hkLP D ct b d g o f G0 sz)) (hkLQ D ct b o (va_A (hkLW ct b d g o f) sz) (opHistory g x y)) 2 12 (va_A (hkLW ct b d g o f) sz) := by
  refine hk_ofWH (cc := cL_history) (maxL := 5) (ret := (some .int)) (by decide) rfl ?_
  intro p e s m args below meth c s₁ B hml hv
  obtain ⟨rfl, hE, hH, hp⟩ := hv
  have hx := B.exec
  have hb := B.bytes
  have hr := B.returns
  have hts := atoms_spec (ws := wsL_history) B.pre
  have hown : s.vm.findClass RL = some m.cls := findClass_of_methodNamed B.named
  have hlocks := B.notSynchronized
  have htab := vx_table (x := yX2_at) B (hts (.codeWith yL_history cL_history 5 (some .int) [(0, 10, 13, 19)]) (List.mem_of_getElem? (i := 0) rfl))
  obtain ⟨hsz, hP, hDG⟩ := hp
  subst hsz
  have hD := hDG.self (sz := s.heap.size)
  generalize hAe : va_A (hkLW ct b d g o f) s.heap.size = A at hD ⊢
  have hA : ∀ q : Nat, s.heap.size ≤ q → A q := fun q h => by rw [← hAe]; exact Or.inr h
  have hS : va_S A s.heap s.heap [] := va_S.rf
  have hl := lv_entry ([.ref (b 0), .int x, .int y, .ref o]) (n := 5) (Nat.le_of_ble_eq_true rfl)
  rw [lg_entry_eq]
  generalize (lg_sl ([.ref (b 0), .int x, .int y, .ref o]) ++ List.replicate (5 - (lg_sl ([.ref (b 0), .int x, .int y, .ref o])).length) Slot.unset).toArray = ls at hl ⊢
  have hl : lv_has ls 5 [(0, .ref (b 0)), (1, .int x), (2, .int y), (3, .ref o)] := hl
  refine lv_aload_n hx hb dL_history_0 rfl (lv_at hl 3 rfl) ?_
  refine lv_iconst (v := nI 0) hx hb dL_history_1 (by decide) ?_
  refine lv_aload_n hx hb dL_history_2 rfl (lv_at hl 0 rfl) ?_
  refine lv_iload_n hx hb dL_history_3 rfl (lv_at hl 1 rfl) ?_
  refine lv_iload_n hx hb dL_history_4 rfl (lv_at hl 2 rfl) ?_
  refine hk_L (wr := [(o, .inl (ct 3, 1, .inr (.inl f)))]) (z := (opHistory g x y)) (rest := [.int (nI 0), .ref o]) (vx_runV (As := [.int x, .int y]) (rest := [.int (nI 0), .ref o]) ⟨hx, hb, hml, hown, hts⟩ (c_X2_history l hfl D ct sa G0 s.heap.size b d g x y hI) (cwV 2 hts gL_history_X2_history rfl rfl rfl (by decide +kernel) ⟨Nat.le_of_ble_eq_true rfl, Nat.le_of_ble_eq_true rfl⟩) (hk_prxV hE hH (va_recv hE.1 (hP.right (w1 := [(o, .inl (ct 3, 1, .inr (.inl f)))])) (ci := 2) (q0 := 0) rfl rfl) ⟨rfl, hP.right (w1 := [(o, .inl (ct 3, 1, .inr (.inl f)))]), hDG.right (w1 := [(o, .inl (ct 3, 1, .inr (.inl f)))])⟩) rfl rfl hl.1 rfl (lv_room (Nat.le_of_ble_eq_true rfl)) dL_history_5 ⟨Nat.le_of_ble_eq_true rfl, Nat.le_of_ble_eq_true rfl⟩) rfl hP hD hS hA (fun E ce q9 H locs ho hP hS hce hcv hcl => ?_) (fun d9 H locs hz hP hD hS => ?_)
  · obtain ⟨k, hk, hz⟩ := ho
    have hg9 : (opHistory g x y).2.2 = g := rf_opHistory (by rw [hz]; exact nI_ne0 (by omega) (by
        have h9 : k < 1 := (List.getElem?_eq_some_iff.mp hk).1
        omega))
    rcases k with _ | k
    · obtain rfl : E = "java/lang/IndexOutOfBoundsException" := (Option.some.inj hk).symm
      refine vx_catch hown [] ⟨0, 10, 13, 19⟩ [] (htab.trans rfl) (fun z hz => absurd hz List.not_mem_nil) (by decide) (by decide) (hts (.classLink RL 19 "java/lang/IndexOutOfBoundsException") (by decide +kernel)) (hE.use hkN_c1) hce hcv hcl ?_
      refine lv_astore (lv' := [(4, .ref q9), (0, .ref (b 0)), (1, .int x), (2, .int y), (3, .ref o)]) hx hb dL_history_13 hl (by decide) rfl (fun ls hl => ?_)
      refine lv_iconst (v := nI 1) hx hb dL_history_15 (by decide) ?_
      have hP9 : va_P D vwCl (hkLW ct b d (opHistory g x y).2.2 o f) H := by rw [hg9]; exact hP
      have hD9 : va_D A (hkLW ct b d (opHistory g x y).2.2 o f) := by rw [hg9]; exact hD
      exact W.iret (v := nI 1) hx hb hr (fun t ht hW => ⟨by rw [hz], ⟨d, f, by rw [ht]; exact hP9, hD9, fun q => absurd (hz.symm.trans q) (by decide)⟩, hS.F ht⟩) hS.2.2 dL_history_16
    · exact nomatch hk
  · skip
    have hP : va_P D vwCl ((o, .inl (ct 3, 1, .inr (.inl f))) :: hkW ct b d9 (opHistory g x y).2.2) H := hP
    have hD : va_D A ((o, .inl (ct 3, 1, .inr (.inl f))) :: hkW ct b d9 (opHistory g x y).2.2) := hD
    refine lv_i2l hx hb dL_history_8 rfl ?_
    refine hk_lst hx hb hE hP hD hS 0 rfl (j := 0) (x := ((opHistory g x y).2.1).toInt64) (by omega) (by omega) dL_history_9 (fun H locs hP hD hS => ?_)
    have hP : va_P D vwCl ((o, .inl (ct 3, 1, .inr (.inl (vp_updL f 0 (((opHistory g x y).2.1).toInt64))))) :: hkW ct b d9 (opHistory g x y).2.2) H := hP
    have hD : va_D A ((o, .inl (ct 3, 1, .inr (.inl (vp_updL f 0 (((opHistory g x y).2.1).toInt64))))) :: hkW ct b d9 (opHistory g x y).2.2) := hD
    refine lv_goto (tgt := 17) hx hb dL_history_10 (by decide) ?_
    refine lv_iconst (v := nI 0) hx hb dL_history_17 (by decide) ?_
    have hP9 : va_P D vwCl (hkLW ct b d9 (opHistory g x y).2.2 o (vp_updL f 0 (((opHistory g x y).2.1).toInt64))) H := hP
    have hD9 : va_D A (hkLW ct b d9 (opHistory g x y).2.2 o (vp_updL f 0 (((opHistory g x y).2.1).toInt64))) := hD
    exact W.iret (v := nI 0) hx hb hr (fun t ht hW => ⟨by rw [hz]; rfl, ⟨d9, (vp_updL f 0 (((opHistory g x y).2.1).toInt64)), by rw [ht]; exact hP9, hD9, fun _ => rfl⟩, hS.F ht⟩) hS.2.2 dL_history_18

set_option maxHeartbeats 4000000 in
set_option maxRecDepth 100000 in
theorem c_L_time (l : Launch) (hfl : l.flags = flags0) (D : va_G) (ct : Nat → ClassId) (sa : Nat → Nat) (G0 sz : Nat) (b : Nat → Nat) (d : Ad) (g : Sg) (o : Nat) (f : Nat → Int64) (x : Int32) (hI : Inv g) : Met l yL_time wsL_time ({ frames := 8, cells := 1, slots := 6, locals := 125 }) (hkPx D ct sa G0 [.ref (b 0), .int x, .ref o] (hkLP D ct b d g o f G0 sz)) (hkLQ D ct b o (va_A (hkLW ct b d g o f) sz) (opTime g x)) 1 6 (va_A (hkLW ct b d g o f) sz) := by
  refine hk_ofWH (cc := cL_time) (maxL := 4) (ret := (some .int)) (by decide) rfl ?_
  intro p e s m args below meth c s₁ B hml hv
  obtain ⟨rfl, hE, hH, hp⟩ := hv
  have hx := B.exec
  have hb := B.bytes
  have hr := B.returns
  have hts := atoms_spec (ws := wsL_time) B.pre
  have hown : s.vm.findClass RL = some m.cls := findClass_of_methodNamed B.named
  have hlocks := B.notSynchronized
  have htab := vx_table (x := yX2_at) B (hts (.codeWith yL_time cL_time 4 (some .int) [(0, 9, 12, 19)]) (List.mem_of_getElem? (i := 0) rfl))
  obtain ⟨hsz, hP, hDG⟩ := hp
  subst hsz
  have hD := hDG.self (sz := s.heap.size)
  generalize hAe : va_A (hkLW ct b d g o f) s.heap.size = A at hD ⊢
  have hA : ∀ q : Nat, s.heap.size ≤ q → A q := fun q h => by rw [← hAe]; exact Or.inr h
  have hS : va_S A s.heap s.heap [] := va_S.rf
  have hl := lv_entry ([.ref (b 0), .int x, .ref o]) (n := 4) (Nat.le_of_ble_eq_true rfl)
  rw [lg_entry_eq]
  generalize (lg_sl ([.ref (b 0), .int x, .ref o]) ++ List.replicate (4 - (lg_sl ([.ref (b 0), .int x, .ref o])).length) Slot.unset).toArray = ls at hl ⊢
  have hl : lv_has ls 4 [(0, .ref (b 0)), (1, .int x), (2, .ref o)] := hl
  refine lv_aload_n hx hb dL_time_0 rfl (lv_at hl 2 rfl) ?_
  refine lv_iconst (v := nI 0) hx hb dL_time_1 (by decide) ?_
  refine lv_aload_n hx hb dL_time_2 rfl (lv_at hl 0 rfl) ?_
  refine lv_iload_n hx hb dL_time_3 rfl (lv_at hl 1 rfl) ?_
  refine hk_L (wr := [(o, .inl (ct 3, 1, .inr (.inl f)))]) (z := (opTime g x)) (rest := [.int (nI 0), .ref o]) (vx_runV (As := [.int x]) (rest := [.int (nI 0), .ref o]) ⟨hx, hb, hml, hown, hts⟩ (c_X2_time l hfl D ct sa G0 s.heap.size b d g x hI) (cwV 1 hts gL_time_X2_time rfl rfl rfl (by decide +kernel) ⟨Nat.le_of_ble_eq_true rfl, Nat.le_of_ble_eq_true rfl⟩) (hk_prxV hE hH (va_recv hE.1 (hP.right (w1 := [(o, .inl (ct 3, 1, .inr (.inl f)))])) (ci := 2) (q0 := 0) rfl rfl) ⟨rfl, hP.right (w1 := [(o, .inl (ct 3, 1, .inr (.inl f)))]), hDG.right (w1 := [(o, .inl (ct 3, 1, .inr (.inl f)))])⟩) rfl rfl hl.1 rfl (lv_room (Nat.le_of_ble_eq_true rfl)) dL_time_4 ⟨Nat.le_of_ble_eq_true rfl, Nat.le_of_ble_eq_true rfl⟩) rfl hP hD hS hA (fun E ce q9 H locs ho hP hS hce hcv hcl => ?_) (fun d9 H locs hz hP hD hS => ?_)
  · obtain ⟨k, hk, hz⟩ := ho
    have hg9 : (opTime g x).2.2 = g := rf_opTime (by rw [hz]; exact nI_ne0 (by omega) (by
        have h9 : k < 1 := (List.getElem?_eq_some_iff.mp hk).1
        omega))
    rcases k with _ | k
    · obtain rfl : E = "java/lang/IndexOutOfBoundsException" := (Option.some.inj hk).symm
      refine vx_catch hown [] ⟨0, 9, 12, 19⟩ [] (htab.trans rfl) (fun z hz => absurd hz List.not_mem_nil) (by decide) (by decide) (hts (.classLink RL 19 "java/lang/IndexOutOfBoundsException") (by decide +kernel)) (hE.use hkN_c1) hce hcv hcl ?_
      refine lv_astore_n (lv' := [(3, .ref q9), (0, .ref (b 0)), (1, .int x), (2, .ref o)]) hx hb dL_time_12 rfl hl (by decide) rfl (fun ls hl => ?_)
      refine lv_iconst (v := nI 1) hx hb dL_time_13 (by decide) ?_
      have hP9 : va_P D vwCl (hkLW ct b d (opTime g x).2.2 o f) H := by rw [hg9]; exact hP
      have hD9 : va_D A (hkLW ct b d (opTime g x).2.2 o f) := by rw [hg9]; exact hD
      exact W.iret (v := nI 1) hx hb hr (fun t ht hW => ⟨by rw [hz], ⟨d, f, by rw [ht]; exact hP9, hD9, fun q => absurd (hz.symm.trans q) (by decide)⟩, hS.F ht⟩) hS.2.2 dL_time_14
    · exact nomatch hk
  · skip
    have hP : va_P D vwCl ((o, .inl (ct 3, 1, .inr (.inl f))) :: hkW ct b d9 (opTime g x).2.2) H := hP
    have hD : va_D A ((o, .inl (ct 3, 1, .inr (.inl f))) :: hkW ct b d9 (opTime g x).2.2) := hD
    refine lv_i2l hx hb dL_time_7 rfl ?_
    refine hk_lst hx hb hE hP hD hS 0 rfl (j := 0) (x := ((opTime g x).2.1).toInt64) (by omega) (by omega) dL_time_8 (fun H locs hP hD hS => ?_)
    have hP : va_P D vwCl ((o, .inl (ct 3, 1, .inr (.inl (vp_updL f 0 (((opTime g x).2.1).toInt64))))) :: hkW ct b d9 (opTime g x).2.2) H := hP
    have hD : va_D A ((o, .inl (ct 3, 1, .inr (.inl (vp_updL f 0 (((opTime g x).2.1).toInt64))))) :: hkW ct b d9 (opTime g x).2.2) := hD
    refine lv_goto (tgt := 15) hx hb dL_time_9 (by decide) ?_
    refine lv_iconst (v := nI 0) hx hb dL_time_15 (by decide) ?_
    have hP9 : va_P D vwCl (hkLW ct b d9 (opTime g x).2.2 o (vp_updL f 0 (((opTime g x).2.1).toInt64))) H := hP
    have hD9 : va_D A (hkLW ct b d9 (opTime g x).2.2 o (vp_updL f 0 (((opTime g x).2.1).toInt64))) := hD
    exact W.iret (v := nI 0) hx hb hr (fun t ht hW => ⟨by rw [hz]; rfl, ⟨d9, (vp_updL f 0 (((opTime g x).2.1).toInt64)), by rw [ht]; exact hP9, hD9, fun _ => rfl⟩, hS.F ht⟩) hS.2.2 dL_time_16

set_option maxHeartbeats 4000000 in
set_option maxRecDepth 100000 in
theorem c_L_timeAnew (l : Launch) (hfl : l.flags = flags0) (D : va_G) (ct : Nat → ClassId) (sa : Nat → Nat) (G0 sz : Nat) (b : Nat → Nat) (d : Ad) (g : Sg) (o : Nat) (f : Nat → Int64) (x : Int32) (hI : Inv g) : Met l yL_timeAnew wsL_timeAnew ({ frames := 8, cells := 1, slots := 6, locals := 125 }) (hkPx D ct sa G0 [.ref (b 0), .int x, .ref o] (hkLP D ct b d g o f G0 sz)) (hkLQ D ct b o (va_A (hkLW ct b d g o f) sz) (opTime g x)) 1 6 (va_A (hkLW ct b d g o f) sz) := by
  refine hk_ofWH (cc := cL_timeAnew) (maxL := 4) (ret := (some .int)) (by decide) rfl ?_
  intro p e s m args below meth c s₁ B hml hv
  obtain ⟨rfl, hE, hH, hp⟩ := hv
  have hx := B.exec
  have hb := B.bytes
  have hr := B.returns
  have hts := atoms_spec (ws := wsL_timeAnew) B.pre
  have hown : s.vm.findClass RL = some m.cls := findClass_of_methodNamed B.named
  have hlocks := B.notSynchronized
  have htab := vx_table (x := yX2_at) B (hts (.codeWith yL_timeAnew cL_timeAnew 4 (some .int) [(0, 9, 12, 19)]) (List.mem_of_getElem? (i := 0) rfl))
  obtain ⟨hsz, hP, hDG⟩ := hp
  subst hsz
  have hD := hDG.self (sz := s.heap.size)
  generalize hAe : va_A (hkLW ct b d g o f) s.heap.size = A at hD ⊢
  have hA : ∀ q : Nat, s.heap.size ≤ q → A q := fun q h => by rw [← hAe]; exact Or.inr h
  have hS : va_S A s.heap s.heap [] := va_S.rf
  have hl := lv_entry ([.ref (b 0), .int x, .ref o]) (n := 4) (Nat.le_of_ble_eq_true rfl)
  rw [lg_entry_eq]
  generalize (lg_sl ([.ref (b 0), .int x, .ref o]) ++ List.replicate (4 - (lg_sl ([.ref (b 0), .int x, .ref o])).length) Slot.unset).toArray = ls at hl ⊢
  have hl : lv_has ls 4 [(0, .ref (b 0)), (1, .int x), (2, .ref o)] := hl
  refine lv_aload_n hx hb dL_timeAnew_0 rfl (lv_at hl 2 rfl) ?_
  refine lv_iconst (v := nI 0) hx hb dL_timeAnew_1 (by decide) ?_
  refine lv_aload_n hx hb dL_timeAnew_2 rfl (lv_at hl 0 rfl) ?_
  refine lv_iload_n hx hb dL_timeAnew_3 rfl (lv_at hl 1 rfl) ?_
  refine hk_L (wr := [(o, .inl (ct 3, 1, .inr (.inl f)))]) (z := (opTime g x)) (rest := [.int (nI 0), .ref o]) (vx_runV (As := [.int x]) (rest := [.int (nI 0), .ref o]) ⟨hx, hb, hml, hown, hts⟩ (c_X2_timeAnew l hfl D ct sa G0 s.heap.size b d g x hI) (cwV 1 hts gL_timeAnew_X2_timeAnew rfl rfl rfl (by decide +kernel) ⟨Nat.le_of_ble_eq_true rfl, Nat.le_of_ble_eq_true rfl⟩) (hk_prxV hE hH (va_recv hE.1 (hP.right (w1 := [(o, .inl (ct 3, 1, .inr (.inl f)))])) (ci := 2) (q0 := 0) rfl rfl) ⟨rfl, hP.right (w1 := [(o, .inl (ct 3, 1, .inr (.inl f)))]), hDG.right (w1 := [(o, .inl (ct 3, 1, .inr (.inl f)))])⟩) rfl rfl hl.1 rfl (lv_room (Nat.le_of_ble_eq_true rfl)) dL_timeAnew_4 ⟨Nat.le_of_ble_eq_true rfl, Nat.le_of_ble_eq_true rfl⟩) rfl hP hD hS hA (fun E ce q9 H locs ho hP hS hce hcv hcl => ?_) (fun d9 H locs hz hP hD hS => ?_)
  · obtain ⟨k, hk, hz⟩ := ho
    have hg9 : (opTime g x).2.2 = g := rf_opTime (by rw [hz]; exact nI_ne0 (by omega) (by
        have h9 : k < 1 := (List.getElem?_eq_some_iff.mp hk).1
        omega))
    rcases k with _ | k
    · obtain rfl : E = "java/lang/IndexOutOfBoundsException" := (Option.some.inj hk).symm
      refine vx_catch hown [] ⟨0, 9, 12, 19⟩ [] (htab.trans rfl) (fun z hz => absurd hz List.not_mem_nil) (by decide) (by decide) (hts (.classLink RL 19 "java/lang/IndexOutOfBoundsException") (by decide +kernel)) (hE.use hkN_c1) hce hcv hcl ?_
      refine lv_astore_n (lv' := [(3, .ref q9), (0, .ref (b 0)), (1, .int x), (2, .ref o)]) hx hb dL_timeAnew_12 rfl hl (by decide) rfl (fun ls hl => ?_)
      refine lv_iconst (v := nI 1) hx hb dL_timeAnew_13 (by decide) ?_
      have hP9 : va_P D vwCl (hkLW ct b d (opTime g x).2.2 o f) H := by rw [hg9]; exact hP
      have hD9 : va_D A (hkLW ct b d (opTime g x).2.2 o f) := by rw [hg9]; exact hD
      exact W.iret (v := nI 1) hx hb hr (fun t ht hW => ⟨by rw [hz], ⟨d, f, by rw [ht]; exact hP9, hD9, fun q => absurd (hz.symm.trans q) (by decide)⟩, hS.F ht⟩) hS.2.2 dL_timeAnew_14
    · exact nomatch hk
  · skip
    have hP : va_P D vwCl ((o, .inl (ct 3, 1, .inr (.inl f))) :: hkW ct b d9 (opTime g x).2.2) H := hP
    have hD : va_D A ((o, .inl (ct 3, 1, .inr (.inl f))) :: hkW ct b d9 (opTime g x).2.2) := hD
    refine lv_i2l hx hb dL_timeAnew_7 rfl ?_
    refine hk_lst hx hb hE hP hD hS 0 rfl (j := 0) (x := ((opTime g x).2.1).toInt64) (by omega) (by omega) dL_timeAnew_8 (fun H locs hP hD hS => ?_)
    have hP : va_P D vwCl ((o, .inl (ct 3, 1, .inr (.inl (vp_updL f 0 (((opTime g x).2.1).toInt64))))) :: hkW ct b d9 (opTime g x).2.2) H := hP
    have hD : va_D A ((o, .inl (ct 3, 1, .inr (.inl (vp_updL f 0 (((opTime g x).2.1).toInt64))))) :: hkW ct b d9 (opTime g x).2.2) := hD
    refine lv_goto (tgt := 15) hx hb dL_timeAnew_9 (by decide) ?_
    refine lv_iconst (v := nI 0) hx hb dL_timeAnew_15 (by decide) ?_
    have hP9 : va_P D vwCl (hkLW ct b d9 (opTime g x).2.2 o (vp_updL f 0 (((opTime g x).2.1).toInt64))) H := hP
    have hD9 : va_D A (hkLW ct b d9 (opTime g x).2.2 o (vp_updL f 0 (((opTime g x).2.1).toInt64))) := hD
    exact W.iret (v := nI 0) hx hb hr (fun t ht hW => ⟨by rw [hz]; rfl, ⟨d9, (vp_updL f 0 (((opTime g x).2.1).toInt64)), by rw [ht]; exact hP9, hD9, fun _ => rfl⟩, hS.F ht⟩) hS.2.2 dL_timeAnew_16

set_option maxHeartbeats 4000000 in
set_option maxRecDepth 100000 in
theorem c_L_lesson (l : Launch) (hfl : l.flags = flags0) (D : va_G) (ct : Nat → ClassId) (sa : Nat → Nat) (G0 sz : Nat) (b : Nat → Nat) (d : Ad) (g : Sg) (o : Nat) (f : Nat → Int64) (x : Int32) (y : Int32) (hI : Inv g) : Met l yL_lesson wsL_lesson ({ frames := 8, cells := 2, slots := 12, locals := 127 }) (hkPx D ct sa G0 [.ref (b 0), .int x, .int y, .ref o] (hkLP D ct b d g o f G0 sz)) (hkLQ D ct b o (va_A (hkLW ct b d g o f) sz) (opLesson g x y)) 2 12 (va_A (hkLW ct b d g o f) sz) := by
  refine hk_ofWH (cc := cL_lesson) (maxL := 5) (ret := (some .int)) (by decide) rfl ?_
  intro p e s m args below meth c s₁ B hml hv
  obtain ⟨rfl, hE, hH, hp⟩ := hv
  have hx := B.exec
  have hb := B.bytes
  have hr := B.returns
  have hts := atoms_spec (ws := wsL_lesson) B.pre
  have hown : s.vm.findClass RL = some m.cls := findClass_of_methodNamed B.named
  have hlocks := B.notSynchronized
  have htab := vx_table (x := yX2_at) B (hts (.codeWith yL_lesson cL_lesson 5 (some .int) [(0, 10, 13, 19)]) (List.mem_of_getElem? (i := 0) rfl))
  obtain ⟨hsz, hP, hDG⟩ := hp
  subst hsz
  have hD := hDG.self (sz := s.heap.size)
  generalize hAe : va_A (hkLW ct b d g o f) s.heap.size = A at hD ⊢
  have hA : ∀ q : Nat, s.heap.size ≤ q → A q := fun q h => by rw [← hAe]; exact Or.inr h
  have hS : va_S A s.heap s.heap [] := va_S.rf
  have hl := lv_entry ([.ref (b 0), .int x, .int y, .ref o]) (n := 5) (Nat.le_of_ble_eq_true rfl)
  rw [lg_entry_eq]
  generalize (lg_sl ([.ref (b 0), .int x, .int y, .ref o]) ++ List.replicate (5 - (lg_sl ([.ref (b 0), .int x, .int y, .ref o])).length) Slot.unset).toArray = ls at hl ⊢
  have hl : lv_has ls 5 [(0, .ref (b 0)), (1, .int x), (2, .int y), (3, .ref o)] := hl
  refine lv_aload_n hx hb dL_lesson_0 rfl (lv_at hl 3 rfl) ?_
  refine lv_iconst (v := nI 0) hx hb dL_lesson_1 (by decide) ?_
  refine lv_aload_n hx hb dL_lesson_2 rfl (lv_at hl 0 rfl) ?_
  refine lv_iload_n hx hb dL_lesson_3 rfl (lv_at hl 1 rfl) ?_
  refine lv_iload_n hx hb dL_lesson_4 rfl (lv_at hl 2 rfl) ?_
  refine hk_L (wr := [(o, .inl (ct 3, 1, .inr (.inl f)))]) (z := (opLesson g x y)) (rest := [.int (nI 0), .ref o]) (vx_runV (As := [.int x, .int y]) (rest := [.int (nI 0), .ref o]) ⟨hx, hb, hml, hown, hts⟩ (c_X2_lesson l hfl D ct sa G0 s.heap.size b d g x y hI) (cwV 2 hts gL_lesson_X2_lesson rfl rfl rfl (by decide +kernel) ⟨Nat.le_of_ble_eq_true rfl, Nat.le_of_ble_eq_true rfl⟩) (hk_prxV hE hH (va_recv hE.1 (hP.right (w1 := [(o, .inl (ct 3, 1, .inr (.inl f)))])) (ci := 2) (q0 := 0) rfl rfl) ⟨rfl, hP.right (w1 := [(o, .inl (ct 3, 1, .inr (.inl f)))]), hDG.right (w1 := [(o, .inl (ct 3, 1, .inr (.inl f)))])⟩) rfl rfl hl.1 rfl (lv_room (Nat.le_of_ble_eq_true rfl)) dL_lesson_5 ⟨Nat.le_of_ble_eq_true rfl, Nat.le_of_ble_eq_true rfl⟩) rfl hP hD hS hA (fun E ce q9 H locs ho hP hS hce hcv hcl => ?_) (fun d9 H locs hz hP hD hS => ?_)
  · obtain ⟨k, hk, hz⟩ := ho
    have hg9 : (opLesson g x y).2.2 = g := rf_opLesson (by rw [hz]; exact nI_ne0 (by omega) (by
        have h9 : k < 1 := (List.getElem?_eq_some_iff.mp hk).1
        omega))
    rcases k with _ | k
    · obtain rfl : E = "java/lang/IndexOutOfBoundsException" := (Option.some.inj hk).symm
      refine vx_catch hown [] ⟨0, 10, 13, 19⟩ [] (htab.trans rfl) (fun z hz => absurd hz List.not_mem_nil) (by decide) (by decide) (hts (.classLink RL 19 "java/lang/IndexOutOfBoundsException") (by decide +kernel)) (hE.use hkN_c1) hce hcv hcl ?_
      refine lv_astore (lv' := [(4, .ref q9), (0, .ref (b 0)), (1, .int x), (2, .int y), (3, .ref o)]) hx hb dL_lesson_13 hl (by decide) rfl (fun ls hl => ?_)
      refine lv_iconst (v := nI 1) hx hb dL_lesson_15 (by decide) ?_
      have hP9 : va_P D vwCl (hkLW ct b d (opLesson g x y).2.2 o f) H := by rw [hg9]; exact hP
      have hD9 : va_D A (hkLW ct b d (opLesson g x y).2.2 o f) := by rw [hg9]; exact hD
      exact W.iret (v := nI 1) hx hb hr (fun t ht hW => ⟨by rw [hz], ⟨d, f, by rw [ht]; exact hP9, hD9, fun q => absurd (hz.symm.trans q) (by decide)⟩, hS.F ht⟩) hS.2.2 dL_lesson_16
    · exact nomatch hk
  · skip
    have hP : va_P D vwCl ((o, .inl (ct 3, 1, .inr (.inl f))) :: hkW ct b d9 (opLesson g x y).2.2) H := hP
    have hD : va_D A ((o, .inl (ct 3, 1, .inr (.inl f))) :: hkW ct b d9 (opLesson g x y).2.2) := hD
    refine lv_i2l hx hb dL_lesson_8 rfl ?_
    refine hk_lst hx hb hE hP hD hS 0 rfl (j := 0) (x := ((opLesson g x y).2.1).toInt64) (by omega) (by omega) dL_lesson_9 (fun H locs hP hD hS => ?_)
    have hP : va_P D vwCl ((o, .inl (ct 3, 1, .inr (.inl (vp_updL f 0 (((opLesson g x y).2.1).toInt64))))) :: hkW ct b d9 (opLesson g x y).2.2) H := hP
    have hD : va_D A ((o, .inl (ct 3, 1, .inr (.inl (vp_updL f 0 (((opLesson g x y).2.1).toInt64))))) :: hkW ct b d9 (opLesson g x y).2.2) := hD
    refine lv_goto (tgt := 17) hx hb dL_lesson_10 (by decide) ?_
    refine lv_iconst (v := nI 0) hx hb dL_lesson_17 (by decide) ?_
    have hP9 : va_P D vwCl (hkLW ct b d9 (opLesson g x y).2.2 o (vp_updL f 0 (((opLesson g x y).2.1).toInt64))) H := hP
    have hD9 : va_D A (hkLW ct b d9 (opLesson g x y).2.2 o (vp_updL f 0 (((opLesson g x y).2.1).toInt64))) := hD
    exact W.iret (v := nI 0) hx hb hr (fun t ht hW => ⟨by rw [hz]; rfl, ⟨d9, (vp_updL f 0 (((opLesson g x y).2.1).toInt64)), by rw [ht]; exact hP9, hD9, fun _ => rfl⟩, hS.F ht⟩) hS.2.2 dL_lesson_18

set_option maxHeartbeats 4000000 in
set_option maxRecDepth 100000 in
theorem c_L_saves (l : Launch) (hfl : l.flags = flags0) (D : va_G) (ct : Nat → ClassId) (sa : Nat → Nat) (G0 sz : Nat) (b : Nat → Nat) (d : Ad) (g : Sg) (o : Nat) (f : Nat → Int64) (x : Int32) (y : Int32) (z : Int32) (hI : Inv g) : Met l yL_saves wsL_saves ({ frames := 9, cells := 4, slots := 24, locals := 147 }) (hkPx D ct sa G0 [.ref (b 0), .int x, .int y, .int z, .ref o] (hkLP D ct b d g o f G0 sz)) (hkLQ D ct b o (va_A (hkLW ct b d g o f) sz) (opSaves g x y z)) 4 24 (va_A (hkLW ct b d g o f) sz) := by
  refine hk_ofWH (cc := cL_saves) (maxL := 6) (ret := (some .int)) (by decide) rfl ?_
  intro p e s m args below meth c s₁ B hml hv
  obtain ⟨rfl, hE, hH, hp⟩ := hv
  have hx := B.exec
  have hb := B.bytes
  have hr := B.returns
  have hts := atoms_spec (ws := wsL_saves) B.pre
  have hown : s.vm.findClass RL = some m.cls := findClass_of_methodNamed B.named
  have hlocks := B.notSynchronized
  have htab := vx_table (x := yX2_at) B (hts (.codeWith yL_saves cL_saves 6 (some .int) [(0, 12, 15, 19), (0, 12, 19, 21)]) (List.mem_of_getElem? (i := 0) rfl))
  obtain ⟨hsz, hP, hDG⟩ := hp
  subst hsz
  have hD := hDG.self (sz := s.heap.size)
  generalize hAe : va_A (hkLW ct b d g o f) s.heap.size = A at hD ⊢
  have hA : ∀ q : Nat, s.heap.size ≤ q → A q := fun q h => by rw [← hAe]; exact Or.inr h
  have hS : va_S A s.heap s.heap [] := va_S.rf
  have hl := lv_entry ([.ref (b 0), .int x, .int y, .int z, .ref o]) (n := 6) (Nat.le_of_ble_eq_true rfl)
  rw [lg_entry_eq]
  generalize (lg_sl ([.ref (b 0), .int x, .int y, .int z, .ref o]) ++ List.replicate (6 - (lg_sl ([.ref (b 0), .int x, .int y, .int z, .ref o])).length) Slot.unset).toArray = ls at hl ⊢
  have hl : lv_has ls 6 [(0, .ref (b 0)), (1, .int x), (2, .int y), (3, .int z), (4, .ref o)] := hl
  refine lv_aload hx hb dL_saves_0 (lv_at hl 4 rfl) ?_
  refine lv_iconst (v := nI 0) hx hb dL_saves_2 (by decide) ?_
  refine lv_aload_n hx hb dL_saves_3 rfl (lv_at hl 0 rfl) ?_
  refine lv_iload_n hx hb dL_saves_4 rfl (lv_at hl 1 rfl) ?_
  refine lv_iload_n hx hb dL_saves_5 rfl (lv_at hl 2 rfl) ?_
  refine lv_iload_n hx hb dL_saves_6 rfl (lv_at hl 3 rfl) ?_
  refine hk_L (wr := [(o, .inl (ct 3, 1, .inr (.inl f)))]) (z := (opSaves g x y z)) (rest := [.int (nI 0), .ref o]) (vx_runV (As := [.int x, .int y, .int z]) (rest := [.int (nI 0), .ref o]) ⟨hx, hb, hml, hown, hts⟩ (c_X2_saves l hfl D ct sa G0 s.heap.size b d g x y z hI) (cwV 3 hts gL_saves_X2_saves rfl rfl rfl (by decide +kernel) ⟨Nat.le_of_ble_eq_true rfl, Nat.le_of_ble_eq_true rfl⟩) (hk_prxV hE hH (va_recv hE.1 (hP.right (w1 := [(o, .inl (ct 3, 1, .inr (.inl f)))])) (ci := 2) (q0 := 0) rfl rfl) ⟨rfl, hP.right (w1 := [(o, .inl (ct 3, 1, .inr (.inl f)))]), hDG.right (w1 := [(o, .inl (ct 3, 1, .inr (.inl f)))])⟩) rfl rfl hl.1 rfl (lv_room (Nat.le_of_ble_eq_true rfl)) dL_saves_7 ⟨Nat.le_of_ble_eq_true rfl, Nat.le_of_ble_eq_true rfl⟩) rfl hP hD hS hA (fun E ce q9 H locs ho hP hS hce hcv hcl => ?_) (fun d9 H locs hz hP hD hS => ?_)
  · obtain ⟨k, hk, hz⟩ := ho
    have hg9 : (opSaves g x y z).2.2 = g := rf_opSaves (by rw [hz]; exact nI_ne0 (by omega) (by
        have h9 : k < 2 := (List.getElem?_eq_some_iff.mp hk).1
        omega))
    rcases k with _ | _ | k
    · obtain rfl : E = "java/lang/IndexOutOfBoundsException" := (Option.some.inj hk).symm
      refine vx_catch hown [] ⟨0, 12, 15, 19⟩ [⟨0, 12, 19, 21⟩] (htab.trans rfl) (fun z hz => absurd hz List.not_mem_nil) (by decide) (by decide) (hts (.classLink RL 19 "java/lang/IndexOutOfBoundsException") (by decide +kernel)) (hE.use hkN_c1) hce hcv hcl ?_
      refine lv_astore (lv' := [(5, .ref q9), (0, .ref (b 0)), (1, .int x), (2, .int y), (3, .int z), (4, .ref o)]) hx hb dL_saves_15 hl (by decide) rfl (fun ls hl => ?_)
      refine lv_iconst (v := nI 1) hx hb dL_saves_17 (by decide) ?_
      have hP9 : va_P D vwCl (hkLW ct b d (opSaves g x y z).2.2 o f) H := by rw [hg9]; exact hP
      have hD9 : va_D A (hkLW ct b d (opSaves g x y z).2.2 o f) := by rw [hg9]; exact hD
      exact W.iret (v := nI 1) hx hb hr (fun t ht hW => ⟨by rw [hz], ⟨d, f, by rw [ht]; exact hP9, hD9, fun q => absurd (hz.symm.trans q) (by decide)⟩, hS.F ht⟩) hS.2.2 dL_saves_18
    · obtain rfl : E = "java/lang/IllegalArgumentException" := (Option.some.inj hk).symm
      refine vx_catch hown [⟨0, 12, 15, 19⟩] ⟨0, 12, 19, 21⟩ [] (htab.trans rfl) (fun z hz => by
        obtain rfl := List.mem_singleton.mp hz
        exact Or.inr ⟨by decide, "java/lang/IndexOutOfBoundsException", (hts (.classLink RL 19 "java/lang/IndexOutOfBoundsException") (by decide +kernel)), hE.2.2.2.1 _ (List.mem_of_getElem? (i := 5) rfl)⟩) (by decide) (by decide) (hts (.classLink RL 21 "java/lang/IllegalArgumentException") (by decide +kernel)) (hE.use hkN_c2) hce hcv hcl ?_
      refine lv_astore (lv' := [(5, .ref q9), (0, .ref (b 0)), (1, .int x), (2, .int y), (3, .int z), (4, .ref o)]) hx hb dL_saves_19 hl (by decide) rfl (fun ls hl => ?_)
      refine lv_iconst (v := nI 2) hx hb dL_saves_21 (by decide) ?_
      have hP9 : va_P D vwCl (hkLW ct b d (opSaves g x y z).2.2 o f) H := by rw [hg9]; exact hP
      have hD9 : va_D A (hkLW ct b d (opSaves g x y z).2.2 o f) := by rw [hg9]; exact hD
      exact W.iret (v := nI 2) hx hb hr (fun t ht hW => ⟨by rw [hz], ⟨d, f, by rw [ht]; exact hP9, hD9, fun q => absurd (hz.symm.trans q) (by decide)⟩, hS.F ht⟩) hS.2.2 dL_saves_22
    · exact nomatch hk
  · skip
    have hP : va_P D vwCl ((o, .inl (ct 3, 1, .inr (.inl f))) :: hkW ct b d9 (opSaves g x y z).2.2) H := hP
    have hD : va_D A ((o, .inl (ct 3, 1, .inr (.inl f))) :: hkW ct b d9 (opSaves g x y z).2.2) := hD
    refine lv_i2l hx hb dL_saves_10 rfl ?_
    refine hk_lst hx hb hE hP hD hS 0 rfl (j := 0) (x := ((opSaves g x y z).2.1).toInt64) (by omega) (by omega) dL_saves_11 (fun H locs hP hD hS => ?_)
    have hP : va_P D vwCl ((o, .inl (ct 3, 1, .inr (.inl (vp_updL f 0 (((opSaves g x y z).2.1).toInt64))))) :: hkW ct b d9 (opSaves g x y z).2.2) H := hP
    have hD : va_D A ((o, .inl (ct 3, 1, .inr (.inl (vp_updL f 0 (((opSaves g x y z).2.1).toInt64))))) :: hkW ct b d9 (opSaves g x y z).2.2) := hD
    refine lv_goto (tgt := 23) hx hb dL_saves_12 (by decide) ?_
    refine lv_iconst (v := nI 0) hx hb dL_saves_23 (by decide) ?_
    have hP9 : va_P D vwCl (hkLW ct b d9 (opSaves g x y z).2.2 o (vp_updL f 0 (((opSaves g x y z).2.1).toInt64))) H := hP
    have hD9 : va_D A (hkLW ct b d9 (opSaves g x y z).2.2 o (vp_updL f 0 (((opSaves g x y z).2.1).toInt64))) := hD
    exact W.iret (v := nI 0) hx hb hr (fun t ht hW => ⟨by rw [hz]; rfl, ⟨d9, (vp_updL f 0 (((opSaves g x y z).2.1).toInt64)), by rw [ht]; exact hP9, hD9, fun _ => rfl⟩, hS.F ht⟩) hS.2.2 dL_saves_24

set_option maxHeartbeats 4000000 in
set_option maxRecDepth 100000 in
theorem c_L_best (l : Launch) (hfl : l.flags = flags0) (D : va_G) (ct : Nat → ClassId) (sa : Nat → Nat) (G0 sz : Nat) (b : Nat → Nat) (d : Ad) (g : Sg) (o : Nat) (f : Nat → Int64) (x : Int32) (hI : Inv g) : Met l yL_best wsL_best ({ frames := 8, cells := 1, slots := 6, locals := 138 }) (hkPx D ct sa G0 [.ref (b 0), .int x, .ref o] (hkLP D ct b d g o f G0 sz)) (hkLQ D ct b o (va_A (hkLW ct b d g o f) sz) (opBest g x)) 1 6 (va_A (hkLW ct b d g o f) sz) := by
  refine hk_ofWH (cc := cL_best) (maxL := 4) (ret := (some .int)) (by decide) rfl ?_
  intro p e s m args below meth c s₁ B hml hv
  obtain ⟨rfl, hE, hH, hp⟩ := hv
  have hx := B.exec
  have hb := B.bytes
  have hr := B.returns
  have hts := atoms_spec (ws := wsL_best) B.pre
  have hown : s.vm.findClass RL = some m.cls := findClass_of_methodNamed B.named
  have hlocks := B.notSynchronized
  have htab := vx_table (x := yX2_at) B (hts (.codeWith yL_best cL_best 4 (some .int) [(0, 9, 12, 19)]) (List.mem_of_getElem? (i := 0) rfl))
  obtain ⟨hsz, hP, hDG⟩ := hp
  subst hsz
  have hD := hDG.self (sz := s.heap.size)
  generalize hAe : va_A (hkLW ct b d g o f) s.heap.size = A at hD ⊢
  have hA : ∀ q : Nat, s.heap.size ≤ q → A q := fun q h => by rw [← hAe]; exact Or.inr h
  have hS : va_S A s.heap s.heap [] := va_S.rf
  have hl := lv_entry ([.ref (b 0), .int x, .ref o]) (n := 4) (Nat.le_of_ble_eq_true rfl)
  rw [lg_entry_eq]
  generalize (lg_sl ([.ref (b 0), .int x, .ref o]) ++ List.replicate (4 - (lg_sl ([.ref (b 0), .int x, .ref o])).length) Slot.unset).toArray = ls at hl ⊢
  have hl : lv_has ls 4 [(0, .ref (b 0)), (1, .int x), (2, .ref o)] := hl
  refine lv_aload_n hx hb dL_best_0 rfl (lv_at hl 2 rfl) ?_
  refine lv_iconst (v := nI 0) hx hb dL_best_1 (by decide) ?_
  refine lv_aload_n hx hb dL_best_2 rfl (lv_at hl 0 rfl) ?_
  refine lv_iload_n hx hb dL_best_3 rfl (lv_at hl 1 rfl) ?_
  refine hk_L (wr := [(o, .inl (ct 3, 1, .inr (.inl f)))]) (z := (opBest g x)) (rest := [.int (nI 0), .ref o]) (vx_runV (As := [.int x]) (rest := [.int (nI 0), .ref o]) ⟨hx, hb, hml, hown, hts⟩ (c_X2_best l hfl D ct sa G0 s.heap.size b d g x hI) (cwV 1 hts gL_best_X2_best rfl rfl rfl (by decide +kernel) ⟨Nat.le_of_ble_eq_true rfl, Nat.le_of_ble_eq_true rfl⟩) (hk_prxV hE hH (va_recv hE.1 (hP.right (w1 := [(o, .inl (ct 3, 1, .inr (.inl f)))])) (ci := 2) (q0 := 0) rfl rfl) ⟨rfl, hP.right (w1 := [(o, .inl (ct 3, 1, .inr (.inl f)))]), hDG.right (w1 := [(o, .inl (ct 3, 1, .inr (.inl f)))])⟩) rfl rfl hl.1 rfl (lv_room (Nat.le_of_ble_eq_true rfl)) dL_best_4 ⟨Nat.le_of_ble_eq_true rfl, Nat.le_of_ble_eq_true rfl⟩) rfl hP hD hS hA (fun E ce q9 H locs ho hP hS hce hcv hcl => ?_) (fun d9 H locs hz hP hD hS => ?_)
  · obtain ⟨k, hk, hz⟩ := ho
    have hg9 : (opBest g x).2.2 = g := rf_opBest (by rw [hz]; exact nI_ne0 (by omega) (by
        have h9 : k < 1 := (List.getElem?_eq_some_iff.mp hk).1
        omega))
    rcases k with _ | k
    · obtain rfl : E = "java/lang/IndexOutOfBoundsException" := (Option.some.inj hk).symm
      refine vx_catch hown [] ⟨0, 9, 12, 19⟩ [] (htab.trans rfl) (fun z hz => absurd hz List.not_mem_nil) (by decide) (by decide) (hts (.classLink RL 19 "java/lang/IndexOutOfBoundsException") (by decide +kernel)) (hE.use hkN_c1) hce hcv hcl ?_
      refine lv_astore_n (lv' := [(3, .ref q9), (0, .ref (b 0)), (1, .int x), (2, .ref o)]) hx hb dL_best_12 rfl hl (by decide) rfl (fun ls hl => ?_)
      refine lv_iconst (v := nI 1) hx hb dL_best_13 (by decide) ?_
      have hP9 : va_P D vwCl (hkLW ct b d (opBest g x).2.2 o f) H := by rw [hg9]; exact hP
      have hD9 : va_D A (hkLW ct b d (opBest g x).2.2 o f) := by rw [hg9]; exact hD
      exact W.iret (v := nI 1) hx hb hr (fun t ht hW => ⟨by rw [hz], ⟨d, f, by rw [ht]; exact hP9, hD9, fun q => absurd (hz.symm.trans q) (by decide)⟩, hS.F ht⟩) hS.2.2 dL_best_14
    · exact nomatch hk
  · skip
    have hP : va_P D vwCl ((o, .inl (ct 3, 1, .inr (.inl f))) :: hkW ct b d9 (opBest g x).2.2) H := hP
    have hD : va_D A ((o, .inl (ct 3, 1, .inr (.inl f))) :: hkW ct b d9 (opBest g x).2.2) := hD
    refine lv_i2l hx hb dL_best_7 rfl ?_
    refine hk_lst hx hb hE hP hD hS 0 rfl (j := 0) (x := ((opBest g x).2.1).toInt64) (by omega) (by omega) dL_best_8 (fun H locs hP hD hS => ?_)
    have hP : va_P D vwCl ((o, .inl (ct 3, 1, .inr (.inl (vp_updL f 0 (((opBest g x).2.1).toInt64))))) :: hkW ct b d9 (opBest g x).2.2) H := hP
    have hD : va_D A ((o, .inl (ct 3, 1, .inr (.inl (vp_updL f 0 (((opBest g x).2.1).toInt64))))) :: hkW ct b d9 (opBest g x).2.2) := hD
    refine lv_goto (tgt := 15) hx hb dL_best_9 (by decide) ?_
    refine lv_iconst (v := nI 0) hx hb dL_best_15 (by decide) ?_
    have hP9 : va_P D vwCl (hkLW ct b d9 (opBest g x).2.2 o (vp_updL f 0 (((opBest g x).2.1).toInt64))) H := hP
    have hD9 : va_D A (hkLW ct b d9 (opBest g x).2.2 o (vp_updL f 0 (((opBest g x).2.1).toInt64))) := hD
    exact W.iret (v := nI 0) hx hb hr (fun t ht hW => ⟨by rw [hz]; rfl, ⟨d9, (vp_updL f 0 (((opBest g x).2.1).toInt64)), by rw [ht]; exact hP9, hD9, fun _ => rfl⟩, hS.F ht⟩) hS.2.2 dL_best_16

set_option maxHeartbeats 4000000 in
set_option maxRecDepth 100000 in
theorem c_L_draft (l : Launch) (hfl : l.flags = flags0) (D : va_G) (ct : Nat → ClassId) (sa : Nat → Nat) (G0 sz : Nat) (b : Nat → Nat) (d : Ad) (g : Sg) (o : Nat) (f : Nat → Int64) (x : Int32) (hI : Inv g) : Met l yL_draft wsL_draft ({ frames := 8, cells := 2, slots := 12, locals := 123 }) (hkPx D ct sa G0 [.ref (b 0), .int x, .ref o] (hkLP D ct b d g o f G0 sz)) (hkLQ D ct b o (va_A (hkLW ct b d g o f) sz) (opDraft g x)) 2 12 (va_A (hkLW ct b d g o f) sz) := by
  refine hk_ofWH (cc := cL_draft) (maxL := 4) (ret := (some .int)) (by decide) rfl ?_
  intro p e s m args below meth c s₁ B hml hv
  obtain ⟨rfl, hE, hH, hp⟩ := hv
  have hx := B.exec
  have hb := B.bytes
  have hr := B.returns
  have hts := atoms_spec (ws := wsL_draft) B.pre
  have hown : s.vm.findClass RL = some m.cls := findClass_of_methodNamed B.named
  have hlocks := B.notSynchronized
  have htab := vx_table (x := yX2_at) B (hts (.codeWith yL_draft cL_draft 4 (some .int) [(0, 9, 12, 19), (0, 9, 15, 13)]) (List.mem_of_getElem? (i := 0) rfl))
  obtain ⟨hsz, hP, hDG⟩ := hp
  subst hsz
  have hD := hDG.self (sz := s.heap.size)
  generalize hAe : va_A (hkLW ct b d g o f) s.heap.size = A at hD ⊢
  have hA : ∀ q : Nat, s.heap.size ≤ q → A q := fun q h => by rw [← hAe]; exact Or.inr h
  have hS : va_S A s.heap s.heap [] := va_S.rf
  have hl := lv_entry ([.ref (b 0), .int x, .ref o]) (n := 4) (Nat.le_of_ble_eq_true rfl)
  rw [lg_entry_eq]
  generalize (lg_sl ([.ref (b 0), .int x, .ref o]) ++ List.replicate (4 - (lg_sl ([.ref (b 0), .int x, .ref o])).length) Slot.unset).toArray = ls at hl ⊢
  have hl : lv_has ls 4 [(0, .ref (b 0)), (1, .int x), (2, .ref o)] := hl
  refine lv_aload_n hx hb dL_draft_0 rfl (lv_at hl 2 rfl) ?_
  refine lv_iconst (v := nI 0) hx hb dL_draft_1 (by decide) ?_
  refine lv_aload_n hx hb dL_draft_2 rfl (lv_at hl 0 rfl) ?_
  refine lv_iload_n hx hb dL_draft_3 rfl (lv_at hl 1 rfl) ?_
  refine hk_L (wr := [(o, .inl (ct 3, 1, .inr (.inl f)))]) (z := (opDraft g x)) (rest := [.int (nI 0), .ref o]) (vx_runV (As := [.int x]) (rest := [.int (nI 0), .ref o]) ⟨hx, hb, hml, hown, hts⟩ (c_X2_draft l hfl D ct sa G0 s.heap.size b d g x hI) (cwV 1 hts gL_draft_X2_draft rfl rfl rfl (by decide +kernel) ⟨Nat.le_of_ble_eq_true rfl, Nat.le_of_ble_eq_true rfl⟩) (hk_prxV hE hH (va_recv hE.1 (hP.right (w1 := [(o, .inl (ct 3, 1, .inr (.inl f)))])) (ci := 2) (q0 := 0) rfl rfl) ⟨rfl, hP.right (w1 := [(o, .inl (ct 3, 1, .inr (.inl f)))]), hDG.right (w1 := [(o, .inl (ct 3, 1, .inr (.inl f)))])⟩) rfl rfl hl.1 rfl (lv_room (Nat.le_of_ble_eq_true rfl)) dL_draft_4 ⟨Nat.le_of_ble_eq_true rfl, Nat.le_of_ble_eq_true rfl⟩) rfl hP hD hS hA (fun E ce q9 H locs ho hP hS hce hcv hcl => ?_) (fun d9 H locs hz hP hD hS => ?_)
  · obtain ⟨k, hk, hz⟩ := ho
    have hg9 : (opDraft g x).2.2 = g := rf_opDraft (by rw [hz]; exact nI_ne0 (by omega) (by
        have h9 : k < 2 := (List.getElem?_eq_some_iff.mp hk).1
        omega))
    rcases k with _ | _ | k
    · obtain rfl : E = "java/lang/IndexOutOfBoundsException" := (Option.some.inj hk).symm
      refine vx_catch hown [] ⟨0, 9, 12, 19⟩ [⟨0, 9, 15, 13⟩] (htab.trans rfl) (fun z hz => absurd hz List.not_mem_nil) (by decide) (by decide) (hts (.classLink RL 19 "java/lang/IndexOutOfBoundsException") (by decide +kernel)) (hE.use hkN_c1) hce hcv hcl ?_
      refine lv_astore_n (lv' := [(3, .ref q9), (0, .ref (b 0)), (1, .int x), (2, .ref o)]) hx hb dL_draft_12 rfl hl (by decide) rfl (fun ls hl => ?_)
      refine lv_iconst (v := nI 1) hx hb dL_draft_13 (by decide) ?_
      have hP9 : va_P D vwCl (hkLW ct b d (opDraft g x).2.2 o f) H := by rw [hg9]; exact hP
      have hD9 : va_D A (hkLW ct b d (opDraft g x).2.2 o f) := by rw [hg9]; exact hD
      exact W.iret (v := nI 1) hx hb hr (fun t ht hW => ⟨by rw [hz], ⟨d, f, by rw [ht]; exact hP9, hD9, fun q => absurd (hz.symm.trans q) (by decide)⟩, hS.F ht⟩) hS.2.2 dL_draft_14
    · obtain rfl : E = "java/lang/IllegalStateException" := (Option.some.inj hk).symm
      refine vx_catch hown [⟨0, 9, 12, 19⟩] ⟨0, 9, 15, 13⟩ [] (htab.trans rfl) (fun z hz => by
        obtain rfl := List.mem_singleton.mp hz
        exact Or.inr ⟨by decide, "java/lang/IndexOutOfBoundsException", (hts (.classLink RL 19 "java/lang/IndexOutOfBoundsException") (by decide +kernel)), hE.2.2.2.1 _ (List.mem_of_getElem? (i := 0) rfl)⟩) (by decide) (by decide) (hts (.classLink RL 13 "java/lang/IllegalStateException") (by decide +kernel)) (hE.use hkN_c0) hce hcv hcl ?_
      refine lv_astore_n (lv' := [(3, .ref q9), (0, .ref (b 0)), (1, .int x), (2, .ref o)]) hx hb dL_draft_15 rfl hl (by decide) rfl (fun ls hl => ?_)
      refine lv_iconst (v := nI 2) hx hb dL_draft_16 (by decide) ?_
      have hP9 : va_P D vwCl (hkLW ct b d (opDraft g x).2.2 o f) H := by rw [hg9]; exact hP
      have hD9 : va_D A (hkLW ct b d (opDraft g x).2.2 o f) := by rw [hg9]; exact hD
      exact W.iret (v := nI 2) hx hb hr (fun t ht hW => ⟨by rw [hz], ⟨d, f, by rw [ht]; exact hP9, hD9, fun q => absurd (hz.symm.trans q) (by decide)⟩, hS.F ht⟩) hS.2.2 dL_draft_17
    · exact nomatch hk
  · skip
    have hP : va_P D vwCl ((o, .inl (ct 3, 1, .inr (.inl f))) :: hkW ct b d9 (opDraft g x).2.2) H := hP
    have hD : va_D A ((o, .inl (ct 3, 1, .inr (.inl f))) :: hkW ct b d9 (opDraft g x).2.2) := hD
    refine lv_i2l hx hb dL_draft_7 rfl ?_
    refine hk_lst hx hb hE hP hD hS 0 rfl (j := 0) (x := ((opDraft g x).2.1).toInt64) (by omega) (by omega) dL_draft_8 (fun H locs hP hD hS => ?_)
    have hP : va_P D vwCl ((o, .inl (ct 3, 1, .inr (.inl (vp_updL f 0 (((opDraft g x).2.1).toInt64))))) :: hkW ct b d9 (opDraft g x).2.2) H := hP
    have hD : va_D A ((o, .inl (ct 3, 1, .inr (.inl (vp_updL f 0 (((opDraft g x).2.1).toInt64))))) :: hkW ct b d9 (opDraft g x).2.2) := hD
    refine lv_goto (tgt := 18) hx hb dL_draft_9 (by decide) ?_
    refine lv_iconst (v := nI 0) hx hb dL_draft_18 (by decide) ?_
    have hP9 : va_P D vwCl (hkLW ct b d9 (opDraft g x).2.2 o (vp_updL f 0 (((opDraft g x).2.1).toInt64))) H := hP
    have hD9 : va_D A (hkLW ct b d9 (opDraft g x).2.2 o (vp_updL f 0 (((opDraft g x).2.1).toInt64))) := hD
    exact W.iret (v := nI 0) hx hb hr (fun t ht hW => ⟨by rw [hz]; rfl, ⟨d9, (vp_updL f 0 (((opDraft g x).2.1).toInt64)), by rw [ht]; exact hP9, hD9, fun _ => rfl⟩, hS.F ht⟩) hS.2.2 dL_draft_19

set_option maxHeartbeats 4000000 in
set_option maxRecDepth 100000 in
theorem c_L_contest (l : Launch) (hfl : l.flags = flags0) (D : va_G) (ct : Nat → ClassId) (sa : Nat → Nat) (G0 sz : Nat) (b : Nat → Nat) (d : Ad) (g : Sg) (o : Nat) (f : Nat → Int64)  (hI : Inv g) : Met l yL_contest wsL_contest ({ frames := 7, cells := 4, slots := 18, locals := 113 }) (hkPx D ct sa G0 [.ref (b 0), .ref o] (hkLP D ct b d g o f G0 sz)) (hkLQ D ct b o (va_A (hkLW ct b d g o f) sz) (opContest g)) 4 18 (va_A (hkLW ct b d g o f) sz) := by
  refine hk_ofWH (cc := cL_contest) (maxL := 3) (ret := (some .int)) (by decide) rfl ?_
  intro p e s m args below meth c s₁ B hml hv
  obtain ⟨rfl, hE, hH, hp⟩ := hv
  have hx := B.exec
  have hb := B.bytes
  have hr := B.returns
  have hts := atoms_spec (ws := wsL_contest) B.pre
  have hown : s.vm.findClass RL = some m.cls := findClass_of_methodNamed B.named
  have hlocks := B.notSynchronized
  have htab := vx_table (x := yX2_at) B (hts (.codeWith yL_contest cL_contest 3 (some .int) [(0, 8, 11, 13)]) (List.mem_of_getElem? (i := 0) rfl))
  obtain ⟨hsz, hP, hDG⟩ := hp
  subst hsz
  have hD := hDG.self (sz := s.heap.size)
  generalize hAe : va_A (hkLW ct b d g o f) s.heap.size = A at hD ⊢
  have hA : ∀ q : Nat, s.heap.size ≤ q → A q := fun q h => by rw [← hAe]; exact Or.inr h
  have hS : va_S A s.heap s.heap [] := va_S.rf
  have hl := lv_entry ([.ref (b 0), .ref o]) (n := 3) (Nat.le_of_ble_eq_true rfl)
  rw [lg_entry_eq]
  generalize (lg_sl ([.ref (b 0), .ref o]) ++ List.replicate (3 - (lg_sl ([.ref (b 0), .ref o])).length) Slot.unset).toArray = ls at hl ⊢
  have hl : lv_has ls 3 [(0, .ref (b 0)), (1, .ref o)] := hl
  refine lv_aload_n hx hb dL_contest_0 rfl (lv_at hl 1 rfl) ?_
  refine lv_iconst (v := nI 0) hx hb dL_contest_1 (by decide) ?_
  refine lv_aload_n hx hb dL_contest_2 rfl (lv_at hl 0 rfl) ?_
  refine hk_L (wr := [(o, .inl (ct 3, 1, .inr (.inl f)))]) (z := (opContest g)) (rest := [.int (nI 0), .ref o]) (vx_runV (As := []) (rest := [.int (nI 0), .ref o]) ⟨hx, hb, hml, hown, hts⟩ (c_X2_contest l hfl D ct sa G0 s.heap.size b d g  hI) (cwV 0 hts gL_contest_X2_contest rfl rfl rfl (by decide +kernel) ⟨Nat.le_of_ble_eq_true rfl, Nat.le_of_ble_eq_true rfl⟩) (hk_prxV hE hH (va_recv hE.1 (hP.right (w1 := [(o, .inl (ct 3, 1, .inr (.inl f)))])) (ci := 2) (q0 := 0) rfl rfl) ⟨rfl, hP.right (w1 := [(o, .inl (ct 3, 1, .inr (.inl f)))]), hDG.right (w1 := [(o, .inl (ct 3, 1, .inr (.inl f)))])⟩) rfl rfl hl.1 rfl (lv_room (Nat.le_of_ble_eq_true rfl)) dL_contest_3 ⟨Nat.le_of_ble_eq_true rfl, Nat.le_of_ble_eq_true rfl⟩) rfl hP hD hS hA (fun E ce q9 H locs ho hP hS hce hcv hcl => ?_) (fun d9 H locs hz hP hD hS => ?_)
  · obtain ⟨k, hk, hz⟩ := ho
    have hg9 : (opContest g).2.2 = g := rf_opContest (by rw [hz]; exact nI_ne0 (by omega) (by
        have h9 : k < 1 := (List.getElem?_eq_some_iff.mp hk).1
        omega))
    rcases k with _ | k
    · obtain rfl : E = "java/lang/IllegalStateException" := (Option.some.inj hk).symm
      refine vx_catch hown [] ⟨0, 8, 11, 13⟩ [] (htab.trans rfl) (fun z hz => absurd hz List.not_mem_nil) (by decide) (by decide) (hts (.classLink RL 13 "java/lang/IllegalStateException") (by decide +kernel)) (hE.use hkN_c0) hce hcv hcl ?_
      refine lv_astore_n (lv' := [(2, .ref q9), (0, .ref (b 0)), (1, .ref o)]) hx hb dL_contest_11 rfl hl (by decide) rfl (fun ls hl => ?_)
      refine lv_iconst (v := nI 1) hx hb dL_contest_12 (by decide) ?_
      have hP9 : va_P D vwCl (hkLW ct b d (opContest g).2.2 o f) H := by rw [hg9]; exact hP
      have hD9 : va_D A (hkLW ct b d (opContest g).2.2 o f) := by rw [hg9]; exact hD
      exact W.iret (v := nI 1) hx hb hr (fun t ht hW => ⟨by rw [hz], ⟨d, f, by rw [ht]; exact hP9, hD9, fun q => absurd (hz.symm.trans q) (by decide)⟩, hS.F ht⟩) hS.2.2 dL_contest_13
    · exact nomatch hk
  · skip
    have hP : va_P D vwCl ((o, .inl (ct 3, 1, .inr (.inl f))) :: hkW ct b d9 (opContest g).2.2) H := hP
    have hD : va_D A ((o, .inl (ct 3, 1, .inr (.inl f))) :: hkW ct b d9 (opContest g).2.2) := hD
    refine lv_i2l hx hb dL_contest_6 rfl ?_
    refine hk_lst hx hb hE hP hD hS 0 rfl (j := 0) (x := ((opContest g).2.1).toInt64) (by omega) (by omega) dL_contest_7 (fun H locs hP hD hS => ?_)
    have hP : va_P D vwCl ((o, .inl (ct 3, 1, .inr (.inl (vp_updL f 0 (((opContest g).2.1).toInt64))))) :: hkW ct b d9 (opContest g).2.2) H := hP
    have hD : va_D A ((o, .inl (ct 3, 1, .inr (.inl (vp_updL f 0 (((opContest g).2.1).toInt64))))) :: hkW ct b d9 (opContest g).2.2) := hD
    refine lv_goto (tgt := 14) hx hb dL_contest_8 (by decide) ?_
    refine lv_iconst (v := nI 0) hx hb dL_contest_14 (by decide) ?_
    have hP9 : va_P D vwCl (hkLW ct b d9 (opContest g).2.2 o (vp_updL f 0 (((opContest g).2.1).toInt64))) H := hP
    have hD9 : va_D A (hkLW ct b d9 (opContest g).2.2 o (vp_updL f 0 (((opContest g).2.1).toInt64))) := hD
    exact W.iret (v := nI 0) hx hb hr (fun t ht hW => ⟨by rw [hz]; rfl, ⟨d9, (vp_updL f 0 (((opContest g).2.1).toInt64)), by rw [ht]; exact hP9, hD9, fun _ => rfl⟩, hS.F ht⟩) hS.2.2 dL_contest_15

set_option maxHeartbeats 4000000 in
set_option maxRecDepth 100000 in
theorem c_L_result (l : Launch) (hfl : l.flags = flags0) (D : va_G) (ct : Nat → ClassId) (sa : Nat → Nat) (G0 sz : Nat) (b : Nat → Nat) (d : Ad) (g : Sg) (o : Nat) (f : Nat → Int64) (x : Int32) (y : Int32) (z : Int32) (hI : Inv g) : Met l yL_result wsL_result ({ frames := 8, cells := 3, slots := 18, locals := 130 }) (hkPx D ct sa G0 [.ref (b 0), .int x, .int y, .int z, .ref o] (hkLP D ct b d g o f G0 sz)) (hkLQ D ct b o (va_A (hkLW ct b d g o f) sz) (opResult g x y z)) 3 18 (va_A (hkLW ct b d g o f) sz) := by
  refine hk_ofWH (cc := cL_result) (maxL := 6) (ret := (some .int)) (by decide) rfl ?_
  intro p e s m args below meth c s₁ B hml hv
  obtain ⟨rfl, hE, hH, hp⟩ := hv
  have hx := B.exec
  have hb := B.bytes
  have hr := B.returns
  have hts := atoms_spec (ws := wsL_result) B.pre
  have hown : s.vm.findClass RL = some m.cls := findClass_of_methodNamed B.named
  have hlocks := B.notSynchronized
  have htab := vx_table (x := yX2_at) B (hts (.codeWith yL_result cL_result 6 (some .int) [(0, 12, 15, 19), (0, 12, 19, 21), (0, 12, 23, 13)]) (List.mem_of_getElem? (i := 0) rfl))
  obtain ⟨hsz, hP, hDG⟩ := hp
  subst hsz
  have hD := hDG.self (sz := s.heap.size)
  generalize hAe : va_A (hkLW ct b d g o f) s.heap.size = A at hD ⊢
  have hA : ∀ q : Nat, s.heap.size ≤ q → A q := fun q h => by rw [← hAe]; exact Or.inr h
  have hS : va_S A s.heap s.heap [] := va_S.rf
  have hl := lv_entry ([.ref (b 0), .int x, .int y, .int z, .ref o]) (n := 6) (Nat.le_of_ble_eq_true rfl)
  rw [lg_entry_eq]
  generalize (lg_sl ([.ref (b 0), .int x, .int y, .int z, .ref o]) ++ List.replicate (6 - (lg_sl ([.ref (b 0), .int x, .int y, .int z, .ref o])).length) Slot.unset).toArray = ls at hl ⊢
  have hl : lv_has ls 6 [(0, .ref (b 0)), (1, .int x), (2, .int y), (3, .int z), (4, .ref o)] := hl
  refine lv_aload hx hb dL_result_0 (lv_at hl 4 rfl) ?_
  refine lv_iconst (v := nI 0) hx hb dL_result_2 (by decide) ?_
  refine lv_aload_n hx hb dL_result_3 rfl (lv_at hl 0 rfl) ?_
  refine lv_iload_n hx hb dL_result_4 rfl (lv_at hl 1 rfl) ?_
  refine lv_iload_n hx hb dL_result_5 rfl (lv_at hl 2 rfl) ?_
  refine lv_iload_n hx hb dL_result_6 rfl (lv_at hl 3 rfl) ?_
  refine hk_L (wr := [(o, .inl (ct 3, 1, .inr (.inl f)))]) (z := (opResult g x y z)) (rest := [.int (nI 0), .ref o]) (vx_runV (As := [.int x, .int y, .int z]) (rest := [.int (nI 0), .ref o]) ⟨hx, hb, hml, hown, hts⟩ (c_X2_result l hfl D ct sa G0 s.heap.size b d g x y z hI) (cwV 3 hts gL_result_X2_result rfl rfl rfl (by decide +kernel) ⟨Nat.le_of_ble_eq_true rfl, Nat.le_of_ble_eq_true rfl⟩) (hk_prxV hE hH (va_recv hE.1 (hP.right (w1 := [(o, .inl (ct 3, 1, .inr (.inl f)))])) (ci := 2) (q0 := 0) rfl rfl) ⟨rfl, hP.right (w1 := [(o, .inl (ct 3, 1, .inr (.inl f)))]), hDG.right (w1 := [(o, .inl (ct 3, 1, .inr (.inl f)))])⟩) rfl rfl hl.1 rfl (lv_room (Nat.le_of_ble_eq_true rfl)) dL_result_7 ⟨Nat.le_of_ble_eq_true rfl, Nat.le_of_ble_eq_true rfl⟩) rfl hP hD hS hA (fun E ce q9 H locs ho hP hS hce hcv hcl => ?_) (fun d9 H locs hz hP hD hS => ?_)
  · obtain ⟨k, hk, hz⟩ := ho
    have hg9 : (opResult g x y z).2.2 = g := rf_opResult (by rw [hz]; exact nI_ne0 (by omega) (by
        have h9 : k < 3 := (List.getElem?_eq_some_iff.mp hk).1
        omega))
    rcases k with _ | _ | _ | k
    · obtain rfl : E = "java/lang/IndexOutOfBoundsException" := (Option.some.inj hk).symm
      refine vx_catch hown [] ⟨0, 12, 15, 19⟩ [⟨0, 12, 19, 21⟩, ⟨0, 12, 23, 13⟩] (htab.trans rfl) (fun z hz => absurd hz List.not_mem_nil) (by decide) (by decide) (hts (.classLink RL 19 "java/lang/IndexOutOfBoundsException") (by decide +kernel)) (hE.use hkN_c1) hce hcv hcl ?_
      refine lv_astore (lv' := [(5, .ref q9), (0, .ref (b 0)), (1, .int x), (2, .int y), (3, .int z), (4, .ref o)]) hx hb dL_result_15 hl (by decide) rfl (fun ls hl => ?_)
      refine lv_iconst (v := nI 1) hx hb dL_result_17 (by decide) ?_
      have hP9 : va_P D vwCl (hkLW ct b d (opResult g x y z).2.2 o f) H := by rw [hg9]; exact hP
      have hD9 : va_D A (hkLW ct b d (opResult g x y z).2.2 o f) := by rw [hg9]; exact hD
      exact W.iret (v := nI 1) hx hb hr (fun t ht hW => ⟨by rw [hz], ⟨d, f, by rw [ht]; exact hP9, hD9, fun q => absurd (hz.symm.trans q) (by decide)⟩, hS.F ht⟩) hS.2.2 dL_result_18
    · obtain rfl : E = "java/lang/IllegalArgumentException" := (Option.some.inj hk).symm
      refine vx_catch hown [⟨0, 12, 15, 19⟩] ⟨0, 12, 19, 21⟩ [⟨0, 12, 23, 13⟩] (htab.trans rfl) (fun z hz => by
        obtain rfl := List.mem_singleton.mp hz
        exact Or.inr ⟨by decide, "java/lang/IndexOutOfBoundsException", (hts (.classLink RL 19 "java/lang/IndexOutOfBoundsException") (by decide +kernel)), hE.2.2.2.1 _ (List.mem_of_getElem? (i := 5) rfl)⟩) (by decide) (by decide) (hts (.classLink RL 21 "java/lang/IllegalArgumentException") (by decide +kernel)) (hE.use hkN_c2) hce hcv hcl ?_
      refine lv_astore (lv' := [(5, .ref q9), (0, .ref (b 0)), (1, .int x), (2, .int y), (3, .int z), (4, .ref o)]) hx hb dL_result_19 hl (by decide) rfl (fun ls hl => ?_)
      refine lv_iconst (v := nI 2) hx hb dL_result_21 (by decide) ?_
      have hP9 : va_P D vwCl (hkLW ct b d (opResult g x y z).2.2 o f) H := by rw [hg9]; exact hP
      have hD9 : va_D A (hkLW ct b d (opResult g x y z).2.2 o f) := by rw [hg9]; exact hD
      exact W.iret (v := nI 2) hx hb hr (fun t ht hW => ⟨by rw [hz], ⟨d, f, by rw [ht]; exact hP9, hD9, fun q => absurd (hz.symm.trans q) (by decide)⟩, hS.F ht⟩) hS.2.2 dL_result_22
    · obtain rfl : E = "java/lang/IllegalStateException" := (Option.some.inj hk).symm
      refine vx_catch hown [⟨0, 12, 15, 19⟩, ⟨0, 12, 19, 21⟩] ⟨0, 12, 23, 13⟩ [] (htab.trans rfl) (fun z hz => by
        rcases List.mem_cons.mp hz with rfl | hz
        · exact Or.inr ⟨by decide, "java/lang/IndexOutOfBoundsException", (hts (.classLink RL 19 "java/lang/IndexOutOfBoundsException") (by decide +kernel)), hE.2.2.2.1 _ (List.mem_of_getElem? (i := 0) rfl)⟩
        · obtain rfl := List.mem_singleton.mp hz
          exact Or.inr ⟨by decide, "java/lang/IllegalArgumentException", (hts (.classLink RL 21 "java/lang/IllegalArgumentException") (by decide +kernel)), hE.2.2.2.1 _ (List.mem_of_getElem? (i := 1) rfl)⟩) (by decide) (by decide) (hts (.classLink RL 13 "java/lang/IllegalStateException") (by decide +kernel)) (hE.use hkN_c0) hce hcv hcl ?_
      refine lv_astore (lv' := [(5, .ref q9), (0, .ref (b 0)), (1, .int x), (2, .int y), (3, .int z), (4, .ref o)]) hx hb dL_result_23 hl (by decide) rfl (fun ls hl => ?_)
      refine lv_iconst (v := nI 3) hx hb dL_result_25 (by decide) ?_
      have hP9 : va_P D vwCl (hkLW ct b d (opResult g x y z).2.2 o f) H := by rw [hg9]; exact hP
      have hD9 : va_D A (hkLW ct b d (opResult g x y z).2.2 o f) := by rw [hg9]; exact hD
      exact W.iret (v := nI 3) hx hb hr (fun t ht hW => ⟨by rw [hz], ⟨d, f, by rw [ht]; exact hP9, hD9, fun q => absurd (hz.symm.trans q) (by decide)⟩, hS.F ht⟩) hS.2.2 dL_result_26
    · exact nomatch hk
  · skip
    have hP : va_P D vwCl ((o, .inl (ct 3, 1, .inr (.inl f))) :: hkW ct b d9 (opResult g x y z).2.2) H := hP
    have hD : va_D A ((o, .inl (ct 3, 1, .inr (.inl f))) :: hkW ct b d9 (opResult g x y z).2.2) := hD
    refine lv_i2l hx hb dL_result_10 rfl ?_
    refine hk_lst hx hb hE hP hD hS 0 rfl (j := 0) (x := ((opResult g x y z).2.1).toInt64) (by omega) (by omega) dL_result_11 (fun H locs hP hD hS => ?_)
    have hP : va_P D vwCl ((o, .inl (ct 3, 1, .inr (.inl (vp_updL f 0 (((opResult g x y z).2.1).toInt64))))) :: hkW ct b d9 (opResult g x y z).2.2) H := hP
    have hD : va_D A ((o, .inl (ct 3, 1, .inr (.inl (vp_updL f 0 (((opResult g x y z).2.1).toInt64))))) :: hkW ct b d9 (opResult g x y z).2.2) := hD
    refine lv_goto (tgt := 27) hx hb dL_result_12 (by decide) ?_
    refine lv_iconst (v := nI 0) hx hb dL_result_27 (by decide) ?_
    have hP9 : va_P D vwCl (hkLW ct b d9 (opResult g x y z).2.2 o (vp_updL f 0 (((opResult g x y z).2.1).toInt64))) H := hP
    have hD9 : va_D A (hkLW ct b d9 (opResult g x y z).2.2 o (vp_updL f 0 (((opResult g x y z).2.1).toInt64))) := hD
    exact W.iret (v := nI 0) hx hb hr (fun t ht hW => ⟨by rw [hz]; rfl, ⟨d9, (vp_updL f 0 (((opResult g x y z).2.1).toInt64)), by rw [ht]; exact hP9, hD9, fun _ => rfl⟩, hS.F ht⟩) hS.2.2 dL_result_28

set_option maxHeartbeats 4000000 in
set_option maxRecDepth 100000 in
theorem c_L_of (l : Launch) (hfl : l.flags = flags0) (D : va_G) (ct : Nat → ClassId) (sa : Nat → Nat) (G0 sz : Nat) (b : Nat → Nat) (d : Ad) (g : Sg) (o : Nat) (f : Nat → Int64) (x : Int32) (y : Int32) (z : Int32) (hI : Inv g) : Met l yL_of wsL_of ({ frames := 8, cells := 3, slots := 18, locals := 129 }) (hkPx D ct sa G0 [.ref (b 0), .int x, .int y, .int z, .ref o] (hkLP D ct b d g o f G0 sz)) (hkLQ D ct b o (va_A (hkLW ct b d g o f) sz) (opOf g x y z)) 3 18 (va_A (hkLW ct b d g o f) sz) := by
  refine hk_ofWH (cc := cL_of) (maxL := 6) (ret := (some .int)) (by decide) rfl ?_
  intro p e s m args below meth c s₁ B hml hv
  obtain ⟨rfl, hE, hH, hp⟩ := hv
  have hx := B.exec
  have hb := B.bytes
  have hr := B.returns
  have hts := atoms_spec (ws := wsL_of) B.pre
  have hown : s.vm.findClass RL = some m.cls := findClass_of_methodNamed B.named
  have hlocks := B.notSynchronized
  have htab := vx_table (x := yX2_at) B (hts (.codeWith yL_of cL_of 6 (some .int) [(0, 12, 15, 19), (0, 12, 19, 21)]) (List.mem_of_getElem? (i := 0) rfl))
  obtain ⟨hsz, hP, hDG⟩ := hp
  subst hsz
  have hD := hDG.self (sz := s.heap.size)
  generalize hAe : va_A (hkLW ct b d g o f) s.heap.size = A at hD ⊢
  have hA : ∀ q : Nat, s.heap.size ≤ q → A q := fun q h => by rw [← hAe]; exact Or.inr h
  have hS : va_S A s.heap s.heap [] := va_S.rf
  have hl := lv_entry ([.ref (b 0), .int x, .int y, .int z, .ref o]) (n := 6) (Nat.le_of_ble_eq_true rfl)
  rw [lg_entry_eq]
  generalize (lg_sl ([.ref (b 0), .int x, .int y, .int z, .ref o]) ++ List.replicate (6 - (lg_sl ([.ref (b 0), .int x, .int y, .int z, .ref o])).length) Slot.unset).toArray = ls at hl ⊢
  have hl : lv_has ls 6 [(0, .ref (b 0)), (1, .int x), (2, .int y), (3, .int z), (4, .ref o)] := hl
  refine lv_aload hx hb dL_of_0 (lv_at hl 4 rfl) ?_
  refine lv_iconst (v := nI 0) hx hb dL_of_2 (by decide) ?_
  refine lv_aload_n hx hb dL_of_3 rfl (lv_at hl 0 rfl) ?_
  refine lv_iload_n hx hb dL_of_4 rfl (lv_at hl 1 rfl) ?_
  refine lv_iload_n hx hb dL_of_5 rfl (lv_at hl 2 rfl) ?_
  refine lv_iload_n hx hb dL_of_6 rfl (lv_at hl 3 rfl) ?_
  refine hk_L (wr := [(o, .inl (ct 3, 1, .inr (.inl f)))]) (z := (opOf g x y z)) (rest := [.int (nI 0), .ref o]) (vx_runV (As := [.int x, .int y, .int z]) (rest := [.int (nI 0), .ref o]) ⟨hx, hb, hml, hown, hts⟩ (c_X2_of l hfl D ct sa G0 s.heap.size b d g x y z hI) (cwV 3 hts gL_of_X2_of rfl rfl rfl (by decide +kernel) ⟨Nat.le_of_ble_eq_true rfl, Nat.le_of_ble_eq_true rfl⟩) (hk_prxV hE hH (va_recv hE.1 (hP.right (w1 := [(o, .inl (ct 3, 1, .inr (.inl f)))])) (ci := 2) (q0 := 0) rfl rfl) ⟨rfl, hP.right (w1 := [(o, .inl (ct 3, 1, .inr (.inl f)))]), hDG.right (w1 := [(o, .inl (ct 3, 1, .inr (.inl f)))])⟩) rfl rfl hl.1 rfl (lv_room (Nat.le_of_ble_eq_true rfl)) dL_of_7 ⟨Nat.le_of_ble_eq_true rfl, Nat.le_of_ble_eq_true rfl⟩) rfl hP hD hS hA (fun E ce q9 H locs ho hP hS hce hcv hcl => ?_) (fun d9 H locs hz hP hD hS => ?_)
  · obtain ⟨k, hk, hz⟩ := ho
    have hg9 : (opOf g x y z).2.2 = g := rf_opOf (by rw [hz]; exact nI_ne0 (by omega) (by
        have h9 : k < 2 := (List.getElem?_eq_some_iff.mp hk).1
        omega))
    rcases k with _ | _ | k
    · obtain rfl : E = "java/lang/IndexOutOfBoundsException" := (Option.some.inj hk).symm
      refine vx_catch hown [] ⟨0, 12, 15, 19⟩ [⟨0, 12, 19, 21⟩] (htab.trans rfl) (fun z hz => absurd hz List.not_mem_nil) (by decide) (by decide) (hts (.classLink RL 19 "java/lang/IndexOutOfBoundsException") (by decide +kernel)) (hE.use hkN_c1) hce hcv hcl ?_
      refine lv_astore (lv' := [(5, .ref q9), (0, .ref (b 0)), (1, .int x), (2, .int y), (3, .int z), (4, .ref o)]) hx hb dL_of_15 hl (by decide) rfl (fun ls hl => ?_)
      refine lv_iconst (v := nI 1) hx hb dL_of_17 (by decide) ?_
      have hP9 : va_P D vwCl (hkLW ct b d (opOf g x y z).2.2 o f) H := by rw [hg9]; exact hP
      have hD9 : va_D A (hkLW ct b d (opOf g x y z).2.2 o f) := by rw [hg9]; exact hD
      exact W.iret (v := nI 1) hx hb hr (fun t ht hW => ⟨by rw [hz], ⟨d, f, by rw [ht]; exact hP9, hD9, fun q => absurd (hz.symm.trans q) (by decide)⟩, hS.F ht⟩) hS.2.2 dL_of_18
    · obtain rfl : E = "java/lang/IllegalArgumentException" := (Option.some.inj hk).symm
      refine vx_catch hown [⟨0, 12, 15, 19⟩] ⟨0, 12, 19, 21⟩ [] (htab.trans rfl) (fun z hz => by
        obtain rfl := List.mem_singleton.mp hz
        exact Or.inr ⟨by decide, "java/lang/IndexOutOfBoundsException", (hts (.classLink RL 19 "java/lang/IndexOutOfBoundsException") (by decide +kernel)), hE.2.2.2.1 _ (List.mem_of_getElem? (i := 5) rfl)⟩) (by decide) (by decide) (hts (.classLink RL 21 "java/lang/IllegalArgumentException") (by decide +kernel)) (hE.use hkN_c2) hce hcv hcl ?_
      refine lv_astore (lv' := [(5, .ref q9), (0, .ref (b 0)), (1, .int x), (2, .int y), (3, .int z), (4, .ref o)]) hx hb dL_of_19 hl (by decide) rfl (fun ls hl => ?_)
      refine lv_iconst (v := nI 2) hx hb dL_of_21 (by decide) ?_
      have hP9 : va_P D vwCl (hkLW ct b d (opOf g x y z).2.2 o f) H := by rw [hg9]; exact hP
      have hD9 : va_D A (hkLW ct b d (opOf g x y z).2.2 o f) := by rw [hg9]; exact hD
      exact W.iret (v := nI 2) hx hb hr (fun t ht hW => ⟨by rw [hz], ⟨d, f, by rw [ht]; exact hP9, hD9, fun q => absurd (hz.symm.trans q) (by decide)⟩, hS.F ht⟩) hS.2.2 dL_of_22
    · exact nomatch hk
  · skip
    have hP : va_P D vwCl ((o, .inl (ct 3, 1, .inr (.inl f))) :: hkW ct b d9 (opOf g x y z).2.2) H := hP
    have hD : va_D A ((o, .inl (ct 3, 1, .inr (.inl f))) :: hkW ct b d9 (opOf g x y z).2.2) := hD
    refine lv_i2l hx hb dL_of_10 rfl ?_
    refine hk_lst hx hb hE hP hD hS 0 rfl (j := 0) (x := ((opOf g x y z).2.1).toInt64) (by omega) (by omega) dL_of_11 (fun H locs hP hD hS => ?_)
    have hP : va_P D vwCl ((o, .inl (ct 3, 1, .inr (.inl (vp_updL f 0 (((opOf g x y z).2.1).toInt64))))) :: hkW ct b d9 (opOf g x y z).2.2) H := hP
    have hD : va_D A ((o, .inl (ct 3, 1, .inr (.inl (vp_updL f 0 (((opOf g x y z).2.1).toInt64))))) :: hkW ct b d9 (opOf g x y z).2.2) := hD
    refine lv_goto (tgt := 23) hx hb dL_of_12 (by decide) ?_
    refine lv_iconst (v := nI 0) hx hb dL_of_23 (by decide) ?_
    have hP9 : va_P D vwCl (hkLW ct b d9 (opOf g x y z).2.2 o (vp_updL f 0 (((opOf g x y z).2.1).toInt64))) H := hP
    have hD9 : va_D A (hkLW ct b d9 (opOf g x y z).2.2 o (vp_updL f 0 (((opOf g x y z).2.1).toInt64))) := hD
    exact W.iret (v := nI 0) hx hb hr (fun t ht hW => ⟨by rw [hz]; rfl, ⟨d9, (vp_updL f 0 (((opOf g x y z).2.1).toInt64)), by rw [ht]; exact hP9, hD9, fun _ => rfl⟩, hS.F ht⟩) hS.2.2 dL_of_24

set_option maxHeartbeats 4000000 in
set_option maxRecDepth 100000 in
theorem c_L_ranked (l : Launch) (hfl : l.flags = flags0) (D : va_G) (ct : Nat → ClassId) (sa : Nat → Nat) (G0 sz : Nat) (b : Nat → Nat) (d : Ad) (g : Sg) (o : Nat) (f : Nat → Int64) (x : Int32) (y : Int32) (hI : Inv g) : Met l yL_ranked wsL_ranked ({ frames := 8, cells := 2, slots := 12, locals := 127 }) (hkPx D ct sa G0 [.ref (b 0), .int x, .int y, .ref o] (hkLP D ct b d g o f G0 sz)) (hkLQ D ct b o (va_A (hkLW ct b d g o f) sz) (opRanked g x y)) 2 12 (va_A (hkLW ct b d g o f) sz) := by
  refine hk_ofWH (cc := cL_ranked) (maxL := 5) (ret := (some .int)) (by decide) rfl ?_
  intro p e s m args below meth c s₁ B hml hv
  obtain ⟨rfl, hE, hH, hp⟩ := hv
  have hx := B.exec
  have hb := B.bytes
  have hr := B.returns
  have hts := atoms_spec (ws := wsL_ranked) B.pre
  have hown : s.vm.findClass RL = some m.cls := findClass_of_methodNamed B.named
  have hlocks := B.notSynchronized
  have htab := vx_table (x := yX2_at) B (hts (.codeWith yL_ranked cL_ranked 5 (some .int) [(0, 10, 13, 19)]) (List.mem_of_getElem? (i := 0) rfl))
  obtain ⟨hsz, hP, hDG⟩ := hp
  subst hsz
  have hD := hDG.self (sz := s.heap.size)
  generalize hAe : va_A (hkLW ct b d g o f) s.heap.size = A at hD ⊢
  have hA : ∀ q : Nat, s.heap.size ≤ q → A q := fun q h => by rw [← hAe]; exact Or.inr h
  have hS : va_S A s.heap s.heap [] := va_S.rf
  have hl := lv_entry ([.ref (b 0), .int x, .int y, .ref o]) (n := 5) (Nat.le_of_ble_eq_true rfl)
  rw [lg_entry_eq]
  generalize (lg_sl ([.ref (b 0), .int x, .int y, .ref o]) ++ List.replicate (5 - (lg_sl ([.ref (b 0), .int x, .int y, .ref o])).length) Slot.unset).toArray = ls at hl ⊢
  have hl : lv_has ls 5 [(0, .ref (b 0)), (1, .int x), (2, .int y), (3, .ref o)] := hl
  refine lv_aload_n hx hb dL_ranked_0 rfl (lv_at hl 3 rfl) ?_
  refine lv_iconst (v := nI 0) hx hb dL_ranked_1 (by decide) ?_
  refine lv_aload_n hx hb dL_ranked_2 rfl (lv_at hl 0 rfl) ?_
  refine lv_iload_n hx hb dL_ranked_3 rfl (lv_at hl 1 rfl) ?_
  refine lv_iload_n hx hb dL_ranked_4 rfl (lv_at hl 2 rfl) ?_
  refine hk_L (wr := [(o, .inl (ct 3, 1, .inr (.inl f)))]) (z := (opRanked g x y)) (rest := [.int (nI 0), .ref o]) (vx_runV (As := [.int x, .int y]) (rest := [.int (nI 0), .ref o]) ⟨hx, hb, hml, hown, hts⟩ (c_X2_ranked l hfl D ct sa G0 s.heap.size b d g x y hI) (cwV 2 hts gL_ranked_X2_ranked rfl rfl rfl (by decide +kernel) ⟨Nat.le_of_ble_eq_true rfl, Nat.le_of_ble_eq_true rfl⟩) (hk_prxV hE hH (va_recv hE.1 (hP.right (w1 := [(o, .inl (ct 3, 1, .inr (.inl f)))])) (ci := 2) (q0 := 0) rfl rfl) ⟨rfl, hP.right (w1 := [(o, .inl (ct 3, 1, .inr (.inl f)))]), hDG.right (w1 := [(o, .inl (ct 3, 1, .inr (.inl f)))])⟩) rfl rfl hl.1 rfl (lv_room (Nat.le_of_ble_eq_true rfl)) dL_ranked_5 ⟨Nat.le_of_ble_eq_true rfl, Nat.le_of_ble_eq_true rfl⟩) rfl hP hD hS hA (fun E ce q9 H locs ho hP hS hce hcv hcl => ?_) (fun d9 H locs hz hP hD hS => ?_)
  · obtain ⟨k, hk, hz⟩ := ho
    have hg9 : (opRanked g x y).2.2 = g := rf_opRanked (by rw [hz]; exact nI_ne0 (by omega) (by
        have h9 : k < 1 := (List.getElem?_eq_some_iff.mp hk).1
        omega))
    rcases k with _ | k
    · obtain rfl : E = "java/lang/IndexOutOfBoundsException" := (Option.some.inj hk).symm
      refine vx_catch hown [] ⟨0, 10, 13, 19⟩ [] (htab.trans rfl) (fun z hz => absurd hz List.not_mem_nil) (by decide) (by decide) (hts (.classLink RL 19 "java/lang/IndexOutOfBoundsException") (by decide +kernel)) (hE.use hkN_c1) hce hcv hcl ?_
      refine lv_astore (lv' := [(4, .ref q9), (0, .ref (b 0)), (1, .int x), (2, .int y), (3, .ref o)]) hx hb dL_ranked_13 hl (by decide) rfl (fun ls hl => ?_)
      refine lv_iconst (v := nI 1) hx hb dL_ranked_15 (by decide) ?_
      have hP9 : va_P D vwCl (hkLW ct b d (opRanked g x y).2.2 o f) H := by rw [hg9]; exact hP
      have hD9 : va_D A (hkLW ct b d (opRanked g x y).2.2 o f) := by rw [hg9]; exact hD
      exact W.iret (v := nI 1) hx hb hr (fun t ht hW => ⟨by rw [hz], ⟨d, f, by rw [ht]; exact hP9, hD9, fun q => absurd (hz.symm.trans q) (by decide)⟩, hS.F ht⟩) hS.2.2 dL_ranked_16
    · exact nomatch hk
  · skip
    have hP : va_P D vwCl ((o, .inl (ct 3, 1, .inr (.inl f))) :: hkW ct b d9 (opRanked g x y).2.2) H := hP
    have hD : va_D A ((o, .inl (ct 3, 1, .inr (.inl f))) :: hkW ct b d9 (opRanked g x y).2.2) := hD
    refine lv_i2l hx hb dL_ranked_8 rfl ?_
    refine hk_lst hx hb hE hP hD hS 0 rfl (j := 0) (x := ((opRanked g x y).2.1).toInt64) (by omega) (by omega) dL_ranked_9 (fun H locs hP hD hS => ?_)
    have hP : va_P D vwCl ((o, .inl (ct 3, 1, .inr (.inl (vp_updL f 0 (((opRanked g x y).2.1).toInt64))))) :: hkW ct b d9 (opRanked g x y).2.2) H := hP
    have hD : va_D A ((o, .inl (ct 3, 1, .inr (.inl (vp_updL f 0 (((opRanked g x y).2.1).toInt64))))) :: hkW ct b d9 (opRanked g x y).2.2) := hD
    refine lv_goto (tgt := 17) hx hb dL_ranked_10 (by decide) ?_
    refine lv_iconst (v := nI 0) hx hb dL_ranked_17 (by decide) ?_
    have hP9 : va_P D vwCl (hkLW ct b d9 (opRanked g x y).2.2 o (vp_updL f 0 (((opRanked g x y).2.1).toInt64))) H := hP
    have hD9 : va_D A (hkLW ct b d9 (opRanked g x y).2.2 o (vp_updL f 0 (((opRanked g x y).2.1).toInt64))) := hD
    exact W.iret (v := nI 0) hx hb hr (fun t ht hW => ⟨by rw [hz]; rfl, ⟨d9, (vp_updL f 0 (((opRanked g x y).2.1).toInt64)), by rw [ht]; exact hP9, hD9, fun _ => rfl⟩, hS.F ht⟩) hS.2.2 dL_ranked_18
