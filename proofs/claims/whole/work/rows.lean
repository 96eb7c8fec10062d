section
-- ===== PART A: goes FIRST, ahead of the names: the tables' words, and 'selects' of the private methods out of them =====
/-- a private method of a class that the tables say can be made, by its rows of tables_1 -/
def lw_okq (q : MethodName × Nat) : Prop := (q.1.cls ≠ "java/lang/invoke/MethodHandle" ∧ q.1.cls ≠ "java/lang/invoke/VarHandle") ∧ Cond.instantiable q.1.cls q.2 ∈ tables_1 ∧ Cond.privateMethod q.1 ∈ tables_1 ∧ Cond.instanceMethod q.1 ∈ tables_1
theorem lw_p0 : lw_okq (⟨"java/lang/Throwable", "fillInStackTrace", "(I)Ljava/lang/Throwable;"⟩, 6) := ⟨⟨by decide +kernel, by decide +kernel⟩, List.mem_of_getElem? (i := 134) (by decide +kernel), List.mem_of_getElem? (i := 132) (by decide +kernel), List.mem_of_getElem? (i := 133) (by decide +kernel)⟩
theorem lw_p1 : lw_okq (⟨"Homekeys", "studentAt", "(I)LHomekeys$Student;"⟩, 5) := ⟨⟨by decide +kernel, by decide +kernel⟩, List.mem_of_getElem? (i := 15) (by decide +kernel), List.mem_of_getElem? (i := 173) (by decide +kernel), List.mem_of_getElem? (i := 174) (by decide +kernel)⟩
theorem lw_p2 : lw_okq (⟨"Homekeys$Student", "savedBy", "(II)I"⟩, 8) := ⟨⟨by decide +kernel, by decide +kernel⟩, List.mem_of_getElem? (i := 55) (by decide +kernel), List.mem_of_getElem? (i := 224) (by decide +kernel), List.mem_of_getElem? (i := 225) (by decide +kernel)⟩
theorem lw_p3 : lw_okq (⟨"Homekeys$Student", "timeWith", "(II)I"⟩, 8) := ⟨⟨by decide +kernel, by decide +kernel⟩, List.mem_of_getElem? (i := 55) (by decide +kernel), List.mem_of_getElem? (i := 228) (by decide +kernel), List.mem_of_getElem? (i := 229) (by decide +kernel)⟩
theorem lw_p4 : lw_okq (⟨"Homekeys$Student", "exchange", "(II)V"⟩, 8) := ⟨⟨by decide +kernel, by decide +kernel⟩, List.mem_of_getElem? (i := 55) (by decide +kernel), List.mem_of_getElem? (i := 256) (by decide +kernel), List.mem_of_getElem? (i := 257) (by decide +kernel)⟩
theorem lw_p5 : lw_okq (⟨"Homekeys$Student", "type", "(II)Z"⟩, 8) := ⟨⟨by decide +kernel, by decide +kernel⟩, List.mem_of_getElem? (i := 55) (by decide +kernel), List.mem_of_getElem? (i := 286) (by decide +kernel), List.mem_of_getElem? (i := 287) (by decide +kernel)⟩
theorem lw_p6 : lw_okq (⟨"Homekeys$Student", "keep", "(I)V"⟩, 8) := ⟨⟨by decide +kernel, by decide +kernel⟩, List.mem_of_getElem? (i := 55) (by decide +kernel), List.mem_of_getElem? (i := 297) (by decide +kernel), List.mem_of_getElem? (i := 298) (by decide +kernel)⟩
theorem lw_p7 : lw_okq (⟨"Homekeys$Student", "slipsOf", "(II)I"⟩, 8) := ⟨⟨by decide +kernel, by decide +kernel⟩, List.mem_of_getElem? (i := 55) (by decide +kernel), List.mem_of_getElem? (i := 315) (by decide +kernel), List.mem_of_getElem? (i := 316) (by decide +kernel)⟩
theorem lw_p8 : lw_okq (⟨"Homekeys$Student", "timeByCounts", "([I)I"⟩, 8) := ⟨⟨by decide +kernel, by decide +kernel⟩, List.mem_of_getElem? (i := 55) (by decide +kernel), List.mem_of_getElem? (i := 360) (by decide +kernel), List.mem_of_getElem? (i := 361) (by decide +kernel)⟩
theorem lw_p9 : lw_okq (⟨"Homekeys$Student", "slippingLetter", "(I)I"⟩, 8) := ⟨⟨by decide +kernel, by decide +kernel⟩, List.mem_of_getElem? (i := 55) (by decide +kernel), List.mem_of_getElem? (i := 376) (by decide +kernel), List.mem_of_getElem? (i := 377) (by decide +kernel)⟩
theorem lw_p10 : lw_okq (⟨"Homekeys$Student", "lettersAhead", "(I)I"⟩, 8) := ⟨⟨by decide +kernel, by decide +kernel⟩, List.mem_of_getElem? (i := 55) (by decide +kernel), List.mem_of_getElem? (i := 380) (by decide +kernel), List.mem_of_getElem? (i := 381) (by decide +kernel)⟩
theorem lw_p11 : lw_okq (⟨"Homekeys$Student", "letterSlips", "(I)I"⟩, 8) := ⟨⟨by decide +kernel, by decide +kernel⟩, List.mem_of_getElem? (i := 55) (by decide +kernel), List.mem_of_getElem? (i := 384) (by decide +kernel), List.mem_of_getElem? (i := 385) (by decide +kernel)⟩
theorem lw_p12 : lw_okq (⟨"Homekeys$Student", "bestExchange", "()I"⟩, 8) := ⟨⟨by decide +kernel, by decide +kernel⟩, List.mem_of_getElem? (i := 55) (by decide +kernel), List.mem_of_getElem? (i := 402) (by decide +kernel), List.mem_of_getElem? (i := 403) (by decide +kernel)⟩
theorem lw_p13 : lw_okq (⟨"Homekeys", "contestOfDraft", "()LHomekeys$Contest;"⟩, 5) := ⟨⟨by decide +kernel, by decide +kernel⟩, List.mem_of_getElem? (i := 15) (by decide +kernel), List.mem_of_getElem? (i := 423) (by decide +kernel), List.mem_of_getElem? (i := 424) (by decide +kernel)⟩
theorem lw_p14 : lw_okq (⟨"Homekeys", "contestAt", "(I)LHomekeys$Contest;"⟩, 5) := ⟨⟨by decide +kernel, by decide +kernel⟩, List.mem_of_getElem? (i := 15) (by decide +kernel), List.mem_of_getElem? (i := 454) (by decide +kernel), List.mem_of_getElem? (i := 455) (by decide +kernel)⟩
theorem lw_p15 : lw_okq (⟨"Homekeys$Contest", "hasResult", "(I)Z"⟩, 3) := ⟨⟨by decide +kernel, by decide +kernel⟩, List.mem_of_getElem? (i := 426) (by decide +kernel), List.mem_of_getElem? (i := 465) (by decide +kernel), List.mem_of_getElem? (i := 466) (by decide +kernel)⟩
def lw_privs_1 : List (MethodName × Nat) := [(⟨"java/lang/Throwable", "fillInStackTrace", "(I)Ljava/lang/Throwable;"⟩, 6), (⟨"Homekeys", "studentAt", "(I)LHomekeys$Student;"⟩, 5), (⟨"Homekeys$Student", "savedBy", "(II)I"⟩, 8), (⟨"Homekeys$Student", "timeWith", "(II)I"⟩, 8), (⟨"Homekeys$Student", "exchange", "(II)V"⟩, 8), (⟨"Homekeys$Student", "type", "(II)Z"⟩, 8), (⟨"Homekeys$Student", "keep", "(I)V"⟩, 8), (⟨"Homekeys$Student", "slipsOf", "(II)I"⟩, 8), (⟨"Homekeys$Student", "timeByCounts", "([I)I"⟩, 8), (⟨"Homekeys$Student", "slippingLetter", "(I)I"⟩, 8), (⟨"Homekeys$Student", "lettersAhead", "(I)I"⟩, 8), (⟨"Homekeys$Student", "letterSlips", "(I)I"⟩, 8), (⟨"Homekeys$Student", "bestExchange", "()I"⟩, 8), (⟨"Homekeys", "contestOfDraft", "()LHomekeys$Contest;"⟩, 5), (⟨"Homekeys", "contestAt", "(I)LHomekeys$Contest;"⟩, 5), (⟨"Homekeys$Contest", "hasResult", "(I)Z"⟩, 3)]
theorem lw_r1 : ∀ q ∈ lw_privs_1, lw_okq q := List.forall_mem_cons.mpr ⟨lw_p0, List.forall_mem_cons.mpr ⟨lw_p1, List.forall_mem_cons.mpr ⟨lw_p2, List.forall_mem_cons.mpr ⟨lw_p3, List.forall_mem_cons.mpr ⟨lw_p4, List.forall_mem_cons.mpr ⟨lw_p5, List.forall_mem_cons.mpr ⟨lw_p6, List.forall_mem_cons.mpr ⟨lw_p7, List.forall_mem_cons.mpr ⟨lw_p8, List.forall_mem_cons.mpr ⟨lw_p9, List.forall_mem_cons.mpr ⟨lw_p10, List.forall_mem_cons.mpr ⟨lw_p11, List.forall_mem_cons.mpr ⟨lw_p12, List.forall_mem_cons.mpr ⟨lw_p13, List.forall_mem_cons.mpr ⟨lw_p14, List.forall_mem_cons.mpr ⟨lw_p15, fun _ h => absurd h List.not_mem_nil⟩⟩⟩⟩⟩⟩⟩⟩⟩⟩⟩⟩⟩⟩⟩⟩
theorem lw_p16 : lw_okq (⟨"Homekeys$Contest", "told", "(II)I"⟩, 3) := ⟨⟨by decide +kernel, by decide +kernel⟩, List.mem_of_getElem? (i := 426) (by decide +kernel), List.mem_of_getElem? (i := 479) (by decide +kernel), List.mem_of_getElem? (i := 480) (by decide +kernel)⟩
theorem lw_p17 : lw_okq (⟨"Homekeys$Contest", "rankOf", "(I)I"⟩, 3) := ⟨⟨by decide +kernel, by decide +kernel⟩, List.mem_of_getElem? (i := 426) (by decide +kernel), List.mem_of_getElem? (i := 483) (by decide +kernel), List.mem_of_getElem? (i := 484) (by decide +kernel)⟩
theorem lw_p18 : lw_okq (⟨"Homekeys$Contest", "holderOf", "(I)I"⟩, 3) := ⟨⟨by decide +kernel, by decide +kernel⟩, List.mem_of_getElem? (i := 426) (by decide +kernel), List.mem_of_getElem? (i := 496) (by decide +kernel), List.mem_of_getElem? (i := 497) (by decide +kernel)⟩
theorem lw_p19 : lw_okq (⟨"HomekeysModel", "refused", "(I)Z"⟩, 17) := ⟨⟨by decide +kernel, by decide +kernel⟩, List.mem_of_getElem? (i := 500) (by decide +kernel), List.mem_of_getElem? (i := 566) (by decide +kernel), List.mem_of_getElem? (i := 567) (by decide +kernel)⟩
theorem lw_p20 : lw_okq (⟨"HomekeysModel", "isStudent", "(I)Z"⟩, 17) := ⟨⟨by decide +kernel, by decide +kernel⟩, List.mem_of_getElem? (i := 500) (by decide +kernel), List.mem_of_getElem? (i := 574) (by decide +kernel), List.mem_of_getElem? (i := 575) (by decide +kernel)⟩
theorem lw_p21 : lw_okq (⟨"HomekeysModel", "why", "(III)I"⟩, 17) := ⟨⟨by decide +kernel, by decide +kernel⟩, List.mem_of_getElem? (i := 500) (by decide +kernel), List.mem_of_getElem? (i := 585) (by decide +kernel), List.mem_of_getElem? (i := 586) (by decide +kernel)⟩
theorem lw_p22 : lw_okq (⟨"HomekeysModel", "saved", "(III)I"⟩, 17) := ⟨⟨by decide +kernel, by decide +kernel⟩, List.mem_of_getElem? (i := 500) (by decide +kernel), List.mem_of_getElem? (i := 592) (by decide +kernel), List.mem_of_getElem? (i := 593) (by decide +kernel)⟩
theorem lw_p23 : lw_okq (⟨"HomekeysModel", "timeWith", "(III)I"⟩, 17) := ⟨⟨by decide +kernel, by decide +kernel⟩, List.mem_of_getElem? (i := 500) (by decide +kernel), List.mem_of_getElem? (i := 596) (by decide +kernel), List.mem_of_getElem? (i := 597) (by decide +kernel)⟩
theorem lw_p24 : lw_okq (⟨"HomekeysModel", "keyWith", "(IIII)I"⟩, 17) := ⟨⟨by decide +kernel, by decide +kernel⟩, List.mem_of_getElem? (i := 500) (by decide +kernel), List.mem_of_getElem? (i := 600) (by decide +kernel), List.mem_of_getElem? (i := 601) (by decide +kernel)⟩
theorem lw_p25 : lw_okq (⟨"HomekeysModel", "isIn", "(II)Z"⟩, 17) := ⟨⟨by decide +kernel, by decide +kernel⟩, List.mem_of_getElem? (i := 500) (by decide +kernel), List.mem_of_getElem? (i := 672) (by decide +kernel), List.mem_of_getElem? (i := 673) (by decide +kernel)⟩
theorem lw_p26 : lw_okq (⟨"HomekeysModel", "score", "(I)I"⟩, 17) := ⟨⟨by decide +kernel, by decide +kernel⟩, List.mem_of_getElem? (i := 500) (by decide +kernel), List.mem_of_getElem? (i := 677) (by decide +kernel), List.mem_of_getElem? (i := 678) (by decide +kernel)⟩
theorem lw_p27 : lw_okq (⟨"HomekeysModel", "rank", "(II)I"⟩, 17) := ⟨⟨by decide +kernel, by decide +kernel⟩, List.mem_of_getElem? (i := 500) (by decide +kernel), List.mem_of_getElem? (i := 685) (by decide +kernel), List.mem_of_getElem? (i := 686) (by decide +kernel)⟩
def lw_privs_2 : List (MethodName × Nat) := [(⟨"Homekeys$Contest", "told", "(II)I"⟩, 3), (⟨"Homekeys$Contest", "rankOf", "(I)I"⟩, 3), (⟨"Homekeys$Contest", "holderOf", "(I)I"⟩, 3), (⟨"HomekeysModel", "refused", "(I)Z"⟩, 17), (⟨"HomekeysModel", "isStudent", "(I)Z"⟩, 17), (⟨"HomekeysModel", "why", "(III)I"⟩, 17), (⟨"HomekeysModel", "saved", "(III)I"⟩, 17), (⟨"HomekeysModel", "timeWith", "(III)I"⟩, 17), (⟨"HomekeysModel", "keyWith", "(IIII)I"⟩, 17), (⟨"HomekeysModel", "isIn", "(II)Z"⟩, 17), (⟨"HomekeysModel", "score", "(I)I"⟩, 17), (⟨"HomekeysModel", "rank", "(II)I"⟩, 17)]
theorem lw_r2 : ∀ q ∈ lw_privs_2, lw_okq q := List.forall_mem_cons.mpr ⟨lw_p16, List.forall_mem_cons.mpr ⟨lw_p17, List.forall_mem_cons.mpr ⟨lw_p18, List.forall_mem_cons.mpr ⟨lw_p19, List.forall_mem_cons.mpr ⟨lw_p20, List.forall_mem_cons.mpr ⟨lw_p21, List.forall_mem_cons.mpr ⟨lw_p22, List.forall_mem_cons.mpr ⟨lw_p23, List.forall_mem_cons.mpr ⟨lw_p24, List.forall_mem_cons.mpr ⟨lw_p25, List.forall_mem_cons.mpr ⟨lw_p26, List.forall_mem_cons.mpr ⟨lw_p27, fun _ h => absurd h List.not_mem_nil⟩⟩⟩⟩⟩⟩⟩⟩⟩⟩⟩⟩
def lw_privs : List (MethodName × Nat) := lw_privs_1 ++ (lw_privs_2)
def lw_tbl : List Cond := k2_sels lw_privs ++ tables_1
theorem lw_privs_ok : ∀ q ∈ lw_privs, lw_okq q := by
  show ∀ q ∈ lw_privs_1 ++ (lw_privs_2), lw_okq q
  exact List.forall_mem_append.mpr ⟨lw_r1, lw_r2⟩
/-! ===== BEGIN words of one list among another's, by their places ===== -/
theorem goodIn_r {big : List Cond} (ws : List Cond) (ps : List Nat) (hp : ws = ps.filterMap (fun i => big[i]?)) (h : ws.all goodWord = true) : GoodIn big ws := by
  intro w hw
  have h1 := List.all_eq_true.mp h w hw
  rw [hp] at hw
  obtain ⟨i, -, hi⟩ := List.mem_filterMap.mp hw
  have hm : w ∈ big := by first | exact List.mem_of_getElem? hi | exact List.getElem?_mem hi
  exact ⟨hm, good_of_word h1⟩
theorem goodIn_app {big a b : List Cond} (ha : GoodIn big a) (hb : GoodIn big b) : GoodIn big (a ++ b) := fun w h => (List.mem_append.mp h).elim (ha w) (hb w)
theorem goodIn_ca {big a b : List Cond} {c : Cond} (ha : GoodIn big (c :: a)) (hb : GoodIn big b) : GoodIn big (c :: (a ++ b)) := fun w h => (List.mem_cons.mp h).elim (fun e => ha w (List.mem_cons.mpr (Or.inl e))) (fun h => (List.mem_append.mp h).elim (fun h => ha w (List.mem_cons.mpr (Or.inr h))) (hb w))
theorem goodIn_sub {big ws : List Cond} (hm : ∀ w ∈ ws, w ∈ big) (h : ws.all goodWord = true) : GoodIn big ws := fun w hw => ⟨hm w hw, good_of_word (List.all_eq_true.mp h w hw)⟩
/-! ===== END ===== -/

/-! ===== BEGIN exceptions that leave a method, and their catching by the caller (launches without stack traces) ===== -/
section VXA
/-! The laws vx_back, vx_callV, vx_callS, vx_callSW, vx_throw0, vx_throwS follow proofs of the library, with one case more: JvmDerived/Free/Laws.lean (Back.of_free), Shelf42/LK1.lean (callV, callS), Shelf/KitTraced.lean (throwNew0V, throwNewS). -/
/-- where a method has thrown q: the class by its name, the cell, what was written, the world -/
def vx_T (XC : String → State → State → Prop) (st : State) (q : Addr) (t : State) (mc ms : Nat) (free : Addr → Prop) : Prop :=
  ∃ (E : String) (ce : Cell) (L : List Loc), XC E st t ∧ t.heap[q]? = some ce ∧ ce.vm = .none ∧ st.vm.findClass E = some ce.cls ∧ st.WarmedH t.vm ∧ st.sameButNew ({ t with vm := st.vm } : State) L mc ms ∧ ∀ z ∈ L, free z.base
def vx_Q (Qc : Array Value → State → Outcome → State → Prop) (XC : String → State → State → Prop) (mc ms : Nat) (free : Addr → Prop) : Array Value → State → Outcome → State → Prop := fun a st o t =>
  (Qc a st o t ∧ ∃ L, FrameEnd st o t L mc ms ∧ ∀ q ∈ L, free q.base) ∨ ∃ q, o = .threw q ∧ vx_T XC st q t mc ms free
/-- a callee that returns or throws -/
def vx_Met (l : Launch) (y : MethodName) (ws : List Cond) (rm : Room) (Pc : Array Value → State → Prop) (Qc : Array Value → State → Outcome → State → Prop) (XC : String → State → State → Prop) (mc ms : Nat) (free : Addr → Prop) : Prop :=
  MetFree l y (headSpec ws rm) Pc (fun _ _ _ _ _ => True) (vx_Q Qc XC mc ms free)
def vx_Post (XC : String → State → State → Prop) (mc ms : Nat) (free : Addr → Prop) : Pt → Array Value → Addr → Pt → Prop := fun A a q B =>
  ∃ (g : JFrame) (mk : MethodId) (t : State) (L : List Loc) (E : String) (ce : Cell), B.U.heap = t.heap ∧ B.U.vm = t.vm ∧ XC E (A.U.calling g mk a) t ∧ t.heap[q]? = some ce ∧ ce.vm = .none ∧ A.U.vm.findClass E = some ce.cls ∧ B.locs = A.locs ++ L ∧ (∀ z ∈ L, free z.base) ∧ B.cells = A.cells + mc ∧ B.slots = A.slots + ms
def vx_Back (l : Launch) (R : Room) (p : Program) (e : Env) (below : List Frame) (s : State) (sargs : Array Value) (y : MethodName) (len W9 : Nat)
    (Pre : Pt → Array Value → Prop) (Post : Pt → Array Value → Option Value → Pt → Prop) (PostX : Pt → Array Value → Addr → Pt → Prop) : Prop :=
  ∀ (m : MethodId) (meth : Method) (c : Code) (A : Pt) (g : JFrame) (ig : Instr) (mk : MethodId) (a : Array Value),
    Stand p l e R s m sargs below meth c A.U A.locs A.cells A.slots → g.method = m → g.locals.size = c.maxLocals → decode c.code g.pc = .ok (ig, len) →
    2 * g.monitorRoom + (g.stack.map fun v => v.category).sum ≤ W9 → A.U.methodNamed? y = some mk → Pre A a →
    (∃ (v : Option Value) (B : Pt), Stand p l e R s m sargs below meth c B.U B.locs B.cells B.slots ∧ Post A a v B ∧
      Steps p.tables e below (doInvoke e (A.U.setTop g) [] mk a).1 (B.U.setTop { g with pc := g.pc + len, stack := v.toList ++ g.stack })) ∨
    (∃ (q : Addr) (B : Pt), Stand p l e R s m sargs below meth c B.U B.locs B.cells B.slots ∧ PostX A a q B ∧
      Steps p.tables e below (doInvoke e (A.U.setTop g) [] mk a).1 ((B.U.setTop g).pushFrame (.throwing q)))
section Payer
variable {l : Launch} {R : Room} {p : Program} {e : Env} {below : List Frame} {s : State} {sargs : Array Value} {y : MethodName} {len W9 : Nat}
theorem vx_back {ws : List Cond} {rm : Room} {Pc : Array Value → State → Prop} {Qc : Array Value → State → Outcome → State → Prop} {XC : String → State → State → Prop} {mc ms : Nat} {free : Addr → Prop} {bytes : ByteArray} {maxL : Nat} {ret : Option FieldType}
    (hM : vx_Met l y ws rm Pc Qc XC mc ms free) (hblind : FrameBlind Pc) (hrc : rm.cells = mc) (hrs : rm.slots = ms)
    (hframes : rm.frames + 1 ≤ R.frames) (hlocals : W9 + (maxL + 11) + rm.locals ≤ R.locals)
    (hws : ∀ w ∈ ws, ∀ a' U, s.WarmedH U.vm → w.before a' U = true) (hcode : Cond.code y bytes maxL ret ∈ ws) (hinit : ∀ a' U, s.WarmedH U.vm → (Cond.initialized y.cls).before a' U = true) :
    vx_Back l R p e below s sargs y len W9 (PreOf R mc ms Pc) (PostOf Qc mc ms free) (vx_Post XC mc ms free) := by
  intro m meth c A g ig mk a X hg hsize hdg hW hn hp
  have h1 : (headSpec ws rm).pre.before a A.U = true := atoms_intro fun w hw => hws w hw _ _ X.warmed
  have h2 : (Cond.code y bytes maxL ret).before a A.U = true := hws _ hcode _ _ X.warmed
  have h3 : (Cond.initialized y.cls).before a A.U = true := hinit _ _ X.warmed
  have h4 : A.cells + (headSpec ws rm).room.cells ≤ R.cells := by rw [show (headSpec ws rm).room.cells = mc from hrc]; exact hp.1
  have h5 : A.slots + (headSpec ws rm).room.slots ≤ R.slots := by rw [show (headSpec ws rm).room.slots = ms from hrs]; exact hp.2.1
  have hPc : Pc a (A.U.calling g mk a) := hblind _ _ _ _ hp.2.2
  obtain ⟨U, Ls, c0, s0⟩ := A
  dsimp only [Pt.U, Pt.locs, Pt.cells, Pt.slots] at h1 h2 h3 h4 h5 X hn hPc ⊢
  obtain ⟨methY, cY, hmY, hcY, -, hlY, -, -, -, -⟩ := Cond.code_spec hn h2
  obtain ⟨kY, hkY, -⟩ := className_of_methodNamed hn
  have hinitY : kY.init = .initialized := Cond.initialized_spec (findClass_of_methodNamed hn) hkY h3
  have h : At U g.method c below := by rw [hg]; exact X.here
  have hlocals9 : W9 + (maxL + 11) + (headSpec ws rm).room.locals ≤ R.locals := hlocals
  have happ : (headSpec ws rm).appliesLoose y e.platform (U.calling g mk a) = true :=
    Spec.appliesLoose_calling (g := g) h hdg hn hkY hinitY
      (X.room_calling (g := g) (R' := (headSpec ws rm).room) hsize hmY hcY hframes (by rw [hlY]; omega) h4 h5) h1
  obtain ⟨mid, hmid⟩ := h.above
  have hfr : (U.setTop g).frames = (.java g :: mid) ++ below := by rw [State.frames_setTop' g h.top, hmid]; rfl
  obtain ⟨o, s₂, hsteps, -, hend, hq⟩ := Steps.callFree hM p X.admits X.cas X.clock (acts := []) hfr happ hPc trivial
  have hq' : vx_Q Qc XC mc ms free a (U.calling g mk a) o s₂ := hq
  rw [State.frames_setTop' g h.top] at hend
  obtain ⟨g₀, hg0⟩ := Option.isSome_iff_exists.mp h.top
  obtain ⟨r, hr⟩ := State.topJava?_eq_some.mp hg0
  have hr' : (({ U with heap := s₂.heap, slotsUsed := s₂.slotsUsed } : State).setVm s₂.vm).frames = .java g₀ :: r := hr
  rcases hq' with ⟨hqc, L, hfe, hL⟩ | ⟨q, rfl, E, ce, L, hx, hce, hcv, hcl, hW₂, hsm, hL⟩
  · obtain ⟨⟨v, rfl⟩, hW₂, e2, q2, q3, q4, q5, q6⟩ := id hfe
    have e3 : s₂ = ({ (U.calling g mk a).setFrames s₂.frames with heap := s₂.heap, slotsUsed := s₂.slotsUsed } : State).setVm s₂.vm := by
      have : s₂ = ({ s₂ with vm := (U.calling g mk a).vm } : State).setVm s₂.vm := rfl
      rw [e2] at this
      exact this
    obtain ⟨c₂, i₂, len₂, hc₂, hd₂, hf₂⟩ := hend
    have hW' : U.WarmedH s₂.vm := hW₂
    have hcc : c₂ = c := by
      have h1 : s₂.code? g.method = U.code? g.method := by
        rw [State.code?_eq, State.code?_eq, hW'.alike.method?]
      exact Option.some.inj (hc₂.symm.trans (h1.trans h.code))
    subst hcc
    have hlen : len₂ = len := by rw [hdg] at hd₂; cases hd₂; rfl
    subst hlen
    have hs₂ : s₂ = (({ U with heap := s₂.heap, slotsUsed := s₂.slotsUsed } : State).setVm s₂.vm).setTop { g with pc := g.pc + len₂, stack := v.toList ++ g.stack } := by
      refine e3.trans ?_
      rw [hf₂, State.calling_eq h.top, State.setFrames_setFrames, State.setTop_of_frames _ hr', hr]
      rfl
    have hsame : U.sameButNew ({ U with heap := s₂.heap, slotsUsed := s₂.slotsUsed } : State) L mc ms := by
      refine ⟨?_, q2, q3, q4, q5, q6⟩
      obtain ⟨t, ht, -⟩ := State.frames_cons hr
      show ({ U with heap := s₂.heap, slotsUsed := s₂.slotsUsed } : State) = { U.setFrames U.frames with heap := s₂.heap, slotsUsed := s₂.slotsUsed }
      rw [State.setFrames_self ht]
    subst hg
    refine Or.inl ⟨v, ⟨(({ U with heap := s₂.heap, slotsUsed := s₂.slotsUsed } : State).setVm s₂.vm), Ls ++ L, c0 + mc, s0 + ms⟩,
      ⟨X.admits, X.cas, X.clock, X.frames, X.room, X.hears, X.method, X.code, (X.here.setHeapUsed s₂.heap s₂.slotsUsed).setVm hW'.alike, X.tail, State.WarmedH.trans X.warmed hW', X.limits, X.bytes, X.same.trans (hsame.setVm s.vm)⟩,
      ⟨g, mk, s₂, L, rfl, rfl, hqc, rfl, hL, rfl, rfl⟩, ?_⟩
    show Steps p.tables e below _ ((({ U with heap := s₂.heap, slotsUsed := s₂.slotsUsed } : State).setVm s₂.vm).setTop { g with pc := g.pc + len₂, stack := v.toList ++ g.stack })
    rw [← hs₂]
    exact hsteps
  · obtain ⟨e2, q2, q3, q4, q5, q6⟩ := id hsm
    have e3 : s₂ = ({ (U.calling g mk a).setFrames s₂.frames with heap := s₂.heap, slotsUsed := s₂.slotsUsed } : State).setVm s₂.vm := by
      have : s₂ = ({ s₂ with vm := (U.calling g mk a).vm } : State).setVm s₂.vm := rfl
      rw [e2] at this
      exact this
    have hf₂ : s₂.frames = .throwing q :: .java g :: U.frames.tail := hend
    have hW' : U.WarmedH s₂.vm := hW₂
    have hs₂ : s₂ = ((({ U with heap := s₂.heap, slotsUsed := s₂.slotsUsed } : State).setVm s₂.vm).setTop g).pushFrame (.throwing q) := by
      refine e3.trans ?_
      rw [hf₂, State.calling_eq h.top, State.setFrames_setFrames, State.pushFrame, State.frames_setTop _ hr', State.setTop_of_frames _ hr', State.setFrames_setFrames, hr]
      rfl
    have hsame : U.sameButNew ({ U with heap := s₂.heap, slotsUsed := s₂.slotsUsed } : State) L mc ms := by
      refine ⟨?_, q2, q3, q4, q5, q6⟩
      obtain ⟨t, ht, -⟩ := State.frames_cons hr
      show ({ U with heap := s₂.heap, slotsUsed := s₂.slotsUsed } : State) = { U.setFrames U.frames with heap := s₂.heap, slotsUsed := s₂.slotsUsed }
      rw [State.setFrames_self ht]
    subst hg
    refine Or.inr ⟨q, ⟨(({ U with heap := s₂.heap, slotsUsed := s₂.slotsUsed } : State).setVm s₂.vm), Ls ++ L, c0 + mc, s0 + ms⟩,
      ⟨X.admits, X.cas, X.clock, X.frames, X.room, X.hears, X.method, X.code, (X.here.setHeapUsed s₂.heap s₂.slotsUsed).setVm hW'.alike, X.tail, State.WarmedH.trans X.warmed hW', X.limits, X.bytes, X.same.trans (hsame.setVm s.vm)⟩,
      ⟨g, mk, s₂, L, E, ce, rfl, rfl, hx, hce, hcv, hcl, rfl, hL, rfl, rfl⟩, ?_⟩
    show Steps p.tables e below _ (((({ U with heap := s₂.heap, slotsUsed := s₂.slotsUsed } : State).setVm s₂.vm).setTop g).pushFrame (.throwing q))
    rw [← hs₂]
    exact hsteps
end Payer
section Calls
variable {p : Program} {l : Launch} {e : Env} {R : Room} {s : State} {m : MethodId} {args : Array Value} {below : List Frame} {meth : Method} {c : Code} {T : State} {locs : List Loc} {cells slots : Nat}
theorem vx_callV (X : Stand p l e R s m args below meth c T locs cells slots) (hexec : p.tables.exec = Jvm.exec) {own C : String} {index : Nat} {y : MethodName} {bytes : ByteArray} {maxL : Nat} {ret : Option FieldType}
    (hown : s.vm.findClass own = some m.cls) (hlink : (Cond.methodLink own index y).before args s = true) (hinst : (Cond.instanceMethod y).before args s = true) (hsel : (Cond.selects C y y).before args s = true)
    (hcode : (Cond.code y bytes maxL ret).before args s = true) (hy : y.cls ≠ "java/lang/invoke/MethodHandle" ∧ y.cls ≠ "java/lang/invoke/VarHandle")
    {W9 : Nat} {Pre : Pt → Array Value → Prop} {Post : Pt → Array Value → Option Value → Pt → Prop} {PostX : Pt → Array Value → Addr → Pt → Prop} (hK : vx_Back l R p e below s args y 3 W9 Pre Post PostX)
    {b : Addr} {cellB : Cell} (hcell : T.heap[b]? = some cellB) (hobj : cellB.vm.isStatics = false) (hcls : s.vm.findClass C = some cellB.cls)
    {g : JFrame} (hg : g.method = m) (hsize : g.locals.size = c.maxLocals) {argsL rest : List Value} (hlen : ∀ sig, parseMethodDescriptor y.desc = some sig → argsL.length = sig.parameters.length)
    (hstack : g.stack = argsL.reverse ++ .ref b :: rest) (hW : 2 * g.monitorRoom + (rest.map fun v => v.category).sum ≤ W9) (hdg : decode c.code g.pc = .ok (.invokevirtual index, 3))
    (hpre : ∀ vm₁, s.WarmedH vm₁ → Pre ⟨T.setVm vm₁, locs, cells, slots⟩ (Value.ref b :: argsL).toArray) :
    (∃ (v : Option Value) (vm₁ : Vm) (B : Pt), s.WarmedH vm₁ ∧ Stand p l e R s m args below meth c B.U B.locs B.cells B.slots ∧ Post ⟨T.setVm vm₁, locs, cells, slots⟩ (Value.ref b :: argsL).toArray v B ∧
      ∀ target, Steps p.tables e below (B.U.setTop { g with pc := g.pc + 3, stack := v.toList ++ rest }) target → Steps p.tables e below (T.setTop g) target) ∨
    (∃ (q : Addr) (vm₁ : Vm) (B : Pt), s.WarmedH vm₁ ∧ Stand p l e R s m args below meth c B.U B.locs B.cells B.slots ∧ PostX ⟨T.setVm vm₁, locs, cells, slots⟩ (Value.ref b :: argsL).toArray q B ∧
      Steps p.tables e below (T.setTop g) ((B.U.setTop { g with stack := rest }).pushFrame (.throwing q))) := by
  obtain ⟨mk, methM, hnamed, hmethM, hstM, habM⟩ := Cond.instanceMethod_spec hinst
  obtain ⟨methM', cM, hmethM', -, -, -, -, -, -, hsigM⟩ := Cond.code_spec hnamed hcode
  cases hmethM.symm.trans hmethM'
  obtain ⟨c2, r2, m2, q1, q2, q3, q4, kP, hkP, hkPi⟩ := Cond.selects_spec hsel
  cases hcls.symm.trans q1
  cases (State.methodFound?_of_named hnamed hy).symm.trans q2
  cases hnamed.symm.trans q3
  have hselP : selectMethod e.platform s.vm cellB.cls mk = .method mk := by rw [Launch.admits_selectMethod X.admits]; exact q4
  obtain ⟨vm₁, X₁, hstep₁⟩ := X.invokevirtual hexec hown hlink hnamed hmethM hstM hkP hkPi hy (a := b) (cell := cellB) hcell
    (fun z h => by rw [h] at hobj; cases hobj) hselP hmethM habM hkP hkPi (g := g) hg (argsL := argsL) (rest := rest) (hlen _ hsigM) hstack hdg
  rcases hK m meth c ⟨T.setVm vm₁, locs, cells, slots⟩ { g with stack := rest } (.invokevirtual index) mk (Value.ref b :: argsL).toArray X₁ hg hsize hdg hW (X₁.named hnamed) (hpre vm₁ X₁.warmed) with ⟨v, B, X', hpost, hsteps⟩ | ⟨q, B, X', hpost, hsteps⟩
  · exact Or.inl ⟨v, vm₁, B, X₁.warmed, X', hpost, fun target h => hstep₁ _ fun acts => by rw [doInvoke_state]; exact hsteps.trans h⟩
  · exact Or.inr ⟨q, vm₁, B, X₁.warmed, X', hpost, hstep₁ _ fun acts => by rw [doInvoke_state]; exact hsteps⟩
theorem vx_callS (X : Stand p l e R s m args below meth c T locs cells slots) (hexec : p.tables.exec = Jvm.exec) {own : String} {index : Nat} {y : MethodName} {bytes : ByteArray} {maxL : Nat} {ret : Option FieldType}
    (hown : s.vm.findClass own = some m.cls) (hlink : (Cond.methodLink own index y).before args s = true) (hstat : (Cond.static y).before args s = true) (hinit : (Cond.initialized y.cls).before args s = true)
    (hcode : (Cond.code y bytes maxL ret).before args s = true) (hy : y.cls ≠ "java/lang/invoke/MethodHandle" ∧ y.cls ≠ "java/lang/invoke/VarHandle")
    {W9 : Nat} {Pre : Pt → Array Value → Prop} {Post : Pt → Array Value → Option Value → Pt → Prop} {PostX : Pt → Array Value → Addr → Pt → Prop} (hK : vx_Back l R p e below s args y 3 W9 Pre Post PostX)
    {g : JFrame} (hg : g.method = m) (hsize : g.locals.size = c.maxLocals) {argsL rest : List Value} (hlen : ∀ sig, parseMethodDescriptor y.desc = some sig → argsL.length = sig.parameters.length)
    (hstack : g.stack = argsL.reverse ++ rest) (hW : 2 * g.monitorRoom + (rest.map fun v => v.category).sum ≤ W9) (hdg : decode c.code g.pc = .ok (.invokestatic index, 3))
    (hpre : ∀ vm₁, s.WarmedH vm₁ → Pre ⟨T.setVm vm₁, locs, cells, slots⟩ argsL.toArray) :
    (∃ (v : Option Value) (vm₁ : Vm) (B : Pt), s.WarmedH vm₁ ∧ Stand p l e R s m args below meth c B.U B.locs B.cells B.slots ∧ Post ⟨T.setVm vm₁, locs, cells, slots⟩ argsL.toArray v B ∧
      ∀ target, Steps p.tables e below (B.U.setTop { g with pc := g.pc + 3, stack := v.toList ++ rest }) target → Steps p.tables e below (T.setTop g) target) ∨
    (∃ (q : Addr) (vm₁ : Vm) (B : Pt), s.WarmedH vm₁ ∧ Stand p l e R s m args below meth c B.U B.locs B.cells B.slots ∧ PostX ⟨T.setVm vm₁, locs, cells, slots⟩ argsL.toArray q B ∧
      Steps p.tables e below (T.setTop g) ((B.U.setTop { g with stack := rest }).pushFrame (.throwing q))) := by
  obtain ⟨mk, hnamed⟩ := Cond.code_named hcode
  obtain ⟨methM, cM, hmethM, -, -, -, -, -, -, hsigM⟩ := Cond.code_spec hnamed hcode
  have hstatic : methM.isStatic = true := Cond.static_spec hnamed hmethM hstat
  obtain ⟨kP, hkP, -⟩ := className_of_methodNamed hnamed
  have hinitP : kP.init = .initialized := Cond.initialized_spec (findClass_of_methodNamed hnamed) hkP hinit
  obtain ⟨vm₁, X₁, hstep₁⟩ := X.invokestatic hexec hown hlink hnamed hmethM hstatic hkP hinitP hy (g := g) hg (argsL := argsL) (rest := rest) (hlen _ hsigM) hstack hdg
  rcases hK m meth c ⟨T.setVm vm₁, locs, cells, slots⟩ { g with stack := rest } (.invokestatic index) mk argsL.toArray X₁ hg hsize hdg hW (X₁.named hnamed) (hpre vm₁ X₁.warmed) with ⟨v, B, X', hpost, hsteps⟩ | ⟨q, B, X', hpost, hsteps⟩
  · exact Or.inl ⟨v, vm₁, B, X₁.warmed, X', hpost, fun target h => hstep₁ _ fun acts => by rw [doInvoke_state]; exact hsteps.trans h⟩
  · exact Or.inr ⟨q, vm₁, B, X₁.warmed, X', hpost, hstep₁ _ fun acts => by rw [doInvoke_state]; exact hsteps⟩
end Calls
theorem vx_cls {s : State} {T : State} {vm₁ : Vm} {E : String} {k : ClassId} (hW : s.WarmedH vm₁) (h : (T.setVm vm₁).vm.findClass E = some k) : s.vm.findClass E = some k := by
  have h1 : vm₁.findClass E = some k := h
  rw [hW.alike.findClass] at h1
  exact h1
/-- the method's frame g, with q thrown over it -/
def vx_W (p : Program) (l : Launch) (e : Env) (R : Room) (s : State) (m : MethodId) (args : Array Value) (below : List Frame) (meth : Method) (c : Code) (H : Heap) (locs : List Loc) (cells slots : Nat) (Q : State → Prop) (g : JFrame) (q : Addr) : Prop :=
  ∀ T : State, T.heap = H → Stand p l e R s m args below meth c T locs cells slots → ∃ t, Steps p.tables e below ((T.setTop g).pushFrame (.throwing q)) t ∧ Q t
def vx_Run (p : Program) (l : Launch) (e : Env) (R : Room) (s : State) (m : MethodId) (args : Array Value) (below : List Frame) (meth : Method) (c : Code) (H : Heap) (locs : List Loc) (cells slots mc ms : Nat) (g : JFrame) (rest : List Value) (Qa : State → Outcome → State → Prop) (XC : String → State → State → Prop) (free : Addr → Prop) : Prop :=
  ∀ T : State, T.heap = H → Stand p l e R s m args below meth c T locs cells slots →
    (∃ (v : Option Value) (st₀ t T' : State) (L : List Loc), st₀.heap = H ∧ Stand p l e R s m args below meth c T' (locs ++ L) (cells + mc) (slots + ms) ∧ (∀ q ∈ L, free q.base) ∧ T'.heap = t.heap ∧ T'.vm = t.vm ∧ Qa st₀ (.returned v) t ∧
      Goes p e below T g T' { g with pc := g.pc + 3, stack := v.toList ++ rest }) ∨
    (∃ (q : Addr) (st₀ t T' : State) (L : List Loc) (E : String) (ce : Cell), st₀.heap = H ∧ Stand p l e R s m args below meth c T' (locs ++ L) (cells + mc) (slots + ms) ∧ (∀ z ∈ L, free z.base) ∧ T'.heap = t.heap ∧ T'.vm = t.vm ∧ XC E st₀ t ∧ t.heap[q]? = some ce ∧ ce.vm = .none ∧ s.vm.findClass E = some ce.cls ∧
      Steps p.tables e below (T.setTop g) ((T'.setTop { g with stack := rest }).pushFrame (.throwing q)))
def vx_X {S : Type} (px : S → Prop) (B : String → S → State → Prop) (A : Nat → Prop) : String → State → State → Prop := fun E st t => ∃ u : S, px u ∧ B E u t ∧ va_F A st t
section Runs
variable {p : Program} {l : Launch} {e : Env} {R : Room} {s : State} {m : MethodId} {args : Array Value} {below : List Frame} {meth : Method} {c : Code} {H : Heap} {locs : List Loc} {cells slots : Nat}
variable {y : MethodName} {bytes cc : ByteArray} {maxL nL mc ms n index : Nat} {ret : Option FieldType} {ws : List Cond} {rm : Room} {Pc : Array Value → State → Prop} {Qc : Array Value → State → Outcome → State → Prop} {XC : String → State → State → Prop} {free : Addr → Prop} {Ts : List Cond} {own C : String} {b : Addr} {As rest : List Value} {g : JFrame}
theorem vx_callBack (cb : CallB R s args own index y bytes maxL ret ws rm mc ms n) (hM : vx_Met l y ws rm Pc Qc XC mc ms free) (hbl : FrameBlind Pc) : vx_Back l R p e below s args y 3 8 (PreOf R mc ms Pc) (PostOf Qc mc ms free) (vx_Post XC mc ms free) := by
  obtain ⟨hrc, hrs, hfr, hlo, hws, hcw, -, hini, -⟩ := cb
  exact vx_back (bytes := bytes) (maxL := maxL) (ret := ret) hM hbl hrc hrs hfr hlo hws hcw (fun a' U hW => word_at hW (Or.inl (by first | rfl | simp [Cond.onTables, Cond.keeps, Cond.steady])) hini)
theorem vx_runV (S : CallFix p m c cc nL s args Ts own) (hM : vx_Met l y ws rm Pc Qc XC mc ms free) (cw : CallW R s args own C index y bytes maxL ret ws rm mc ms n) (hp : PreV s H C b Pc As)
    (hg : g.method = m) (hn : As.length = n) (hsize : g.locals.size = nL) (hstack : g.stack = As.reverse ++ .ref b :: rest) (hW : 2 * g.monitorRoom + (rest.map fun v => v.category).sum ≤ 8) (hdg : decode cc g.pc = .ok (.invokevirtual index, 3)) (hf : cells + mc ≤ R.cells ∧ slots + ms ≤ R.slots) :
    vx_Run p l e R s m args below meth c H locs cells slots mc ms g rest (Qc (Value.ref b :: As).toArray) XC free := by
  have hK : vx_Back l R p e below s args y 3 8 (PreOf R mc ms Pc) (PostOf Qc mc ms free) (vx_Post XC mc ms free) := vx_callBack cw.1 hM hp.1
  obtain ⟨⟨-, -, -, -, -, -, hcode, -, hy, hlen, hl⟩, hin, hse⟩ := cw
  obtain ⟨hx, hb, hml, ho, -⟩ := S
  obtain ⟨-, ⟨cellB, hcB, hoB, hclB⟩, hPc⟩ := hp
  intro T hT X
  rcases vx_callV X hx (C := C) (bytes := bytes) (maxL := maxL) (ret := ret) ho hl hin hse hcode hy hK (by rw [hT]; exact hcB) hoB hclB hg (hsize.trans hml.symm) (argsL := As) (rest := rest) (fun sig h => hn.trans (hlen sig h)) hstack hW (by rw [hb]; exact hdg)
    (fun vm₁ hW₁ => ⟨hf.1, hf.2, hPc (T.setVm vm₁) hT hW₁⟩) with ⟨v, vm₁, ⟨U', l2, c2, s2⟩, hW₁, X', ⟨g', mk, t, L, e1, e2, hq, h1, hL, h2, h3⟩, st⟩ | ⟨q, vm₁, ⟨U', l2, c2, s2⟩, hW₁, X', ⟨g', mk, t, L, E, ce, e1, e2, hq, hce, hcv, hcl, h1, hL, h2, h3⟩, st⟩
  · dsimp only [Pt.U, Pt.locs, Pt.cells, Pt.slots] at X' e1 e2 h1 h2 h3 st
    subst h1; subst h2; subst h3
    exact Or.inl ⟨v, (T.setVm vm₁).calling g' mk (Value.ref b :: As).toArray, t, U', L, hT, X', hL, e1, e2, hq, st⟩
  · dsimp only [Pt.U, Pt.locs, Pt.cells, Pt.slots] at X' e1 e2 h1 h2 h3 st hcl
    subst h1; subst h2; subst h3
    exact Or.inr ⟨q, (T.setVm vm₁).calling g' mk (Value.ref b :: As).toArray, t, U', L, E, ce, hT, X', hL, e1, e2, hq, hce, hcv, vx_cls hW₁ hcl, st⟩
theorem vx_runS (S : CallFix p m c cc nL s args Ts own) (hM : vx_Met l y ws rm Pc Qc XC mc ms free) (cw : CallB R s args own index y bytes maxL ret ws rm mc ms n ∧ (Cond.static y).before args s = true) (hp : PreS s H Pc As)
    (hg : g.method = m) (hn : As.length = n) (hsize : g.locals.size = nL) (hstack : g.stack = As.reverse ++ rest) (hW : 2 * g.monitorRoom + (rest.map fun v => v.category).sum ≤ 8) (hdg : decode cc g.pc = .ok (.invokestatic index, 3)) (hf : cells + mc ≤ R.cells ∧ slots + ms ≤ R.slots) :
    vx_Run p l e R s m args below meth c H locs cells slots mc ms g rest (Qc As.toArray) XC free := by
  have hK : vx_Back l R p e below s args y 3 8 (PreOf R mc ms Pc) (PostOf Qc mc ms free) (vx_Post XC mc ms free) := vx_callBack cw.1 hM hp.1
  obtain ⟨⟨-, -, -, -, -, -, hcode, hini, hy, hlen, hl⟩, hstt⟩ := cw
  obtain ⟨hx, hb, hml, ho, -⟩ := S
  intro T hT X
  rcases vx_callS X hx (bytes := bytes) (maxL := maxL) (ret := ret) ho hl hstt hini hcode hy hK hg (hsize.trans hml.symm) (argsL := As) (rest := rest) (fun sig h => hn.trans (hlen sig h)) hstack hW (by rw [hb]; exact hdg)
    (fun vm₁ hW₁ => ⟨hf.1, hf.2, hp.2 (T.setVm vm₁) hT hW₁⟩) with ⟨v, vm₁, ⟨U', l2, c2, s2⟩, hW₁, X', ⟨g', mk, t, L, e1, e2, hq, h1, hL, h2, h3⟩, st⟩ | ⟨q, vm₁, ⟨U', l2, c2, s2⟩, hW₁, X', ⟨g', mk, t, L, E, ce, e1, e2, hq, hce, hcv, hcl, h1, hL, h2, h3⟩, st⟩
  · dsimp only [Pt.U, Pt.locs, Pt.cells, Pt.slots] at X' e1 e2 h1 h2 h3 st
    subst h1; subst h2; subst h3
    exact Or.inl ⟨v, (T.setVm vm₁).calling g' mk As.toArray, t, U', L, hT, X', hL, e1, e2, hq, st⟩
  · dsimp only [Pt.U, Pt.locs, Pt.cells, Pt.slots] at X' e1 e2 h1 h2 h3 st hcl
    subst h1; subst h2; subst h3
    exact Or.inr ⟨q, (T.setVm vm₁).calling g' mk As.toArray, t, U', L, E, ce, hT, X', hL, e1, e2, hq, hce, hcv, vx_cls hW₁ hcl, st⟩
end Runs
section Rows
variable {p : Program} {l : Launch} {e : Env} {R : Room} {s : State} {m : MethodId} {args : Array Value} {below : List Frame} {meth : Method} {c : Code} {H : Heap} {locs : List Loc} {cells slots : Nat} {Q : State → Prop}
variable {mc ms : Nat} {free : Addr → Prop} {A0 A1 : Nat → Prop} {H0 : Heap} {a : Array Value} {pc : Nat} {ls : Array Slot} {st0 rest : List Value}
theorem vx_keep {st₀ t T' : State} {L : List Loc} (h0 : st₀.heap = H) (e1 : T'.heap = t.heap) (hS : va_S A0 H0 H locs) (hA : ∀ q, q < H.size → A1 q → A0 q) (hf : ∀ q, free q → A0 q) (hL : ∀ q ∈ L, free q.base) (hF : va_F A1 st₀ t) :
    H.size ≤ T'.heap.size ∧ (∀ q : Nat, q < H.size → ¬ A1 q → T'.heap[q]? = H[q]?) ∧ va_S A0 H0 T'.heap (locs ++ L) := by
  obtain ⟨hz, hk⟩ := hF
  rw [h0] at hz hk
  exact ⟨by rw [e1]; exact hz, fun q h1 h2 => by rw [e1]; exact hk q h1 h2,
    ⟨Nat.le_trans hS.1 (by rw [e1]; exact hz), fun q h1 h2 => by rw [e1, hk q (Nat.lt_of_lt_of_le h1 hS.1) (fun z => h2 (hA q (Nat.lt_of_lt_of_le h1 hS.1) z))]; exact hS.2.1 q h1 h2, fun q hq => by
      rcases List.mem_append.mp hq with h | h
      · exact hS.2.2 q h
      · exact hf _ (hL q h)⟩⟩
theorem vx_calli {S SX : Type} {post : Int32 → S → Prop} {px : SX → Prop} {B : S → State → Prop} {BX : String → SX → State → Prop} {AX : Nat → Prop} (hr : vx_Run p l e R s m args below meth c H locs cells slots mc ms (F0 m pc ls st0) rest (va_Qi post B A1 a) (vx_X px BX AX) free) (hS : va_S A0 H0 H locs) (hA : ∀ q, q < H.size → A1 q → A0 q) (hf : ∀ q, free q → A0 q) (hAX : ∀ q, q < H.size → AX q → A0 q)
    (kx : ∀ (E : String) (ce : Cell) (q9 : Addr) (u : SX) (t : State) (H1 : Heap) (locs1 : List Loc), t.heap = H1 → s.vm.Alike t.vm → px u → BX E u t → H.size ≤ H1.size → (∀ q : Nat, q < H.size → ¬ AX q → H1[q]? = H[q]?) → va_S A0 H0 H1 locs1 → H1[q9]? = some ce → ce.vm = .none → s.vm.findClass E = some ce.cls → vx_W p l e R s m args below meth c H1 locs1 (cells + mc) (slots + ms) Q (F0 m pc ls rest) q9)
    (kk : ∀ (r : Int32) (u : S) (t : State) (H1 : Heap) (locs1 : List Loc), t.heap = H1 → s.vm.Alike t.vm → post r u → B u t → H.size ≤ H1.size → (∀ q : Nat, q < H.size → ¬ A1 q → H1[q]? = H[q]?) → va_S A0 H0 H1 locs1 → W p l e R s m args below meth c H1 locs1 (cells + mc) (slots + ms) Q (F0 m (pc + 3) ls (.int r :: rest))) : W p l e R s m args below meth c H locs cells slots Q (F0 m pc ls st0) := by
  intro T hT X
  rcases hr T hT X with ⟨v, st₀, t, T', L, h0, X', hL, e1, e2, ⟨⟨r, u, hv, hp, hb⟩, hF⟩, st⟩ | ⟨q, st₀, t, T', L, E, ce, h0, X', hL, e1, e2, ⟨u, hp, hb, hF⟩, hce, hcv, hcl, st⟩
  · cases hv
    obtain ⟨k1, k2, k3⟩ := vx_keep h0 e1 hS hA hf hL hF
    obtain ⟨t2, a1, b1⟩ := kk r u t T'.heap (locs ++ L) e1.symm (by rw [← e2]; exact X'.warmed.alike) hp hb k1 k2 k3 T' rfl X'
    exact ⟨t2, st t2 a1, b1⟩
  · obtain ⟨k1, k2, k3⟩ := vx_keep h0 e1 hS hAX hf hL hF
    obtain ⟨t2, a1, b1⟩ := kx E ce q u t T'.heap (locs ++ L) e1.symm (by rw [← e2]; exact X'.warmed.alike) hp hb k1 k2 k3 (by rw [e1]; exact hce) hcv hcl T' rfl X'
    exact ⟨t2, st.trans a1, b1⟩
theorem vx_calll {S SX : Type} {post : Int64 → S → Prop} {px : SX → Prop} {B : S → State → Prop} {BX : String → SX → State → Prop} {AX : Nat → Prop} (hr : vx_Run p l e R s m args below meth c H locs cells slots mc ms (F0 m pc ls st0) rest (va_Ql post B A1 a) (vx_X px BX AX) free) (hS : va_S A0 H0 H locs) (hA : ∀ q, q < H.size → A1 q → A0 q) (hf : ∀ q, free q → A0 q) (hAX : ∀ q, q < H.size → AX q → A0 q)
    (kx : ∀ (E : String) (ce : Cell) (q9 : Addr) (u : SX) (t : State) (H1 : Heap) (locs1 : List Loc), t.heap = H1 → s.vm.Alike t.vm → px u → BX E u t → H.size ≤ H1.size → (∀ q : Nat, q < H.size → ¬ AX q → H1[q]? = H[q]?) → va_S A0 H0 H1 locs1 → H1[q9]? = some ce → ce.vm = .none → s.vm.findClass E = some ce.cls → vx_W p l e R s m args below meth c H1 locs1 (cells + mc) (slots + ms) Q (F0 m pc ls rest) q9)
    (kk : ∀ (r : Int64) (u : S) (t : State) (H1 : Heap) (locs1 : List Loc), t.heap = H1 → s.vm.Alike t.vm → post r u → B u t → H.size ≤ H1.size → (∀ q : Nat, q < H.size → ¬ A1 q → H1[q]? = H[q]?) → va_S A0 H0 H1 locs1 → W p l e R s m args below meth c H1 locs1 (cells + mc) (slots + ms) Q (F0 m (pc + 3) ls (.long r :: rest))) : W p l e R s m args below meth c H locs cells slots Q (F0 m pc ls st0) := by
  intro T hT X
  rcases hr T hT X with ⟨v, st₀, t, T', L, h0, X', hL, e1, e2, ⟨⟨r, u, hv, hp, hb⟩, hF⟩, st⟩ | ⟨q, st₀, t, T', L, E, ce, h0, X', hL, e1, e2, ⟨u, hp, hb, hF⟩, hce, hcv, hcl, st⟩
  · cases hv
    obtain ⟨k1, k2, k3⟩ := vx_keep h0 e1 hS hA hf hL hF
    obtain ⟨t2, a1, b1⟩ := kk r u t T'.heap (locs ++ L) e1.symm (by rw [← e2]; exact X'.warmed.alike) hp hb k1 k2 k3 T' rfl X'
    exact ⟨t2, st t2 a1, b1⟩
  · obtain ⟨k1, k2, k3⟩ := vx_keep h0 e1 hS hAX hf hL hF
    obtain ⟨t2, a1, b1⟩ := kx E ce q u t T'.heap (locs ++ L) e1.symm (by rw [← e2]; exact X'.warmed.alike) hp hb k1 k2 k3 (by rw [e1]; exact hce) hcv hcl T' rfl X'
    exact ⟨t2, st.trans a1, b1⟩
theorem vx_callf {S SX : Type} {post : UInt32 → S → Prop} {px : SX → Prop} {B : S → State → Prop} {BX : String → SX → State → Prop} {AX : Nat → Prop} (hr : vx_Run p l e R s m args below meth c H locs cells slots mc ms (F0 m pc ls st0) rest (va_Qf post B A1 a) (vx_X px BX AX) free) (hS : va_S A0 H0 H locs) (hA : ∀ q, q < H.size → A1 q → A0 q) (hf : ∀ q, free q → A0 q) (hAX : ∀ q, q < H.size → AX q → A0 q)
    (kx : ∀ (E : String) (ce : Cell) (q9 : Addr) (u : SX) (t : State) (H1 : Heap) (locs1 : List Loc), t.heap = H1 → s.vm.Alike t.vm → px u → BX E u t → H.size ≤ H1.size → (∀ q : Nat, q < H.size → ¬ AX q → H1[q]? = H[q]?) → va_S A0 H0 H1 locs1 → H1[q9]? = some ce → ce.vm = .none → s.vm.findClass E = some ce.cls → vx_W p l e R s m args below meth c H1 locs1 (cells + mc) (slots + ms) Q (F0 m pc ls rest) q9)
    (kk : ∀ (r : UInt32) (u : S) (t : State) (H1 : Heap) (locs1 : List Loc), t.heap = H1 → s.vm.Alike t.vm → post r u → B u t → H.size ≤ H1.size → (∀ q : Nat, q < H.size → ¬ A1 q → H1[q]? = H[q]?) → va_S A0 H0 H1 locs1 → W p l e R s m args below meth c H1 locs1 (cells + mc) (slots + ms) Q (F0 m (pc + 3) ls (.float r :: rest))) : W p l e R s m args below meth c H locs cells slots Q (F0 m pc ls st0) := by
  intro T hT X
  rcases hr T hT X with ⟨v, st₀, t, T', L, h0, X', hL, e1, e2, ⟨⟨r, u, hv, hp, hb⟩, hF⟩, st⟩ | ⟨q, st₀, t, T', L, E, ce, h0, X', hL, e1, e2, ⟨u, hp, hb, hF⟩, hce, hcv, hcl, st⟩
  · cases hv
    obtain ⟨k1, k2, k3⟩ := vx_keep h0 e1 hS hA hf hL hF
    obtain ⟨t2, a1, b1⟩ := kk r u t T'.heap (locs ++ L) e1.symm (by rw [← e2]; exact X'.warmed.alike) hp hb k1 k2 k3 T' rfl X'
    exact ⟨t2, st t2 a1, b1⟩
  · obtain ⟨k1, k2, k3⟩ := vx_keep h0 e1 hS hAX hf hL hF
    obtain ⟨t2, a1, b1⟩ := kx E ce q u t T'.heap (locs ++ L) e1.symm (by rw [← e2]; exact X'.warmed.alike) hp hb k1 k2 k3 (by rw [e1]; exact hce) hcv hcl T' rfl X'
    exact ⟨t2, st.trans a1, b1⟩
theorem vx_calld {S SX : Type} {post : UInt64 → S → Prop} {px : SX → Prop} {B : S → State → Prop} {BX : String → SX → State → Prop} {AX : Nat → Prop} (hr : vx_Run p l e R s m args below meth c H locs cells slots mc ms (F0 m pc ls st0) rest (va_Qd post B A1 a) (vx_X px BX AX) free) (hS : va_S A0 H0 H locs) (hA : ∀ q, q < H.size → A1 q → A0 q) (hf : ∀ q, free q → A0 q) (hAX : ∀ q, q < H.size → AX q → A0 q)
    (kx : ∀ (E : String) (ce : Cell) (q9 : Addr) (u : SX) (t : State) (H1 : Heap) (locs1 : List Loc), t.heap = H1 → s.vm.Alike t.vm → px u → BX E u t → H.size ≤ H1.size → (∀ q : Nat, q < H.size → ¬ AX q → H1[q]? = H[q]?) → va_S A0 H0 H1 locs1 → H1[q9]? = some ce → ce.vm = .none → s.vm.findClass E = some ce.cls → vx_W p l e R s m args below meth c H1 locs1 (cells + mc) (slots + ms) Q (F0 m pc ls rest) q9)
    (kk : ∀ (r : UInt64) (u : S) (t : State) (H1 : Heap) (locs1 : List Loc), t.heap = H1 → s.vm.Alike t.vm → post r u → B u t → H.size ≤ H1.size → (∀ q : Nat, q < H.size → ¬ A1 q → H1[q]? = H[q]?) → va_S A0 H0 H1 locs1 → W p l e R s m args below meth c H1 locs1 (cells + mc) (slots + ms) Q (F0 m (pc + 3) ls (.double r :: rest))) : W p l e R s m args below meth c H locs cells slots Q (F0 m pc ls st0) := by
  intro T hT X
  rcases hr T hT X with ⟨v, st₀, t, T', L, h0, X', hL, e1, e2, ⟨⟨r, u, hv, hp, hb⟩, hF⟩, st⟩ | ⟨q, st₀, t, T', L, E, ce, h0, X', hL, e1, e2, ⟨u, hp, hb, hF⟩, hce, hcv, hcl, st⟩
  · cases hv
    obtain ⟨k1, k2, k3⟩ := vx_keep h0 e1 hS hA hf hL hF
    obtain ⟨t2, a1, b1⟩ := kk r u t T'.heap (locs ++ L) e1.symm (by rw [← e2]; exact X'.warmed.alike) hp hb k1 k2 k3 T' rfl X'
    exact ⟨t2, st t2 a1, b1⟩
  · obtain ⟨k1, k2, k3⟩ := vx_keep h0 e1 hS hAX hf hL hF
    obtain ⟨t2, a1, b1⟩ := kx E ce q u t T'.heap (locs ++ L) e1.symm (by rw [← e2]; exact X'.warmed.alike) hp hb k1 k2 k3 (by rw [e1]; exact hce) hcv hcl T' rfl X'
    exact ⟨t2, st.trans a1, b1⟩
theorem vx_callv {S SX : Type} {post : S → Prop} {px : SX → Prop} {B : S → State → Prop} {BX : String → SX → State → Prop} {AX : Nat → Prop} (hr : vx_Run p l e R s m args below meth c H locs cells slots mc ms (F0 m pc ls st0) rest (va_Qv post B A1 a) (vx_X px BX AX) free) (hS : va_S A0 H0 H locs) (hA : ∀ q, q < H.size → A1 q → A0 q) (hf : ∀ q, free q → A0 q) (hAX : ∀ q, q < H.size → AX q → A0 q)
    (kx : ∀ (E : String) (ce : Cell) (q9 : Addr) (u : SX) (t : State) (H1 : Heap) (locs1 : List Loc), t.heap = H1 → s.vm.Alike t.vm → px u → BX E u t → H.size ≤ H1.size → (∀ q : Nat, q < H.size → ¬ AX q → H1[q]? = H[q]?) → va_S A0 H0 H1 locs1 → H1[q9]? = some ce → ce.vm = .none → s.vm.findClass E = some ce.cls → vx_W p l e R s m args below meth c H1 locs1 (cells + mc) (slots + ms) Q (F0 m pc ls rest) q9)
    (kk : ∀ (u : S) (t : State) (H1 : Heap) (locs1 : List Loc), t.heap = H1 → s.vm.Alike t.vm → post u → B u t → H.size ≤ H1.size → (∀ q : Nat, q < H.size → ¬ A1 q → H1[q]? = H[q]?) → va_S A0 H0 H1 locs1 → W p l e R s m args below meth c H1 locs1 (cells + mc) (slots + ms) Q (F0 m (pc + 3) ls (rest))) : W p l e R s m args below meth c H locs cells slots Q (F0 m pc ls st0) := by
  intro T hT X
  rcases hr T hT X with ⟨v, st₀, t, T', L, h0, X', hL, e1, e2, ⟨⟨u, hv, hp, hb⟩, hF⟩, st⟩ | ⟨q, st₀, t, T', L, E, ce, h0, X', hL, e1, e2, ⟨u, hp, hb, hF⟩, hce, hcv, hcl, st⟩
  · cases hv
    obtain ⟨k1, k2, k3⟩ := vx_keep h0 e1 hS hA hf hL hF
    obtain ⟨t2, a1, b1⟩ := kk u t T'.heap (locs ++ L) e1.symm (by rw [← e2]; exact X'.warmed.alike) hp hb k1 k2 k3 T' rfl X'
    exact ⟨t2, st t2 a1, b1⟩
  · obtain ⟨k1, k2, k3⟩ := vx_keep h0 e1 hS hAX hf hL hF
    obtain ⟨t2, a1, b1⟩ := kx E ce q u t T'.heap (locs ++ L) e1.symm (by rw [← e2]; exact X'.warmed.alike) hp hb k1 k2 k3 (by rw [e1]; exact hce) hcv hcl T' rfl X'
    exact ⟨t2, st.trans a1, b1⟩
/-- caught by the row x of this method's table; the rows ahead don't take it -/
theorem vx_catch {own name : String} {E : String} {ce : Cell} {q : Addr} (hown : s.vm.findClass own = some m.cls) (pre : List ExceptionTableEntry) (x : ExceptionTableEntry) (suf : List ExceptionTableEntry) (hsplit : c.exceptionTable.toList = pre ++ x :: suf)
    (hpass : ∀ z ∈ pre, covers z pc = false ∨ (z.catchType ≠ 0 ∧ ∃ nm : String, (Cond.classLink own z.catchType nm).before args s = true ∧ va_Nc E nm s)) (hx : covers x pc = true) (h0 : x.catchType ≠ 0)
    (hlink : (Cond.classLink own x.catchType name).before args s = true) (hcast : (Cond.castable E name).before args s = true) (hcell : H[q]? = some ce) (hv : ce.vm = .none) (hcl : s.vm.findClass E = some ce.cls)
    (kk : W p l e R s m args below meth c H locs cells slots Q (F0 m x.handlerPc ls [.ref q])) : vx_W p l e R s m args below meth c H locs cells slots Q (F0 m pc ls rest) q := by
  intro T hT X
  have hpl : e.platform.magicAccessors = ({} : Platform).magicAccessors := by rw [X.admits.platform]
  obtain ⟨c3, c4, hc3, hc4, hasg⟩ := Cond.castable_spec hcast
  cases Option.some.inj (hc3.symm.trans hcl)
  obtain ⟨c5, hc5, hcl5⟩ := Cond.classLink_spec hown hlink e.platform hpl
  cases Option.some.inj (hc4.symm.trans hc5)
  obtain ⟨vm', X', st⟩ := X.thenCaughtThrough q (g := F0 m pc ls rest) rfl (Steps.refl _) (by rw [hT]; exact hcell) (by rw [hv]; rfl) (by obtain ⟨k9, h9, -⟩ := Vm.findClass_spec hcl; exact ⟨k9, h9⟩) pre x suf hsplit
    (fun z hz => by
      rcases hpass z hz with h | ⟨hz0, nm, hl1, hn1⟩
      · exact Or.inl h
      · obtain ⟨c6, hc6, hcl6⟩ := Cond.classLink_spec hown hl1 e.platform hpl
        obtain ⟨a8, b8, h1, h2, h3⟩ := hn1
        cases Option.some.inj (h1.symm.trans hcl)
        cases Option.some.inj (h2.symm.trans hc6)
        exact Or.inr ⟨hz0, _, hcl6, h3⟩) hx (Or.inr ⟨h0, c4, hcl5, hasg⟩)
  obtain ⟨t, a1, b1⟩ := kk (T.setVm vm') hT X'
  exact ⟨t, st.trans a1, b1⟩
end Rows
section Ends
variable {p : Program} {l : Launch} {e : Env} {R : Room} {s : State} {m : MethodId} {args : Array Value} {below : List Frame} {meth : Method} {c : Code} {H : Heap} {locs : List Loc} {cells slots : Nat} {Q : State → Prop}
variable {mc ms : Nat} {free : Addr → Prop} {A0 A1 : Nat → Prop} {H0 : Heap} {a : Array Value} {ls : Array Slot} {st0 rest : List Value}
variable {Qc : Array Value → State → Outcome → State → Prop} {XC : String → State → State → Prop}
/-- what a body that may throw owes at its end -/
def vx_MQ (below : List Frame) (Qc : Array Value → State → Outcome → State → Prop) (XC : String → State → State → Prop) (a : Array Value) (s : State) (mc ms : Nat) (free : Addr → Prop) : State → Prop := fun t =>
  ∃ o, t.status = .running ∧ Ended t below o ∧ vx_Q Qc XC mc ms free a s o t
theorem vx_ret {g : JFrame} {mc ms : Nat} (k : W p l e R s m args below meth c H locs cells slots (MQ below Qc args s mc ms free) g) : W p l e R s m args below meth c H locs cells slots (vx_MQ below Qc XC args s mc ms free) g := by
  intro T hT X
  obtain ⟨t, a1, o, b1, b2, b3, b4⟩ := k T hT X
  exact ⟨t, a1, o, b1, b2, Or.inl ⟨b3, b4⟩⟩
/-- not caught here: it goes on to the caller -/
theorem vx_widen {g : JFrame} {q : Addr} {k n : Nat} (h1 : cells ≤ k) (h2 : slots ≤ n) (kk : vx_W p l e R s m args below meth c H locs k n Q g q) : vx_W p l e R s m args below meth c H locs cells slots Q g q := fun T hT X => kk T hT (stand_widen X h1 h2)
theorem vx_out {pc : Nat} {E : String} {ce : Cell} {q : Addr} {mc ms : Nat} (hout : ∀ x ∈ c.exceptionTable.toList, covers x pc = false) (hlocks : meth.locks = false) (hcell : H[q]? = some ce) (hv : ce.vm = .none) (hcl : s.vm.findClass E = some ce.cls)
    (hx : ∀ t : State, t.heap = H → s.vm.Alike t.vm → XC E s t) (hf : ∀ z ∈ locs, free z.base) (hc : cells ≤ mc) (hs : slots ≤ ms) :
    vx_W p l e R s m args below meth c H locs cells slots (vx_MQ below Qc XC args s mc ms free) (F0 m pc ls rest) q := by
  intro T hT X
  obtain ⟨st1, hrun, hend, hW, hsm⟩ := X.leaveThrown q (g := F0 m pc ls rest) rfl rfl rfl hout hlocks
  have hcell9 : (T.setFrames (.throwing q :: below)).heap[q]? = some ce := by
    show T.heap[q]? = some ce
    rw [hT]; exact hcell
  exact ⟨_, st1, .threw q, hrun, hend, Or.inr ⟨q, rfl, E, ce, locs, hx _ hT hW.alike, hcell9, hv, hcl, hW, hsm.mono hc hs, hf⟩⟩
theorem vx_frame {U : State} {k n : Nat} (h : s.sameButNew ({ U with vm := s.vm } : State) locs k n) : s.heap.size ≤ U.heap.size ∧ ∀ q : Nat, q < s.heap.size → (∀ z ∈ locs, z.base ≠ q) → U.heap[q]? = s.heap[q]? := by
  obtain ⟨-, h2, -, -, -, h6⟩ := h
  refine ⟨h2, fun q hq hz => ?_⟩
  obtain ⟨c9, e1, e2, e3, e4⟩ := h6 q _ (Array.getElem?_eq_getElem hq)
  have hs : c9.slots = (s.heap[q]).slots := Array.ext_getElem? fun i => e4 i fun hm => hz _ hm rfl
  have h9 : c9 = s.heap[q] := by
    rw [hs] at e2
    exact e2
  have e5 : U.heap[q]? = some c9 := e1
  rw [e5, h9, Array.getElem?_eq_getElem hq]
/-- the words of a throw but the four that speak of the heap -/
def vx_no (w : Cond) : Bool := decide (w ≠ .isRef (.static Bundle.tN "UNASSIGNED_STACK" Bundle.steD)) && decide (w ≠ .isRef (.static Bundle.tN "SUPPRESSED_SENTINEL" Bundle.listD)) && decide (w ≠ .laysStatic Bundle.tN "UNASSIGNED_STACK" Bundle.steD) && decide (w ≠ .laysStatic Bundle.tN "SUPPRESSED_SENTINEL" Bundle.listD)
def vx_at0 (own : String) (ic : Nat) (X : String) (names : List String) : List Cond := (Bundle.ownAtoms0 own ic X names).filter vx_no
def vx_atS (own : String) (ic : Nat) (X : String) (names : List String) : List Cond := (Bundle.ownAtoms own ic X names).filter vx_no
/-- a word that the tables alone decide, or a good one -/
def vx_ot (w : Cond) : Bool := w.onTables || goodWord w
theorem vx_ot_at {args a' : Array Value} {s U : State} {w : Cond} (hW : s.WarmedH U.vm) (hvm : s.vm = U.vm) (hg : vx_ot w = true) (h : w.before args s = true) : w.before a' U = true := by
  simp only [vx_ot, Bool.or_eq_true] at hg
  rcases hg with hg | hg
  · exact va_tabs hg hvm h
  · exact word_at hW (good_of_word hg) h
/-- a list's words: the good ones out of the method's own list, the others by premises of their own -/
theorem vx_hat {args : Array Value} {s : State} {L B : List Cond} (h1 : ∀ w ∈ L.filter goodWord, w.before args s = true) (h2 : ∀ w ∈ L.filter (fun w => !goodWord w), w ∈ B) (h3 : ∀ w ∈ B, w.before args s = true) : ∀ w ∈ L, w.before args s = true := by
  intro w hw
  by_cases g : goodWord w = true
  · exact h1 w (List.mem_filter.mpr ⟨hw, g⟩)
  · refine h3 w (h2 w (List.mem_filter.mpr ⟨hw, ?_⟩))
    show (!goodWord w) = true
    cases hgw : goodWord w
    · rfl
    · exact absurd hgw g
theorem vx_c {args : Array Value} {s : State} {w : Cond} {B : List Cond} (h : w.before args s = true) (t : ∀ w ∈ B, w.before args s = true) : ∀ w' ∈ w :: B, w'.before args s = true := fun w' h' => (List.mem_cons.mp h').elim (fun e => by rw [e]; exact h) (t w')
theorem vx_n {args : Array Value} {s : State} : ∀ w ∈ ([] : List Cond), w.before args s = true := fun _ h => nomatch h
theorem vx_own {args : Array Value} {s : State} {L : List Cond} (h1 : ∀ w ∈ L.filter vx_no, w.before args s = true)
    (hU : (Cond.isRef (.static Bundle.tN "UNASSIGNED_STACK" Bundle.steD)).before args s = true) (hN : (Cond.isRef (.static Bundle.tN "SUPPRESSED_SENTINEL" Bundle.listD)).before args s = true)
    (lU : (Cond.laysStatic Bundle.tN "UNASSIGNED_STACK" Bundle.steD).before args s = true) (lN : (Cond.laysStatic Bundle.tN "SUPPRESSED_SENTINEL" Bundle.listD).before args s = true) : ∀ w ∈ L, w.before args s = true := by
  intro w hw
  by_cases e1 : w = .isRef (.static Bundle.tN "UNASSIGNED_STACK" Bundle.steD)
  · rw [e1]; exact hU
  · by_cases e2 : w = .isRef (.static Bundle.tN "SUPPRESSED_SENTINEL" Bundle.listD)
    · rw [e2]; exact hN
    · by_cases e3 : w = .laysStatic Bundle.tN "UNASSIGNED_STACK" Bundle.steD
      · rw [e3]; exact lU
      · by_cases e4 : w = .laysStatic Bundle.tN "SUPPRESSED_SENTINEL" Bundle.listD
        · rw [e4]; exact lN
        · exact h1 w (List.mem_filter.mpr ⟨hw, by unfold vx_no; rw [decide_eq_true e1, decide_eq_true e2, decide_eq_true e3, decide_eq_true e4]; rfl⟩)
/-- where a static field lies, its class's statics cell in H -/
def vx_L (C n d : String) (A : Nat → Prop) (U : State) (H : Heap) : Prop := ∃ (c : ClassId) (k : Class) (i : Nat) (f : Field) (a : Nat) (cell : Cell), U.vm.findClass C = some c ∧ U.fieldFound? C n d = some (c, k, i, f) ∧ f.isStatic = true ∧ k.statics = some a ∧ H[a]? = some cell ∧ cell.vm.isStatics = true ∧ cell.cls = c ∧ f.slot < cell.slots.size ∧ k.staticTypes[f.slot]? = some f.type ∧ ¬ A a
theorem vx_L.moved {C n d : String} {A : Nat → Prop} {u U : State} {H : Heap} (hvm : u.vm.Alike U.vm) (h : vx_L C n d A u H) : vx_L C n d A U H := by
  obtain ⟨c, k, i, f, a, cell, h1, h2, h3, h4, h5, h6, h7, h8, h9, h10⟩ := h
  obtain ⟨k', hi', he⟩ := State.fieldFound?_setVm hvm h2
  exact ⟨c, k', i, f, a, cell, by rw [hvm.findClass]; exact h1, hi', h3, by rw [he]; exact h4, h5, h6, h7, h8, by rw [he]; exact h9, h10⟩
theorem vx_L.kept {C n d : String} {A : Nat → Prop} {U : State} {H H1 : Heap} (h : vx_L C n d A U H) (hq : ∀ a : Nat, a < H.size → ¬ A a → H1[a]? = H[a]?) : vx_L C n d A U H1 := by
  obtain ⟨c, k, i, f, a, cell, h1, h2, h3, h4, h5, h6, h7, h8, h9, h10⟩ := h
  exact ⟨c, k, i, f, a, cell, h1, h2, h3, h4, by rw [hq a (Array.getElem?_eq_some_iff.mp h5).1 h10]; exact h5, h6, h7, h8, h9, h10⟩
theorem vx_L.narrow {C n d : String} {A B : Nat → Prop} {U : State} {H : Heap} (h : vx_L C n d A U H) (hAB : ∀ q, B q → A q) : vx_L C n d B U H := by
  obtain ⟨c, k, i, f, a, cell, h1, h2, h3, h4, h5, h6, h7, h8, h9, h10⟩ := h
  exact ⟨c, k, i, f, a, cell, h1, h2, h3, h4, h5, h6, h7, h8, h9, fun z => h10 (hAB _ z)⟩
theorem vx_L.word {C n d : String} {A : Nat → Prop} {s : State} {args : Array Value} (h : vx_L C n d A s s.heap) : (Cond.laysStatic C n d).before args s = true := by
  obtain ⟨c, k, i, f, a, cell, h1, h2, h3, h4, h5, h6, h7, h8, h9, -⟩ := h
  show (Cond.laysStatic C n d).holds args s none s [] = true
  exact Cond.laysStatic_of h1 h2 h3 h4 h5 h6 h7 h8 h9
/-- .. and what it holds: null or some reference -/
def vx_Zq (C n d : String) (A : Nat → Prop) (U : State) (H : Heap) : Prop := va_Zq C n d A U H ∧ vx_L C n d A U H
theorem vx_Zq.moved {C n d : String} {A : Nat → Prop} {u U : State} {H : Heap} (hvm : u.vm.Alike U.vm) (h : vx_Zq C n d A u H) : vx_Zq C n d A U H := ⟨va_Zq.moved hvm h.1, vx_L.moved hvm h.2⟩
theorem vx_Zq.kept {C n d : String} {A : Nat → Prop} {U : State} {H H1 : Heap} (h : vx_Zq C n d A U H) (hq : ∀ a : Nat, a < H.size → ¬ A a → H1[a]? = H[a]?) : vx_Zq C n d A U H1 := ⟨va_Zq.kept h.1 hq, vx_L.kept h.2 hq⟩
theorem vx_Zq.narrow {C n d : String} {A B : Nat → Prop} {U : State} {H : Heap} (h : vx_Zq C n d A U H) (hAB : ∀ q, B q → A q) : vx_Zq C n d B U H := ⟨va_Zq.narrow h.1 hAB, vx_L.narrow h.2 hAB⟩
theorem vx_Zqof {args : Array Value} {s : State} {C n d : String} {A : Nat → Prop} (hl : (Cond.laysStatic C n d).before args s = true) (hini : (Cond.initialized C).before args s = true) (h : (Cond.isRef (.static C n d)).before args s = true) (hA : ∀ a : Nat, a < s.heap.size → ¬ A a) : vx_Zq C n d A s s.heap := by
  refine ⟨va_Zqof hl hini h hA, ?_⟩
  obtain ⟨c, k, i, f, a, cell, h1, h2, h3, h4, h5, h6, h7, h8, h9⟩ := Cond.laysStatic_spec hl
  exact ⟨c, k, i, f, a, cell, h1, h2, h3, h4, h5, h6, h7, h8, h9, hA a (Array.getElem?_eq_some_iff.mp h5).1⟩
theorem vx_isRef {C n d : String} {v : Value} {A : Nat → Prop} {s : State} {args : Array Value} (h : va_Z C n d v A s s.heap) (hv : v.isRef = true) : (Cond.isRef (.static C n d)).before args s = true := by
  obtain ⟨cf, kf, fi, f, a, cell, h1, h2, h3, h4, h5, h6, h7, -⟩ := h
  have he : (Term.static C n d).eval args s none [] s = some v := by
    simp [Term.eval, State.fieldNamed?, h1, h2, h4, h5, h6, h7]
  simp only [Cond.before, Cond.holds, Cond.value, he]
  cases v <;> simp_all [Value.isRef]
theorem vx_isRefq {C n d : String} {A : Nat → Prop} {s : State} {args : Array Value} (h : va_Zq C n d A s s.heap) : (Cond.isRef (.static C n d)).before args s = true := by
  rcases h with h | ⟨t, h⟩
  · exact vx_isRef h rfl
  · exact vx_isRef h rfl
/-- the same frame, seen from here: as if the method were called anew in this heap -/
theorem vx_rebase {T : State} (X : Stand p l e R s m args below meth c T locs cells slots) {R' : Room} (hf : R'.frames ≤ R.frames) (hl : R'.locals ≤ R.locals) (hc : cells + R'.cells ≤ R.cells) (hs : slots + R'.slots ≤ R.slots) :
    Stand p l e R' ((T.setVm s.vm).setFrames (.invoking m args :: below)) m args below meth c T [] 0 0 := by
  have htop : (T.setVm s.vm).topJava?.isSome := X.here.top
  have hF : ((T.setVm s.vm).setFrames (.invoking m args :: below)).frames = .invoking m args :: below := State.frames_setFrames _ (State.cur_lt_of_top htop)
  obtain ⟨g₀, hg0⟩ := Option.isSome_iff_exists.mp htop
  obtain ⟨r, hr⟩ := State.topJava?_eq_some.mp hg0
  have hl9 : e.platform.stackLimits (T.setVm s.vm).me = e.platform.stackLimits s.me := X.limits
  have hb9 : (T.setVm s.vm).me.stackBytes = s.me.stackBytes := X.bytes
  refine ⟨X.admits, X.cas, X.clock, hF, ?_, X.hears, X.method, X.code, X.here, X.tail, X.warmed, ?_, ?_, ?_⟩
  · have h := X.room
    have hU : ((T.setVm s.vm).setFrames (.invoking m args :: below)).localsInUse = s.localsInUse := by
      rw [State.localsInUse_invoking hF (meth := meth) (c := c) X.method X.code, State.localsInUse_invoking X.frames X.method X.code]
    simp only [State.hasRoom, Bool.and_eq_true, decide_eq_true_eq] at h ⊢
    obtain ⟨⟨⟨⟨h1, h2, h3, h4, h5, h6⟩, h7⟩, h8⟩, h9⟩ := h
    rw [X.frames, List.length_cons] at h2 h3
    have q1 := X.heapSize
    have q2 := X.used
    simp only [hF, hU, List.length_cons, State.stackLimits_setFrames, State.stackBytes_setFrames, hl9, hb9]
    refine ⟨⟨⟨⟨by omega, by omega, by omega, by omega, by omega, h6⟩, ?_⟩, ?_⟩, X.book⟩
    · show T.heap.size + R'.cells ≤ e.platform.maxCells
      omega
    · show T.slotsUsed + R'.slots ≤ e.platform.maxSlots
      omega
  · rw [State.stackLimits_setFrames]; rfl
  · rw [State.stackBytes_setFrames]; rfl
  · refine ⟨?_, Nat.le_refl _, Nat.le_refl _, ?_, ?_, fun a c9 h9 => ⟨c9, h9, rfl, rfl, fun _ _ => rfl⟩⟩
    · obtain ⟨t, ht, -⟩ := State.frames_cons hr
      show T.setVm s.vm = { ((T.setVm s.vm).setFrames (.invoking m args :: below)).setFrames (T.setVm s.vm).frames with heap := T.heap, slotsUsed := T.slotsUsed }
      rw [State.setFrames_setFrames, State.setFrames_self ht]
      rfl
    · show T.slotsUsed = T.slotsUsed + ((T.heap.toList.drop T.heap.size).map (·.slots.size)).sum
      rw [List.drop_eq_nil_of_le (Nat.le_of_eq Array.length_toList)]
      rfl
    · show ((T.heap.toList.drop T.heap.size).map (·.slots.size)).sum ≤ 0
      rw [List.drop_eq_nil_of_le (Nat.le_of_eq Array.length_toList)]
      exact Nat.le_refl _
/-- 'throw new E()': new; dup; invokespecial; athrow -/
theorem vx_throw0 {cc : ByteArray} {pc : Nat} (hexec : p.tables.exec = Jvm.exec) (hb : c.code = cc) (hl : l.stackTraces = false) {own cls : String} {names : List String} {ik ic mc ms : Nat} {A : Nat → Prop}
    (hown : s.vm.findClass own = some m.cls) (hcls : Bundle.fit cls = true) (hnames : ∀ n ∈ names, Bundle.fit n = true)
    (hk : (Cond.classLink own ik cls).before args s = true) (hini : (Cond.initialized cls).before args s = true) (hat : ∀ w ∈ vx_at0 own ic cls names, w.before args s = true)
    (hgood : ∀ w ∈ Cond.classLink own ik cls :: Cond.initialized cls :: vx_at0 own ic cls names, vx_ot w = true)
    (hU : vx_Zq Bundle.tN "UNASSIGNED_STACK" Bundle.steD A s s.heap) (hN : vx_Zq Bundle.tN "SUPPRESSED_SENTINEL" Bundle.listD A s s.heap) (hS : va_S A s.heap H locs) (hsize : ls.size = c.maxLocals)
    (d0 : decode cc pc = .ok (.new ik, 3)) (d3 : decode cc (pc + 3) = .ok (.dup, 1)) (d4 : decode cc (pc + 4) = .ok (.invokespecial ic, 3)) (d7 : decode cc (pc + 7) = .ok (.athrow, 1))
    (hout : ∀ x ∈ c.exceptionTable.toList, covers x (pc + 7) = false)
    (hRframes : names.length + 3 < R.frames) (hRlocals : (rest.map fun v => v.category).sum + (13 * (names.length + 1) + 42) ≤ R.locals) (hRcells : cells + 1 ≤ R.cells) (hRslots : slots + 6 ≤ R.slots) (hlocks : meth.locks = false)
    (hx : ∀ t : State, s.vm.Alike t.vm → H.size ≤ t.heap.size → (∀ q : Nat, q < H.size → t.heap[q]? = H[q]?) → XC cls s t)
    (hf : ∀ z ∈ locs, free z.base) (hc : cells + 1 ≤ mc) (hs : slots + 6 ≤ ms) :
    W p l e R s m args below meth c H locs cells slots (vx_MQ below Qc XC args s mc ms free) (F0 m pc ls rest) := by
  intro T hT X
  have htr : e.platform.stackTraces = false := (show e.platform.stackTraces = l.stackTraces by rw [X.admits.platform]).trans hl
  have Y := vx_rebase X (R' := { frames := R.frames, locals := R.locals, cells := 1, slots := 6 }) (Nat.le_refl _) (Nat.le_refl _) hRcells hRslots
  obtain ⟨s', hA⟩ : ∃ z, z = (T.setVm s.vm).setFrames (.invoking m args :: below) := ⟨_, rfl⟩
  rw [← hA] at Y
  have hvm : s'.vm = s.vm := by rw [hA]; rfl
  have hhp : s'.heap = H := by rw [hA]; exact hT
  have hW0 : s.WarmedH s'.vm := by rw [hvm]; exact State.WarmedH.refl s
  have hat' : ∀ w ∈ vx_at0 own ic cls names, w.before args s' = true := fun w hw => vx_ot_at hW0 hvm.symm (hgood w (List.mem_cons_of_mem _ (List.mem_cons_of_mem _ hw))) (hat w hw)
  have hk' : (Cond.classLink own ik cls).before args s' = true := vx_ot_at hW0 hvm.symm (hgood _ List.mem_cons_self) hk
  have hini' : (Cond.initialized cls).before args s' = true := vx_ot_at hW0 hvm.symm (hgood _ (List.mem_cons_of_mem _ List.mem_cons_self)) hini
  have hU' : vx_Zq Bundle.tN "UNASSIGNED_STACK" Bundle.steD A s' s'.heap := by rw [hhp]; exact vx_Zq.moved hW0.alike (hU.kept hS.2.1)
  have hN' : vx_Zq Bundle.tN "SUPPRESSED_SENTINEL" Bundle.listD A s' s'.heap := by rw [hhp]; exact vx_Zq.moved hW0.alike (hN.kept hS.2.1)
  have h : ∀ w ∈ Bundle.ownAtoms0 own ic cls names, w.before args s' = true := vx_own hat' (vx_isRefq hU'.1) (vx_isRefq hN'.1) hU'.2.word hN'.2.word
  have hown' : s'.vm.findClass own = some m.cls := by rw [hvm]; exact hown
  have hins : (Cond.instantiable cls 6).before args s' = true := h _ (by simp [Bundle.ownAtoms0])
  obtain ⟨vm₁, cX, kX, hfX, hkX, -, -, X₁, st1⟩ := Y.newCold hexec (own := own) (C := cls) (index := ik) (n := 6) hown' hk' hins hini'
    (g := F0 m pc ls rest) rfl (by rw [hb]; exact d0) (Nat.le_refl _) (Nat.le_refl _)
  generalize hT1 : (T.setVm vm₁).pushCell { cls := cX, slots := kX.instanceTypes.map defaultValue, vm := .none } = T1 at X₁ st1
  have hcat : (Value.ref T.heap.size).category = 1 := rfl
  have hcellA : T1.heap[T.heap.size]? = some (freshCell cX kX) := by rw [← hT1]; exact State.heap_pushCell_size _ _
  have d3' : decode c.code (pc + 3) = .ok (.dup, 1) := by rw [hb]; exact d3
  obtain ⟨U, hsteps, hrun, hend, hW, hsame, ce, hce, hO⟩ := X₁.ctorThrow0 hexec htr (own := own) (cls := cls) (names := names) (ic := ic) hown' hcls hnames h (fun x hx => nomatch hx) hfX hkX hcellA (by rw [hhp, hT]; exact Nat.le_refl _)
    (g := { method := m, pc := pc + 4, locals := ls, stack := .ref T.heap.size :: .ref T.heap.size :: rest, locked := none }) rfl hsize rfl rfl (rest := rest) rfl
    (by rw [hb]; exact d4) (by rw [hb]; exact d7) hout hRframes (by simp only [List.map_cons, List.sum_cons, hcat]; omega) hlocks
  obtain ⟨f1, f2⟩ := vx_frame hsame
  rw [hhp] at f1 f2
  have hWs : s.WarmedH U.vm := State.WarmedH.trans hW0 hW
  have hcl : s.vm.findClass cls = some ce.cls := by
    have h9 := hO.cls
    rw [hvm] at h9
    exact h9
  have hall : s.sameButNew ({ U with vm := s.vm } : State) locs mc ms := by
    subst hA
    obtain ⟨e1, e2⟩ := hsame
    rw [State.setFrames_setFrames] at e1
    have h2 : (T.setVm s.vm).sameButNew ({ U with vm := s.vm } : State) [] (0 + 1) (0 + 6) := ⟨e1, e2⟩
    have h3 := X.same.trans h2
    rw [List.append_nil] at h3
    exact h3.mono hc hs
  refine ⟨U, ?_, .threw T.heap.size, hrun, hend, Or.inr ⟨T.heap.size, rfl, cls, ce, locs, hx U hWs.alike f1 (fun q hq => f2 q hq (fun z hz => nomatch hz)), hce, hO.vm, hcl, hWs, hall, hf⟩⟩
  refine st1 _ ?_
  show Steps p.tables e below (T1.setTop { method := m, pc := pc + 3, locals := ls, stack := .ref T.heap.size :: rest, locked := none }) _
  jvm_step X₁.here [X₁.here.top, hexec, d3', Value.category]
  exact hsteps
/-- 'throw new E("text")': new; dup; ldc; invokespecial; athrow -/
theorem vx_throwS {cc : ByteArray} {pc : Nat} (hexec : p.tables.exec = Jvm.exec) (hb : c.code = cc) (hl : l.stackTraces = false) {own cls text : String} {names : List String} {ik is ic mc ms sa : Nat} {A : Nat → Prop}
    (hown : s.vm.findClass own = some m.cls) (hcls : Bundle.fit cls = true) (hnames : ∀ n ∈ names, Bundle.fit n = true)
    (hk : (Cond.classLink own ik cls).before args s = true) (hini : (Cond.initialized cls).before args s = true) (hstr : vk_R own is text sa s) (hat : ∀ w ∈ vx_atS own ic cls names, w.before args s = true)
    (hgood : ∀ w ∈ Cond.classLink own ik cls :: Cond.initialized cls :: vx_atS own ic cls names, vx_ot w = true)
    (hU : vx_Zq Bundle.tN "UNASSIGNED_STACK" Bundle.steD A s s.heap) (hN : vx_Zq Bundle.tN "SUPPRESSED_SENTINEL" Bundle.listD A s s.heap) (hS : va_S A s.heap H locs) (hsize : ls.size = c.maxLocals)
    (d0 : decode cc pc = .ok (.new ik, 3)) (d3 : decode cc (pc + 3) = .ok (.dup, 1)) (d4 : decode cc (pc + 4) = .ok (.ldc is, 2)) (d6 : decode cc (pc + 6) = .ok (.invokespecial ic, 3)) (d9 : decode cc (pc + 9) = .ok (.athrow, 1))
    (hout : ∀ x ∈ c.exceptionTable.toList, covers x (pc + 9) = false)
    (hRframes : names.length + 3 < R.frames) (hRlocals : (rest.map fun v => v.category).sum + (13 * (names.length + 1) + 43) ≤ R.locals) (hRcells : cells + 1 ≤ R.cells) (hRslots : slots + 6 ≤ R.slots) (hlocks : meth.locks = false)
    (hx : ∀ t : State, s.vm.Alike t.vm → H.size ≤ t.heap.size → (∀ q : Nat, q < H.size → t.heap[q]? = H[q]?) → XC cls s t)
    (hf : ∀ z ∈ locs, free z.base) (hc : cells + 1 ≤ mc) (hs : slots + 6 ≤ ms) :
    W p l e R s m args below meth c H locs cells slots (vx_MQ below Qc XC args s mc ms free) (F0 m pc ls rest) := by
  intro T hT X
  have htr : e.platform.stackTraces = false := (show e.platform.stackTraces = l.stackTraces by rw [X.admits.platform]).trans hl
  have Y := vx_rebase X (R' := { frames := R.frames, locals := R.locals, cells := 1, slots := 6 }) (Nat.le_refl _) (Nat.le_refl _) hRcells hRslots
  obtain ⟨s', hA⟩ : ∃ z, z = (T.setVm s.vm).setFrames (.invoking m args :: below) := ⟨_, rfl⟩
  rw [← hA] at Y
  have hvm : s'.vm = s.vm := by rw [hA]; rfl
  have hhp : s'.heap = H := by rw [hA]; exact hT
  have hW0 : s.WarmedH s'.vm := by rw [hvm]; exact State.WarmedH.refl s
  have hat' : ∀ w ∈ vx_atS own ic cls names, w.before args s' = true := fun w hw => vx_ot_at hW0 hvm.symm (hgood w (List.mem_cons_of_mem _ (List.mem_cons_of_mem _ hw))) (hat w hw)
  have hk' : (Cond.classLink own ik cls).before args s' = true := vx_ot_at hW0 hvm.symm (hgood _ List.mem_cons_self) hk
  have hini' : (Cond.initialized cls).before args s' = true := vx_ot_at hW0 hvm.symm (hgood _ (List.mem_cons_of_mem _ List.mem_cons_self)) hini
  have hU' : vx_Zq Bundle.tN "UNASSIGNED_STACK" Bundle.steD A s' s'.heap := by rw [hhp]; exact vx_Zq.moved hW0.alike (hU.kept hS.2.1)
  have hN' : vx_Zq Bundle.tN "SUPPRESSED_SENTINEL" Bundle.listD A s' s'.heap := by rw [hhp]; exact vx_Zq.moved hW0.alike (hN.kept hS.2.1)
  have h : ∀ w ∈ Bundle.ownAtoms own ic cls names, w.before args s' = true := vx_own hat' (vx_isRefq hU'.1) (vx_isRefq hN'.1) hU'.2.word hN'.2.word
  have hown' : s'.vm.findClass own = some m.cls := by rw [hvm]; exact hown
  have hins : (Cond.instantiable cls 6).before args s' = true := h _ (by simp [Bundle.ownAtoms])
  obtain ⟨vm₁, cX, kX, hfX, hkX, -, -, X₁, st1⟩ := Y.newCold hexec (own := own) (C := cls) (index := ik) (n := 6) hown' hk' hins hini'
    (g := F0 m pc ls rest) rfl (by rw [hb]; exact d0) (Nat.le_refl _) (Nat.le_refl _)
  generalize hT1 : (T.setVm vm₁).pushCell { cls := cX, slots := kX.instanceTypes.map defaultValue, vm := .none } = T1 at X₁ st1
  have hcat : (Value.ref T.heap.size).category = 1 := rfl
  have hcellA : T1.heap[T.heap.size]? = some (freshCell cX kX) := by rw [← hT1]; exact State.heap_pushCell_size _ _
  have d3' : decode c.code (pc + 3) = .ok (.dup, 1) := by rw [hb]; exact d3
  have d4' : decode c.code (pc + 4) = .ok (.ldc is, 2) := by rw [hb]; exact d4
  have hstr' : vk_R own is text sa s' := vk_R.warm hW0 hstr
  obtain ⟨U, hsteps, hrun, hend, hW, hsame, ce, hce, hO⟩ := X₁.ctorThrowS hexec htr (own := own) (cls := cls) (names := names) (ic := ic) hown' hcls hnames h (fun x hx => nomatch hx) hfX hkX hcellA (by rw [hhp, hT]; exact Nat.le_refl _) (msg := .ref sa) rfl
    (g := { method := m, pc := pc + 6, locals := ls, stack := .ref sa :: .ref T.heap.size :: .ref T.heap.size :: rest, locked := none }) rfl hsize rfl rfl (rest := rest) rfl
    (by rw [hb]; exact d6) (by rw [hb]; exact d9) hout hRframes (by simp only [List.map_cons, List.sum_cons, hcat]; omega) hlocks
  obtain ⟨f1, f2⟩ := vx_frame hsame
  rw [hhp] at f1 f2
  have hWs : s.WarmedH U.vm := State.WarmedH.trans hW0 hW
  have hcl : s.vm.findClass cls = some ce.cls := by
    have h9 := hO.cls
    rw [hvm] at h9
    exact h9
  have hall : s.sameButNew ({ U with vm := s.vm } : State) locs mc ms := by
    subst hA
    obtain ⟨e1, e2⟩ := hsame
    rw [State.setFrames_setFrames] at e1
    have h2 : (T.setVm s.vm).sameButNew ({ U with vm := s.vm } : State) [] (0 + 1) (0 + 6) := ⟨e1, e2⟩
    have h3 := X.same.trans h2
    rw [List.append_nil] at h3
    exact h3.mono hc hs
  refine ⟨U, ?_, .threw T.heap.size, hrun, hend, Or.inr ⟨T.heap.size, rfl, cls, ce, locs, hx U hWs.alike f1 (fun q hq => f2 q hq (fun z hz => nomatch hz)), hce, hO.vm, hcl, hWs, hall, hf⟩⟩
  refine st1 _ ?_
  show Steps p.tables e below (T1.setTop { method := m, pc := pc + 3, locals := ls, stack := .ref T.heap.size :: rest, locked := none }) _
  jvm_step X₁.here [X₁.here.top, hexec, d3', Value.category]
  exact X₁.ldcString hexec (own := own) (text := text) (index := is) (a := sa) hown' hstr'.1 hstr'.2
    (g := { method := m, pc := pc + 4, locals := ls, stack := .ref T.heap.size :: .ref T.heap.size :: rest, locked := none }) rfl d4' _ hsteps
/-- 'throw new E("text")', the text by a wide index -/
theorem vx_throwSW {cc : ByteArray} {pc : Nat} (hexec : p.tables.exec = Jvm.exec) (hb : c.code = cc) (hl : l.stackTraces = false) {own cls text : String} {names : List String} {ik is ic mc ms sa : Nat} {A : Nat → Prop}
    (hown : s.vm.findClass own = some m.cls) (hcls : Bundle.fit cls = true) (hnames : ∀ n ∈ names, Bundle.fit n = true)
    (hk : (Cond.classLink own ik cls).before args s = true) (hini : (Cond.initialized cls).before args s = true) (hstr : vk_R own is text sa s) (hat : ∀ w ∈ vx_atS own ic cls names, w.before args s = true)
    (hgood : ∀ w ∈ Cond.classLink own ik cls :: Cond.initialized cls :: vx_atS own ic cls names, vx_ot w = true)
    (hU : vx_Zq Bundle.tN "UNASSIGNED_STACK" Bundle.steD A s s.heap) (hN : vx_Zq Bundle.tN "SUPPRESSED_SENTINEL" Bundle.listD A s s.heap) (hS : va_S A s.heap H locs) (hsize : ls.size = c.maxLocals)
    (d0 : decode cc pc = .ok (.new ik, 3)) (d3 : decode cc (pc + 3) = .ok (.dup, 1)) (d4 : decode cc (pc + 4) = .ok (.ldc_w is, 3)) (d7 : decode cc (pc + 7) = .ok (.invokespecial ic, 3)) (d10 : decode cc (pc + 10) = .ok (.athrow, 1))
    (hout : ∀ x ∈ c.exceptionTable.toList, covers x (pc + 10) = false)
    (hRframes : names.length + 3 < R.frames) (hRlocals : (rest.map fun v => v.category).sum + (13 * (names.length + 1) + 43) ≤ R.locals) (hRcells : cells + 1 ≤ R.cells) (hRslots : slots + 6 ≤ R.slots) (hlocks : meth.locks = false)
    (hx : ∀ t : State, s.vm.Alike t.vm → H.size ≤ t.heap.size → (∀ q : Nat, q < H.size → t.heap[q]? = H[q]?) → XC cls s t)
    (hf : ∀ z ∈ locs, free z.base) (hc : cells + 1 ≤ mc) (hs : slots + 6 ≤ ms) :
    W p l e R s m args below meth c H locs cells slots (vx_MQ below Qc XC args s mc ms free) (F0 m pc ls rest) := by
  intro T hT X
  have htr : e.platform.stackTraces = false := (show e.platform.stackTraces = l.stackTraces by rw [X.admits.platform]).trans hl
  have Y := vx_rebase X (R' := { frames := R.frames, locals := R.locals, cells := 1, slots := 6 }) (Nat.le_refl _) (Nat.le_refl _) hRcells hRslots
  obtain ⟨s', hA⟩ : ∃ z, z = (T.setVm s.vm).setFrames (.invoking m args :: below) := ⟨_, rfl⟩
  rw [← hA] at Y
  have hvm : s'.vm = s.vm := by rw [hA]; rfl
  have hhp : s'.heap = H := by rw [hA]; exact hT
  have hW0 : s.WarmedH s'.vm := by rw [hvm]; exact State.WarmedH.refl s
  have hat' : ∀ w ∈ vx_atS own ic cls names, w.before args s' = true := fun w hw => vx_ot_at hW0 hvm.symm (hgood w (List.mem_cons_of_mem _ (List.mem_cons_of_mem _ hw))) (hat w hw)
  have hk' : (Cond.classLink own ik cls).before args s' = true := vx_ot_at hW0 hvm.symm (hgood _ List.mem_cons_self) hk
  have hini' : (Cond.initialized cls).before args s' = true := vx_ot_at hW0 hvm.symm (hgood _ (List.mem_cons_of_mem _ List.mem_cons_self)) hini
  have hU' : vx_Zq Bundle.tN "UNASSIGNED_STACK" Bundle.steD A s' s'.heap := by rw [hhp]; exact vx_Zq.moved hW0.alike (hU.kept hS.2.1)
  have hN' : vx_Zq Bundle.tN "SUPPRESSED_SENTINEL" Bundle.listD A s' s'.heap := by rw [hhp]; exact vx_Zq.moved hW0.alike (hN.kept hS.2.1)
  have h : ∀ w ∈ Bundle.ownAtoms own ic cls names, w.before args s' = true := vx_own hat' (vx_isRefq hU'.1) (vx_isRefq hN'.1) hU'.2.word hN'.2.word
  have hown' : s'.vm.findClass own = some m.cls := by rw [hvm]; exact hown
  have hins : (Cond.instantiable cls 6).before args s' = true := h _ (by simp [Bundle.ownAtoms])
  obtain ⟨vm₁, cX, kX, hfX, hkX, -, -, X₁, st1⟩ := Y.newCold hexec (own := own) (C := cls) (index := ik) (n := 6) hown' hk' hins hini'
    (g := F0 m pc ls rest) rfl (by rw [hb]; exact d0) (Nat.le_refl _) (Nat.le_refl _)
  generalize hT1 : (T.setVm vm₁).pushCell { cls := cX, slots := kX.instanceTypes.map defaultValue, vm := .none } = T1 at X₁ st1
  have hcat : (Value.ref T.heap.size).category = 1 := rfl
  have hcellA : T1.heap[T.heap.size]? = some (freshCell cX kX) := by rw [← hT1]; exact State.heap_pushCell_size _ _
  have d3' : decode c.code (pc + 3) = .ok (.dup, 1) := by rw [hb]; exact d3
  have d4' : decode c.code (pc + 4) = .ok (.ldc_w is, 3) := by rw [hb]; exact d4
  have hstr' : vk_R own is text sa s' := vk_R.warm hW0 hstr
  obtain ⟨U, hsteps, hrun, hend, hW, hsame, ce, hce, hO⟩ := X₁.ctorThrowS hexec htr (own := own) (cls := cls) (names := names) (ic := ic) hown' hcls hnames h (fun x hx => nomatch hx) hfX hkX hcellA (by rw [hhp, hT]; exact Nat.le_refl _) (msg := .ref sa) rfl
    (g := { method := m, pc := pc + 7, locals := ls, stack := .ref sa :: .ref T.heap.size :: .ref T.heap.size :: rest, locked := none }) rfl hsize rfl rfl (rest := rest) rfl
    (by rw [hb]; exact d7) (by rw [hb]; exact d10) hout hRframes (by simp only [List.map_cons, List.sum_cons, hcat]; omega) hlocks
  obtain ⟨f1, f2⟩ := vx_frame hsame
  rw [hhp] at f1 f2
  have hWs : s.WarmedH U.vm := State.WarmedH.trans hW0 hW
  have hcl : s.vm.findClass cls = some ce.cls := by
    have h9 := hO.cls
    rw [hvm] at h9
    exact h9
  have hall : s.sameButNew ({ U with vm := s.vm } : State) locs mc ms := by
    subst hA
    obtain ⟨e1, e2⟩ := hsame
    rw [State.setFrames_setFrames] at e1
    have h2 : (T.setVm s.vm).sameButNew ({ U with vm := s.vm } : State) [] (0 + 1) (0 + 6) := ⟨e1, e2⟩
    have h3 := X.same.trans h2
    rw [List.append_nil] at h3
    exact h3.mono hc hs
  refine ⟨U, ?_, .threw T.heap.size, hrun, hend, Or.inr ⟨T.heap.size, rfl, cls, ce, locs, hx U hWs.alike f1 (fun q hq => f2 q hq (fun z hz => nomatch hz)), hce, hO.vm, hcl, hWs, hall, hf⟩⟩
  refine st1 _ ?_
  show Steps p.tables e below (T1.setTop { method := m, pc := pc + 3, locals := ls, stack := .ref T.heap.size :: rest, locked := none }) _
  jvm_step X₁.here [X₁.here.top, hexec, d3', Value.category]
  exact X₁.ldcStringW hexec (own := own) (text := text) (index := is) (a := sa) hown' hstr'.1 hstr'.2
    (g := { method := m, pc := pc + 4, locals := ls, stack := .ref T.heap.size :: .ref T.heap.size :: rest, locked := none }) rfl d4' _ hsteps
end Ends
section Bodies
variable {l : Launch}
theorem vx_ofW {y : MethodName} {ws ws' : List Cond} {rm : Room} {Pc : Array Value → State → Prop} {Qc : Array Value → State → Outcome → State → Prop} {XC : String → State → State → Prop} {mc ms : Nat} {free : Addr → Prop} {cc : ByteArray} {maxL : Nat} {ret : Option FieldType}
    (hy : plainName y.cls = true) (hw : ws = Cond.code y cc maxL ret :: ws')
    (body : ∀ p e s m args below meth c s₁, BodyLoose p l y (headSpec ws rm) cc maxL ret e s m args below meth c s₁ → c.maxLocals = maxL → (∀ x ∈ c.exceptionTable.toList, False) → Pc args s →
      W p l e (headSpec ws rm).room s m args below meth c s.heap [] 0 0 (vx_MQ below Qc XC args s mc ms free) (entryFrame m args maxL)) : vx_Met l y ws rm Pc Qc XC mc ms free := by
  refine MetFree.of_bodyS (code := cc) (maxLocals := maxL) (ret := ret) hy ?_ ?_
  · intro args s m h hn
    obtain ⟨meth, c, h1, h2, h3, h4, h5, h6, -, -⟩ := Cond.code_spec hn (atoms_spec (ws := ws) h _ (by rw [hw]; exact List.mem_cons_self))
    exact ⟨meth, c, h1, h2, h3, h4, h5, h6⟩
  · intro p e s m args below meth c s₁ B hml hP _
    have hh0 : s₁.heap = s.heap := by rw [B.state]; rfl
    have ht : ∀ x ∈ c.exceptionTable.toList, False := by
      obtain ⟨meth9, c9, h1, h2, -, -, -, -, h7, -⟩ := Cond.code_spec B.named (atoms_spec (ws := ws) B.pre _ (by rw [hw]; exact List.mem_cons_self))
      cases Option.some.inj (h1.symm.trans B.method)
      cases Option.some.inj (h2.symm.trans (Stand.of_body B).code)
      intro x hx
      rw [Array.isEmpty_iff.mp h7] at hx
      cases hx
    obtain ⟨t, a1, o, b1, b2, b3⟩ := body p e s m args below meth c s₁ B hml ht hP s₁ hh0 (Stand.of_body B)
    exact ⟨t, o, a1, b1, b2, b3⟩
/-- the table of a body with handlers -/
theorem vx_table {p : Program} {x y : MethodName} {S : Spec} {cc bytes : ByteArray} {maxL maxL' : Nat} {ret ret' : Option FieldType} {e : Env} {s s₁ : State} {m : MethodId} {args : Array Value} {below : List Frame} {meth : Method} {c : Code} {hh : List (Nat × Nat × Nat × Nat)}
    (B : BodyLoose p l y S cc maxL ret e s m args below meth c s₁) (h : (Cond.codeWith y bytes maxL' ret' hh).before args s = true) : c.exceptionTable.toList = tableOf hh := by
  obtain ⟨m9, meth9, c9, hn9, h1, h2, -, -, h6, -⟩ := Cond.codeWith_spec h
  cases Option.some.inj (hn9.symm.trans B.named)
  cases Option.some.inj (h1.symm.trans B.method)
  cases Option.some.inj (h2.symm.trans (Stand.of_body B).code)
  rw [← h6, table_eq]
end Bodies
end VXA
/-! ===== END ===== -/
/-! ===== BEGIN a static call of a method with an exception table ===== -/
section VXS
variable {p : Program} {l : Launch} {e : Env} {R : Room} {s : State} {m : MethodId} {args : Array Value} {below : List Frame} {meth : Method} {c : Code} {T : State} {H : Heap} {locs : List Loc} {cells slots : Nat}
abbrev vx_CSW (R : Room) (s : State) (args : Array Value) (own : String) (index : Nat) (y : MethodName) (bytes : ByteArray) (maxL : Nat) (ret : Option FieldType) (hh : List (Nat × Nat × Nat × Nat)) (ws : List Cond) (rm : Room) (mc ms n : Nat) : Prop :=
  (rm.cells = mc ∧ rm.slots = ms ∧ rm.frames + 1 ≤ R.frames ∧ 8 + (maxL + 11) + rm.locals ≤ R.locals ∧ (∀ w ∈ ws, ∀ (a' : Array Value) (U : State), s.WarmedH U.vm → w.before a' U = true) ∧ Cond.codeWith y bytes maxL ret hh ∈ ws) ∧
  (Cond.codeWith y bytes maxL ret hh).before args s = true ∧ (Cond.initialized y.cls).before args s = true ∧ (y.cls ≠ "java/lang/invoke/MethodHandle" ∧ y.cls ≠ "java/lang/invoke/VarHandle") ∧
  (∀ sig, parseMethodDescriptor y.desc = some sig → n = sig.parameters.length) ∧ (Cond.methodLink own index y).before args s = true ∧ (Cond.static y).before args s = true
theorem vx_cwSW {own : String} {index maxL mc ms : Nat} {y : MethodName} {bytes : ByteArray} {ret : Option FieldType} {hh : List (Nat × Nat × Nat × Nat)} {Ts ws ws' : List Cond} {rm : Room} (n : Nat) (ht : ∀ w ∈ Ts, w.before args s = true) (hT : GoodIn Ts (va_wsS own index y ws)) (hw : ws = Cond.codeWith y bytes maxL ret hh :: ws') (hrc : rm.cells = mc) (hrs : rm.slots = ms)
    (hd : y.cls ≠ "java/lang/invoke/MethodHandle" ∧ y.cls ≠ "java/lang/invoke/VarHandle" ∧ (parseMethodDescriptor y.desc).map (fun d => d.parameters.length) = some n) (hR : rm.frames + 1 ≤ R.frames ∧ 8 + (maxL + 11) + rm.locals ≤ R.locals) :
    vx_CSW R s args own index y bytes maxL ret hh ws rm mc ms n := by
  have ok : ∀ w ∈ va_wsS own index y ws, w.before args s = true := fun w h => ht w (hT w h).1
  have hG : GoodIn Ts ws := fun w h => hT w (by unfold va_wsS; exact List.mem_append_right _ h)
  have hc : Cond.codeWith y bytes maxL ret hh ∈ ws := by rw [hw]; exact List.mem_cons_self
  refine ⟨⟨hrc, hrs, hR.1, hR.2, pay_in ht hG, hc⟩, ht _ (hG _ hc).1, ok _ (by simp [va_wsS]), ⟨hd.1, hd.2.1⟩, fun sig h => ?_, ok _ (by simp [va_wsS]), ok _ (by simp [va_wsS])⟩
  have h2 := hd.2.2
  rw [h] at h2
  exact (Option.some.inj h2).symm
theorem vx_callSW (X : Stand p l e R s m args below meth c T locs cells slots) (hexec : p.tables.exec = Jvm.exec) {own : String} {index : Nat} {y : MethodName} {bytes : ByteArray} {maxL : Nat} {ret : Option FieldType} {hh : List (Nat × Nat × Nat × Nat)}
    (hown : s.vm.findClass own = some m.cls) (hlink : (Cond.methodLink own index y).before args s = true) (hstat : (Cond.static y).before args s = true) (hinit : (Cond.initialized y.cls).before args s = true)
    (hcode : (Cond.codeWith y bytes maxL ret hh).before args s = true) (hy : y.cls ≠ "java/lang/invoke/MethodHandle" ∧ y.cls ≠ "java/lang/invoke/VarHandle")
    {W9 : Nat} {Pre : Pt → Array Value → Prop} {Post : Pt → Array Value → Option Value → Pt → Prop} (hK : Back l R p e below s args y 3 W9 Pre Post)
    {g : JFrame} (hg : g.method = m) (hsize : g.locals.size = c.maxLocals) {argsL rest : List Value} (hlen : ∀ sig, parseMethodDescriptor y.desc = some sig → argsL.length = sig.parameters.length)
    (hstack : g.stack = argsL.reverse ++ rest) (hW : 2 * g.monitorRoom + (rest.map fun v => v.category).sum ≤ W9) (hdg : decode c.code g.pc = .ok (.invokestatic index, 3))
    (hpre : ∀ vm₁, s.WarmedH vm₁ → Pre ⟨T.setVm vm₁, locs, cells, slots⟩ argsL.toArray) :
    ∃ (v : Option Value) (vm₁ : Vm) (B : Pt), s.WarmedH vm₁ ∧ Stand p l e R s m args below meth c B.U B.locs B.cells B.slots ∧ Post ⟨T.setVm vm₁, locs, cells, slots⟩ argsL.toArray v B ∧
      ∀ target, Steps p.tables e below (B.U.setTop { g with pc := g.pc + 3, stack := v.toList ++ rest }) target → Steps p.tables e below (T.setTop g) target := by
  obtain ⟨mk, methM, cM, hnamed, hmethM, -, -, -, -, -, -, hsigM⟩ := Cond.codeWith_spec hcode
  have hstatic : methM.isStatic = true := Cond.static_spec hnamed hmethM hstat
  obtain ⟨kP, hkP, -⟩ := className_of_methodNamed hnamed
  have hinitP : kP.init = .initialized := Cond.initialized_spec (findClass_of_methodNamed hnamed) hkP hinit
  obtain ⟨vm₁, X₁, hstep₁⟩ := X.invokestatic hexec hown hlink hnamed hmethM hstatic hkP hinitP hy (g := g) hg (argsL := argsL) (rest := rest) (hlen _ hsigM) hstack hdg
  obtain ⟨v, B, X', hpost, hsteps⟩ := hK m meth c ⟨T.setVm vm₁, locs, cells, slots⟩ { g with stack := rest } (.invokestatic index) mk argsL.toArray X₁ hg hsize hdg hW (X₁.named hnamed) (hpre vm₁ X₁.warmed)
  exact ⟨v, vm₁, B, X₁.warmed, X', hpost, fun target h => hstep₁ _ fun acts => by rw [doInvoke_state]; exact hsteps.trans h⟩
theorem vx_runSW {y : MethodName} {bytes cc : ByteArray} {maxL nL mc ms n index : Nat} {ret : Option FieldType} {hh : List (Nat × Nat × Nat × Nat)} {ws : List Cond} {rm : Room} {Pc : Array Value → State → Prop} {Qc : Array Value → State → Outcome → State → Prop} {free : Addr → Prop} {Ts : List Cond} {own : String} {As rest : List Value} {g : JFrame}
    (S : CallFix p m c cc nL s args Ts own) (hM : Met l y ws rm Pc Qc mc ms free) (cw : vx_CSW R s args own index y bytes maxL ret hh ws rm mc ms n) (hp : PreS s H Pc As)
    (hg : g.method = m) (hn : As.length = n) (hsize : g.locals.size = nL) (hstack : g.stack = As.reverse ++ rest) (hW : 2 * g.monitorRoom + (rest.map fun v => v.category).sum ≤ 8) (hdg : decode cc g.pc = .ok (.invokestatic index, 3)) (hf : cells + mc ≤ R.cells ∧ slots + ms ≤ R.slots) :
    va_Run p l e R s m args below meth c H locs cells slots mc ms g rest (Qc As.toArray) (free) := by
  obtain ⟨⟨hrc, hrs, hfr, hlo, hws, hcw⟩, hcode, hini, hy, hlen, hl, hstt⟩ := cw
  have hK : Back l R p e below s args y 3 8 (PreOf R mc ms Pc) (PostOf Qc mc ms free) := va_backW (hh := hh) (bytes := bytes) (maxL := maxL) (ret := ret) hM hp.1 hrc hrs hfr hlo hws hcw (fun a' U hW => word_at hW (Or.inl (by first | rfl | simp [Cond.onTables, Cond.keeps, Cond.steady])) hini)
  obtain ⟨hx, hb, hml, ho, -⟩ := S
  intro T hT X
  obtain ⟨v, vm₁, ⟨U', l2, c2, s2⟩, hW₁, X', ⟨g', mk, t, L, e1, e2, hq, h1, hL, h2, h3⟩, st⟩ := vx_callSW X hx (hh := hh) (bytes := bytes) (maxL := maxL) (ret := ret) ho hl hstt hini hcode hy hK hg (hsize.trans hml.symm) (argsL := As) (rest := rest) (fun sig h => hn.trans (hlen sig h)) hstack hW (by rw [hb]; exact hdg)
    (fun vm₁ hW₁ => ⟨hf.1, hf.2, hp.2 (T.setVm vm₁) hT hW₁⟩)
  dsimp only [Pt.U, Pt.locs, Pt.cells, Pt.slots] at X' e1 e2 h1 h2 h3 st
  subst h1; subst h2; subst h3
  exact ⟨v, (T.setVm vm₁).calling g' mk As.toArray, t, U', L, hT, X', hL, e1, e2, hq, st⟩
/-- not caught here, past rows that name other classes: it goes on to the caller -/
theorem vx_outP {p : Program} {l : Launch} {e : Env} {R : Room} {s : State} {m : MethodId} {args : Array Value} {below : List Frame} {meth : Method} {c : Code} {H : Heap} {locs : List Loc} {cells slots : Nat} {free : Addr → Prop} {ls : Array Slot} {rest : List Value} {Qc : Array Value → State → Outcome → State → Prop} {XC : String → State → State → Prop}
    {pc : Nat} {own E : String} {ce : Cell} {q : Addr} {mc ms : Nat} (hown : s.vm.findClass own = some m.cls) (hlocks : meth.locks = false)
    (hpass : ∀ z ∈ c.exceptionTable.toList, covers z pc = false ∨ (z.catchType ≠ 0 ∧ ∃ nm : String, (Cond.classLink own z.catchType nm).before args s = true ∧ va_Nc E nm s)) (hcell : H[q]? = some ce) (hv : ce.vm = .none) (hcl : s.vm.findClass E = some ce.cls)
    (hx : ∀ t : State, t.heap = H → s.vm.Alike t.vm → XC E s t) (hf : ∀ z ∈ locs, free z.base) (hc : cells ≤ mc) (hs : slots ≤ ms) :
    vx_W p l e R s m args below meth c H locs cells slots (vx_MQ below Qc XC args s mc ms free) (F0 m pc ls rest) q := by
  intro T hT X
  have hpl : e.platform.magicAccessors = ({} : Platform).magicAccessors := by rw [X.admits.platform]
  obtain ⟨vm', hW', X', st⟩ := X.outThrough hlocks q (g := F0 m pc ls rest) rfl rfl rfl (cell := ce) (by rw [hT]; exact hcell) (by rw [hv]; rfl)
    (by obtain ⟨k9, h9, -⟩ := Vm.findClass_spec hcl; exact ⟨k9, h9⟩) (fun z hz => by
      rcases hpass z hz with h | ⟨hz0, nm, hl1, hn1⟩
      · exact Or.inl h
      · obtain ⟨c6, hc6, hcl6⟩ := Cond.classLink_spec hown hl1 e.platform hpl
        obtain ⟨a8, b8, h1, h2, h3⟩ := hn1
        cases Option.some.inj (h1.symm.trans hcl)
        cases Option.some.inj (h2.symm.trans hc6)
        exact Or.inr ⟨hz0, _, hcl6, h3⟩)
  obtain ⟨g₀, hfr⟩ := X'.frames_eq
  have hcell9 : ((T.setVm vm').setFrames (.throwing q :: below)).heap[q]? = some ce := by
    show T.heap[q]? = some ce
    rw [hT]; exact hcell
  have hend : Ended ((T.setVm vm').setFrames (.throwing q :: below)) below (.threw q) := State.frames_setFrames _ (State.cur_lt_of_frames hfr)
  refine ⟨(T.setVm vm').setFrames (.throwing q :: below), ?_, .threw q, X'.here.running, hend, Or.inr ⟨q, rfl, E, ce, locs, hx _ hT (X'.ends _).1.alike, hcell9, hv, hcl, (X'.ends _).1, (X'.ends _).2.mono hc hs, hf⟩⟩
  rw [X.pushThrowing_eq]
  exact st
/-- a thing of a world lies in the heap -/
theorem vx_lt {D : va_G} {cl : List vw_C} {ws : va_W} {H1 : Heap} (h : va_P D cl ws H1) {k : Nat} {q : Nat × va_E} (hk : ws[k]? = some q) : q.1 < H1.size := (h k q hk).lt
end VXS
/-! ===== END ===== -/
/-! ===== BEGIN methods with a table of their own: called by a name, returning or throwing ===== -/
section VXH
/-! vx_backW, vx_callVX, vx_callSX, vx_callVW, vx_runVW, vx_runVX, vx_runSX, vx_ofWH follow the same proofs as their sisters above (Free/Laws.lean, Shelf42/LK1.lean); vx_outP calls Shelf42/NT130.lean (outThrough). -/
section
variable {l : Launch} {R : Room} {p : Program} {e : Env} {below : List Frame} {s : State} {sargs : Array Value} {y : MethodName} {len W9 : Nat}
theorem vx_backW {ws : List Cond} {rm : Room} {Pc : Array Value → State → Prop} {Qc : Array Value → State → Outcome → State → Prop} {XC : String → State → State → Prop} {mc ms : Nat} {free : Addr → Prop} {bytes : ByteArray} {maxL : Nat} {ret : Option FieldType} {hh : List (Nat × Nat × Nat × Nat)}
    (hM : vx_Met l y ws rm Pc Qc XC mc ms free) (hblind : FrameBlind Pc) (hrc : rm.cells = mc) (hrs : rm.slots = ms)
    (hframes : rm.frames + 1 ≤ R.frames) (hlocals : W9 + (maxL + 11) + rm.locals ≤ R.locals)
    (hws : ∀ w ∈ ws, ∀ a' U, s.WarmedH U.vm → w.before a' U = true) (hcode : Cond.codeWith y bytes maxL ret hh ∈ ws) (hinit : ∀ a' U, s.WarmedH U.vm → (Cond.initialized y.cls).before a' U = true) :
    vx_Back l R p e below s sargs y len W9 (PreOf R mc ms Pc) (PostOf Qc mc ms free) (vx_Post XC mc ms free) := by
  intro m meth c A g ig mk a X hg hsize hdg hW hn hp
  have h1 : (headSpec ws rm).pre.before a A.U = true := atoms_intro fun w hw => hws w hw _ _ X.warmed
  have h2 : (Cond.codeWith y bytes maxL ret hh).before a A.U = true := hws _ hcode _ _ X.warmed
  have h3 : (Cond.initialized y.cls).before a A.U = true := hinit _ _ X.warmed
  have h4 : A.cells + (headSpec ws rm).room.cells ≤ R.cells := by rw [show (headSpec ws rm).room.cells = mc from hrc]; exact hp.1
  have h5 : A.slots + (headSpec ws rm).room.slots ≤ R.slots := by rw [show (headSpec ws rm).room.slots = ms from hrs]; exact hp.2.1
  have hPc : Pc a (A.U.calling g mk a) := hblind _ _ _ _ hp.2.2
  obtain ⟨U, Ls, c0, s0⟩ := A
  dsimp only [Pt.U, Pt.locs, Pt.cells, Pt.slots] at h1 h2 h3 h4 h5 X hn hPc ⊢
  obtain ⟨m9, methY, cY, hn9, hmY, hcY, -, hlY, -⟩ := Cond.codeWith_spec h2
  cases Option.some.inj (hn9.symm.trans hn)
  obtain ⟨kY, hkY, -⟩ := className_of_methodNamed hn
  have hinitY : kY.init = .initialized := Cond.initialized_spec (findClass_of_methodNamed hn) hkY h3
  have h : At U g.method c below := by rw [hg]; exact X.here
  have hlocals9 : W9 + (maxL + 11) + (headSpec ws rm).room.locals ≤ R.locals := hlocals
  have happ : (headSpec ws rm).appliesLoose y e.platform (U.calling g mk a) = true :=
    Spec.appliesLoose_calling (g := g) h hdg hn hkY hinitY
      (X.room_calling (g := g) (R' := (headSpec ws rm).room) hsize hmY hcY hframes (by rw [hlY]; omega) h4 h5) h1
  obtain ⟨mid, hmid⟩ := h.above
  have hfr : (U.setTop g).frames = (.java g :: mid) ++ below := by rw [State.frames_setTop' g h.top, hmid]; rfl
  obtain ⟨o, s₂, hsteps, -, hend, hq⟩ := Steps.callFree hM p X.admits X.cas X.clock (acts := []) hfr happ hPc trivial
  have hq' : vx_Q Qc XC mc ms free a (U.calling g mk a) o s₂ := hq
  rw [State.frames_setTop' g h.top] at hend
  obtain ⟨g₀, hg0⟩ := Option.isSome_iff_exists.mp h.top
  obtain ⟨r, hr⟩ := State.topJava?_eq_some.mp hg0
  have hr' : (({ U with heap := s₂.heap, slotsUsed := s₂.slotsUsed } : State).setVm s₂.vm).frames = .java g₀ :: r := hr
  rcases hq' with ⟨hqc, L, hfe, hL⟩ | ⟨q, rfl, E, ce, L, hx, hce, hcv, hcl, hW₂, hsm, hL⟩
  · obtain ⟨⟨v, rfl⟩, hW₂, e2, q2, q3, q4, q5, q6⟩ := id hfe
    have e3 : s₂ = ({ (U.calling g mk a).setFrames s₂.frames with heap := s₂.heap, slotsUsed := s₂.slotsUsed } : State).setVm s₂.vm := by
      have : s₂ = ({ s₂ with vm := (U.calling g mk a).vm } : State).setVm s₂.vm := rfl
      rw [e2] at this
      exact this
    obtain ⟨c₂, i₂, len₂, hc₂, hd₂, hf₂⟩ := hend
    have hW' : U.WarmedH s₂.vm := hW₂
    have hcc : c₂ = c := by
      have h1 : s₂.code? g.method = U.code? g.method := by
        rw [State.code?_eq, State.code?_eq, hW'.alike.method?]
      exact Option.some.inj (hc₂.symm.trans (h1.trans h.code))
    subst hcc
    have hlen : len₂ = len := by rw [hdg] at hd₂; cases hd₂; rfl
    subst hlen
    have hs₂ : s₂ = (({ U with heap := s₂.heap, slotsUsed := s₂.slotsUsed } : State).setVm s₂.vm).setTop { g with pc := g.pc + len₂, stack := v.toList ++ g.stack } := by
      refine e3.trans ?_
      rw [hf₂, State.calling_eq h.top, State.setFrames_setFrames, State.setTop_of_frames _ hr', hr]
      rfl
    have hsame : U.sameButNew ({ U with heap := s₂.heap, slotsUsed := s₂.slotsUsed } : State) L mc ms := by
      refine ⟨?_, q2, q3, q4, q5, q6⟩
      obtain ⟨t, ht, -⟩ := State.frames_cons hr
      show ({ U with heap := s₂.heap, slotsUsed := s₂.slotsUsed } : State) = { U.setFrames U.frames with heap := s₂.heap, slotsUsed := s₂.slotsUsed }
      rw [State.setFrames_self ht]
    subst hg
    refine Or.inl ⟨v, ⟨(({ U with heap := s₂.heap, slotsUsed := s₂.slotsUsed } : State).setVm s₂.vm), Ls ++ L, c0 + mc, s0 + ms⟩,
      ⟨X.admits, X.cas, X.clock, X.frames, X.room, X.hears, X.method, X.code, (X.here.setHeapUsed s₂.heap s₂.slotsUsed).setVm hW'.alike, X.tail, State.WarmedH.trans X.warmed hW', X.limits, X.bytes, X.same.trans (hsame.setVm s.vm)⟩,
      ⟨g, mk, s₂, L, rfl, rfl, hqc, rfl, hL, rfl, rfl⟩, ?_⟩
    show Steps p.tables e below _ ((({ U with heap := s₂.heap, slotsUsed := s₂.slotsUsed } : State).setVm s₂.vm).setTop { g with pc := g.pc + len₂, stack := v.toList ++ g.stack })
    rw [← hs₂]
    exact hsteps
  · obtain ⟨e2, q2, q3, q4, q5, q6⟩ := id hsm
    have e3 : s₂ = ({ (U.calling g mk a).setFrames s₂.frames with heap := s₂.heap, slotsUsed := s₂.slotsUsed } : State).setVm s₂.vm := by
      have : s₂ = ({ s₂ with vm := (U.calling g mk a).vm } : State).setVm s₂.vm := rfl
      rw [e2] at this
      exact this
    have hf₂ : s₂.frames = .throwing q :: .java g :: U.frames.tail := hend
    have hW' : U.WarmedH s₂.vm := hW₂
    have hs₂ : s₂ = ((({ U with heap := s₂.heap, slotsUsed := s₂.slotsUsed } : State).setVm s₂.vm).setTop g).pushFrame (.throwing q) := by
      refine e3.trans ?_
      rw [hf₂, State.calling_eq h.top, State.setFrames_setFrames, State.pushFrame, State.frames_setTop _ hr', State.setTop_of_frames _ hr', State.setFrames_setFrames, hr]
      rfl
    have hsame : U.sameButNew ({ U with heap := s₂.heap, slotsUsed := s₂.slotsUsed } : State) L mc ms := by
      refine ⟨?_, q2, q3, q4, q5, q6⟩
      obtain ⟨t, ht, -⟩ := State.frames_cons hr
      show ({ U with heap := s₂.heap, slotsUsed := s₂.slotsUsed } : State) = { U.setFrames U.frames with heap := s₂.heap, slotsUsed := s₂.slotsUsed }
      rw [State.setFrames_self ht]
    subst hg
    refine Or.inr ⟨q, ⟨(({ U with heap := s₂.heap, slotsUsed := s₂.slotsUsed } : State).setVm s₂.vm), Ls ++ L, c0 + mc, s0 + ms⟩,
      ⟨X.admits, X.cas, X.clock, X.frames, X.room, X.hears, X.method, X.code, (X.here.setHeapUsed s₂.heap s₂.slotsUsed).setVm hW'.alike, X.tail, State.WarmedH.trans X.warmed hW', X.limits, X.bytes, X.same.trans (hsame.setVm s.vm)⟩,
      ⟨g, mk, s₂, L, E, ce, rfl, rfl, hx, hce, hcv, hcl, rfl, hL, rfl, rfl⟩, ?_⟩
    show Steps p.tables e below _ (((({ U with heap := s₂.heap, slotsUsed := s₂.slotsUsed } : State).setVm s₂.vm).setTop g).pushFrame (.throwing q))
    rw [← hs₂]
    exact hsteps
end
variable {p : Program} {l : Launch} {e : Env} {R : Room} {s : State} {m : MethodId} {args : Array Value} {below : List Frame} {meth : Method} {c : Code} {T : State} {H : Heap} {locs : List Loc} {cells slots : Nat}
theorem vx_callVX (X : Stand p l e R s m args below meth c T locs cells slots) (hexec : p.tables.exec = Jvm.exec) {own C : String} {index : Nat} {y : MethodName} {bytes : ByteArray} {maxL : Nat} {ret : Option FieldType} {hh : List (Nat × Nat × Nat × Nat)}
    (hown : s.vm.findClass own = some m.cls) (hlink : (Cond.methodLink own index y).before args s = true) (hinst : (Cond.instanceMethod y).before args s = true) (hsel : (Cond.selects C y y).before args s = true)
    (hcode : (Cond.codeWith y bytes maxL ret hh).before args s = true) (hy : y.cls ≠ "java/lang/invoke/MethodHandle" ∧ y.cls ≠ "java/lang/invoke/VarHandle")
    {W9 : Nat} {Pre : Pt → Array Value → Prop} {Post : Pt → Array Value → Option Value → Pt → Prop} {PostX : Pt → Array Value → Addr → Pt → Prop} (hK : vx_Back l R p e below s args y 3 W9 Pre Post PostX)
    {b : Addr} {cellB : Cell} (hcell : T.heap[b]? = some cellB) (hobj : cellB.vm.isStatics = false) (hcls : s.vm.findClass C = some cellB.cls)
    {g : JFrame} (hg : g.method = m) (hsize : g.locals.size = c.maxLocals) {argsL rest : List Value} (hlen : ∀ sig, parseMethodDescriptor y.desc = some sig → argsL.length = sig.parameters.length)
    (hstack : g.stack = argsL.reverse ++ .ref b :: rest) (hW : 2 * g.monitorRoom + (rest.map fun v => v.category).sum ≤ W9) (hdg : decode c.code g.pc = .ok (.invokevirtual index, 3))
    (hpre : ∀ vm₁, s.WarmedH vm₁ → Pre ⟨T.setVm vm₁, locs, cells, slots⟩ (Value.ref b :: argsL).toArray) :
    (∃ (v : Option Value) (vm₁ : Vm) (B : Pt), s.WarmedH vm₁ ∧ Stand p l e R s m args below meth c B.U B.locs B.cells B.slots ∧ Post ⟨T.setVm vm₁, locs, cells, slots⟩ (Value.ref b :: argsL).toArray v B ∧
      ∀ target, Steps p.tables e below (B.U.setTop { g with pc := g.pc + 3, stack := v.toList ++ rest }) target → Steps p.tables e below (T.setTop g) target) ∨
    (∃ (q : Addr) (vm₁ : Vm) (B : Pt), s.WarmedH vm₁ ∧ Stand p l e R s m args below meth c B.U B.locs B.cells B.slots ∧ PostX ⟨T.setVm vm₁, locs, cells, slots⟩ (Value.ref b :: argsL).toArray q B ∧
      Steps p.tables e below (T.setTop g) ((B.U.setTop { g with stack := rest }).pushFrame (.throwing q))) := by
  obtain ⟨mk, methM, hnamed, hmethM, hstM, habM⟩ := Cond.instanceMethod_spec hinst
  obtain ⟨m8, methM', cM, hn8, hmethM', -, -, -, -, -, -, hsigM⟩ := Cond.codeWith_spec hcode
  cases Option.some.inj (hn8.symm.trans hnamed)
  cases hmethM.symm.trans hmethM'
  obtain ⟨c2, r2, m2, q1, q2, q3, q4, kP, hkP, hkPi⟩ := Cond.selects_spec hsel
  cases hcls.symm.trans q1
  cases (State.methodFound?_of_named hnamed hy).symm.trans q2
  cases hnamed.symm.trans q3
  have hselP : selectMethod e.platform s.vm cellB.cls mk = .method mk := by rw [Launch.admits_selectMethod X.admits]; exact q4
  obtain ⟨vm₁, X₁, hstep₁⟩ := X.invokevirtual hexec hown hlink hnamed hmethM hstM hkP hkPi hy (a := b) (cell := cellB) hcell
    (fun z h => by rw [h] at hobj; cases hobj) hselP hmethM habM hkP hkPi (g := g) hg (argsL := argsL) (rest := rest) (hlen _ hsigM) hstack hdg
  rcases hK m meth c ⟨T.setVm vm₁, locs, cells, slots⟩ { g with stack := rest } (.invokevirtual index) mk (Value.ref b :: argsL).toArray X₁ hg hsize hdg hW (X₁.named hnamed) (hpre vm₁ X₁.warmed) with ⟨v, B, X', hpost, hsteps⟩ | ⟨q, B, X', hpost, hsteps⟩
  · exact Or.inl ⟨v, vm₁, B, X₁.warmed, X', hpost, fun target h => hstep₁ _ fun acts => by rw [doInvoke_state]; exact hsteps.trans h⟩
  · exact Or.inr ⟨q, vm₁, B, X₁.warmed, X', hpost, hstep₁ _ fun acts => by rw [doInvoke_state]; exact hsteps⟩
theorem vx_callSX (X : Stand p l e R s m args below meth c T locs cells slots) (hexec : p.tables.exec = Jvm.exec) {own : String} {index : Nat} {y : MethodName} {bytes : ByteArray} {maxL : Nat} {ret : Option FieldType} {hh : List (Nat × Nat × Nat × Nat)}
    (hown : s.vm.findClass own = some m.cls) (hlink : (Cond.methodLink own index y).before args s = true) (hstat : (Cond.static y).before args s = true) (hinit : (Cond.initialized y.cls).before args s = true)
    (hcode : (Cond.codeWith y bytes maxL ret hh).before args s = true) (hy : y.cls ≠ "java/lang/invoke/MethodHandle" ∧ y.cls ≠ "java/lang/invoke/VarHandle")
    {W9 : Nat} {Pre : Pt → Array Value → Prop} {Post : Pt → Array Value → Option Value → Pt → Prop} {PostX : Pt → Array Value → Addr → Pt → Prop} (hK : vx_Back l R p e below s args y 3 W9 Pre Post PostX)
    {g : JFrame} (hg : g.method = m) (hsize : g.locals.size = c.maxLocals) {argsL rest : List Value} (hlen : ∀ sig, parseMethodDescriptor y.desc = some sig → argsL.length = sig.parameters.length)
    (hstack : g.stack = argsL.reverse ++ rest) (hW : 2 * g.monitorRoom + (rest.map fun v => v.category).sum ≤ W9) (hdg : decode c.code g.pc = .ok (.invokestatic index, 3))
    (hpre : ∀ vm₁, s.WarmedH vm₁ → Pre ⟨T.setVm vm₁, locs, cells, slots⟩ argsL.toArray) :
    (∃ (v : Option Value) (vm₁ : Vm) (B : Pt), s.WarmedH vm₁ ∧ Stand p l e R s m args below meth c B.U B.locs B.cells B.slots ∧ Post ⟨T.setVm vm₁, locs, cells, slots⟩ argsL.toArray v B ∧
      ∀ target, Steps p.tables e below (B.U.setTop { g with pc := g.pc + 3, stack := v.toList ++ rest }) target → Steps p.tables e below (T.setTop g) target) ∨
    (∃ (q : Addr) (vm₁ : Vm) (B : Pt), s.WarmedH vm₁ ∧ Stand p l e R s m args below meth c B.U B.locs B.cells B.slots ∧ PostX ⟨T.setVm vm₁, locs, cells, slots⟩ argsL.toArray q B ∧
      Steps p.tables e below (T.setTop g) ((B.U.setTop { g with stack := rest }).pushFrame (.throwing q))) := by
  obtain ⟨mk, methM, cM, hnamed, hmethM, -, -, -, -, -, -, hsigM⟩ := Cond.codeWith_spec hcode
  have hstatic : methM.isStatic = true := Cond.static_spec hnamed hmethM hstat
  obtain ⟨kP, hkP, -⟩ := className_of_methodNamed hnamed
  have hinitP : kP.init = .initialized := Cond.initialized_spec (findClass_of_methodNamed hnamed) hkP hinit
  obtain ⟨vm₁, X₁, hstep₁⟩ := X.invokestatic hexec hown hlink hnamed hmethM hstatic hkP hinitP hy (g := g) hg (argsL := argsL) (rest := rest) (hlen _ hsigM) hstack hdg
  rcases hK m meth c ⟨T.setVm vm₁, locs, cells, slots⟩ { g with stack := rest } (.invokestatic index) mk argsL.toArray X₁ hg hsize hdg hW (X₁.named hnamed) (hpre vm₁ X₁.warmed) with ⟨v, B, X', hpost, hsteps⟩ | ⟨q, B, X', hpost, hsteps⟩
  · exact Or.inl ⟨v, vm₁, B, X₁.warmed, X', hpost, fun target h => hstep₁ _ fun acts => by rw [doInvoke_state]; exact hsteps.trans h⟩
  · exact Or.inr ⟨q, vm₁, B, X₁.warmed, X', hpost, hstep₁ _ fun acts => by rw [doInvoke_state]; exact hsteps⟩
theorem vx_callVW (X : Stand p l e R s m args below meth c T locs cells slots) (hexec : p.tables.exec = Jvm.exec) {own C : String} {index : Nat} {y : MethodName} {bytes : ByteArray} {maxL : Nat} {ret : Option FieldType} {hh : List (Nat × Nat × Nat × Nat)}
    (hown : s.vm.findClass own = some m.cls) (hlink : (Cond.methodLink own index y).before args s = true) (hinst : (Cond.instanceMethod y).before args s = true) (hsel : (Cond.selects C y y).before args s = true)
    (hcode : (Cond.codeWith y bytes maxL ret hh).before args s = true) (hy : y.cls ≠ "java/lang/invoke/MethodHandle" ∧ y.cls ≠ "java/lang/invoke/VarHandle")
    {W9 : Nat} {Pre : Pt → Array Value → Prop} {Post : Pt → Array Value → Option Value → Pt → Prop} (hK : Back l R p e below s args y 3 W9 Pre Post)
    {b : Addr} {cellB : Cell} (hcell : T.heap[b]? = some cellB) (hobj : cellB.vm.isStatics = false) (hcls : s.vm.findClass C = some cellB.cls)
    {g : JFrame} (hg : g.method = m) (hsize : g.locals.size = c.maxLocals) {argsL rest : List Value} (hlen : ∀ sig, parseMethodDescriptor y.desc = some sig → argsL.length = sig.parameters.length)
    (hstack : g.stack = argsL.reverse ++ .ref b :: rest) (hW : 2 * g.monitorRoom + (rest.map fun v => v.category).sum ≤ W9) (hdg : decode c.code g.pc = .ok (.invokevirtual index, 3))
    (hpre : ∀ vm₁, s.WarmedH vm₁ → Pre ⟨T.setVm vm₁, locs, cells, slots⟩ (Value.ref b :: argsL).toArray) :
    ∃ (v : Option Value) (vm₁ : Vm) (B : Pt), s.WarmedH vm₁ ∧ Stand p l e R s m args below meth c B.U B.locs B.cells B.slots ∧ Post ⟨T.setVm vm₁, locs, cells, slots⟩ (Value.ref b :: argsL).toArray v B ∧
      ∀ target, Steps p.tables e below (B.U.setTop { g with pc := g.pc + 3, stack := v.toList ++ rest }) target → Steps p.tables e below (T.setTop g) target := by
  obtain ⟨mk, methM, hnamed, hmethM, hstM, habM⟩ := Cond.instanceMethod_spec hinst
  obtain ⟨m8, methM', cM, hn8, hmethM', -, -, -, -, -, -, hsigM⟩ := Cond.codeWith_spec hcode
  cases Option.some.inj (hn8.symm.trans hnamed)
  cases hmethM.symm.trans hmethM'
  obtain ⟨c2, r2, m2, q1, q2, q3, q4, kP, hkP, hkPi⟩ := Cond.selects_spec hsel
  cases hcls.symm.trans q1
  cases (State.methodFound?_of_named hnamed hy).symm.trans q2
  cases hnamed.symm.trans q3
  have hselP : selectMethod e.platform s.vm cellB.cls mk = .method mk := by rw [Launch.admits_selectMethod X.admits]; exact q4
  obtain ⟨vm₁, X₁, hstep₁⟩ := X.invokevirtual hexec hown hlink hnamed hmethM hstM hkP hkPi hy (a := b) (cell := cellB) hcell
    (fun z h => by rw [h] at hobj; cases hobj) hselP hmethM habM hkP hkPi (g := g) hg (argsL := argsL) (rest := rest) (hlen _ hsigM) hstack hdg
  obtain ⟨v, B, X', hpost, hsteps⟩ := hK m meth c ⟨T.setVm vm₁, locs, cells, slots⟩ { g with stack := rest } (.invokevirtual index) mk (Value.ref b :: argsL).toArray X₁ hg hsize hdg hW (X₁.named hnamed) (hpre vm₁ X₁.warmed)
  exact ⟨v, vm₁, B, X₁.warmed, X', hpost, fun target h => hstep₁ _ fun acts => by rw [doInvoke_state]; exact hsteps.trans h⟩
abbrev vx_CVW (R : Room) (s : State) (args : Array Value) (own C : String) (index : Nat) (y : MethodName) (bytes : ByteArray) (maxL : Nat) (ret : Option FieldType) (hh : List (Nat × Nat × Nat × Nat)) (ws : List Cond) (rm : Room) (mc ms n : Nat) : Prop :=
  (rm.cells = mc ∧ rm.slots = ms ∧ rm.frames + 1 ≤ R.frames ∧ 8 + (maxL + 11) + rm.locals ≤ R.locals ∧ (∀ w ∈ ws, ∀ (a' : Array Value) (U : State), s.WarmedH U.vm → w.before a' U = true) ∧ Cond.codeWith y bytes maxL ret hh ∈ ws) ∧
  (Cond.codeWith y bytes maxL ret hh).before args s = true ∧ (Cond.initialized y.cls).before args s = true ∧ (y.cls ≠ "java/lang/invoke/MethodHandle" ∧ y.cls ≠ "java/lang/invoke/VarHandle") ∧
  (∀ sig, parseMethodDescriptor y.desc = some sig → n = sig.parameters.length) ∧ (Cond.methodLink own index y).before args s = true ∧ (Cond.instanceMethod y).before args s = true ∧ (Cond.selects C y y).before args s = true
theorem vx_cwVW {own C : String} {index maxL mc ms : Nat} {y : MethodName} {bytes : ByteArray} {ret : Option FieldType} {hh : List (Nat × Nat × Nat × Nat)} {Ts ws ws' : List Cond} {rm : Room} (n : Nat) (ht : ∀ w ∈ Ts, w.before args s = true) (hT : GoodIn Ts (wsV own index C y ws)) (hw : ws = Cond.codeWith y bytes maxL ret hh :: ws') (hrc : rm.cells = mc) (hrs : rm.slots = ms)
    (hd : y.cls = C ∧ y.cls ≠ "java/lang/invoke/MethodHandle" ∧ y.cls ≠ "java/lang/invoke/VarHandle" ∧ (parseMethodDescriptor y.desc).map (fun d => d.parameters.length) = some n) (hR : rm.frames + 1 ≤ R.frames ∧ 8 + (maxL + 11) + rm.locals ≤ R.locals) :
    vx_CVW R s args own C index y bytes maxL ret hh ws rm mc ms n := by
  obtain ⟨hC, hd⟩ := hd
  subst hC
  have ok : ∀ w ∈ wsV own index y.cls y ws, w.before args s = true := fun w h => ht w (hT w h).1
  have hG : GoodIn Ts ws := fun w h => hT w (by unfold wsV; exact List.mem_append_right _ h)
  have hc : Cond.codeWith y bytes maxL ret hh ∈ ws := by rw [hw]; exact List.mem_cons_self
  refine ⟨⟨hrc, hrs, hR.1, hR.2, pay_in ht hG, hc⟩, ht _ (hG _ hc).1, ok _ (by simp [wsV]), ⟨hd.1, hd.2.1⟩, fun sig h => ?_, ok _ (by simp [wsV]), ok _ (by simp [wsV]), ok _ (by simp [wsV])⟩
  have h2 := hd.2.2
  rw [h] at h2
  exact (Option.some.inj h2).symm
theorem vx_runVW {y : MethodName} {bytes cc : ByteArray} {maxL nL mc ms n index : Nat} {ret : Option FieldType} {hh : List (Nat × Nat × Nat × Nat)} {ws : List Cond} {rm : Room} {Pc : Array Value → State → Prop} {Qc : Array Value → State → Outcome → State → Prop} {free : Addr → Prop} {Ts : List Cond} {own C : String} {b : Addr} {As rest : List Value} {g : JFrame}
    (S : CallFix p m c cc nL s args Ts own) (hM : Met l y ws rm Pc Qc mc ms free) (cw : vx_CVW R s args own C index y bytes maxL ret hh ws rm mc ms n) (hp : PreV s H C b Pc As)
    (hg : g.method = m) (hn : As.length = n) (hsize : g.locals.size = nL) (hstack : g.stack = As.reverse ++ .ref b :: rest) (hW : 2 * g.monitorRoom + (rest.map fun v => v.category).sum ≤ 8) (hdg : decode cc g.pc = .ok (.invokevirtual index, 3)) (hf : cells + mc ≤ R.cells ∧ slots + ms ≤ R.slots) :
    va_Run p l e R s m args below meth c H locs cells slots mc ms g rest (Qc (Value.ref b :: As).toArray) free := by
  obtain ⟨⟨hrc, hrs, hfr, hlo, hws, hcw⟩, hcode, hini, hy, hlen, hl, hin, hse⟩ := cw
  have hK : Back l R p e below s args y 3 8 (PreOf R mc ms Pc) (PostOf Qc mc ms free) := va_backW (hh := hh) (bytes := bytes) (maxL := maxL) (ret := ret) hM hp.1 hrc hrs hfr hlo hws hcw (fun a' U hW => word_at hW (Or.inl (by first | rfl | simp [Cond.onTables, Cond.keeps, Cond.steady])) hini)
  obtain ⟨hx, hb, hml, ho, -⟩ := S
  obtain ⟨-, ⟨cellB, hcB, hoB, hclB⟩, hPc⟩ := hp
  intro T hT X
  obtain ⟨v, vm₁, ⟨U', l2, c2, s2⟩, hW₁, X', ⟨g', mk, t, L, e1, e2, hq, h1, hL, h2, h3⟩, st⟩ := vx_callVW X hx (C := C) (hh := hh) (bytes := bytes) (maxL := maxL) (ret := ret) ho hl hin hse hcode hy hK (by rw [hT]; exact hcB) hoB hclB hg (hsize.trans hml.symm) (argsL := As) (rest := rest) (fun sig h => hn.trans (hlen sig h)) hstack hW (by rw [hb]; exact hdg)
    (fun vm₁ hW₁ => ⟨hf.1, hf.2, hPc (T.setVm vm₁) hT hW₁⟩)
  dsimp only [Pt.U, Pt.locs, Pt.cells, Pt.slots] at X' e1 e2 h1 h2 h3 st
  subst h1; subst h2; subst h3
  exact ⟨v, (T.setVm vm₁).calling g' mk (Value.ref b :: As).toArray, t, U', L, hT, X', hL, e1, e2, hq, st⟩
section
variable {y : MethodName} {bytes cc : ByteArray} {maxL nL mc ms n index : Nat} {ret : Option FieldType} {ws : List Cond} {rm : Room} {Pc : Array Value → State → Prop} {Qc : Array Value → State → Outcome → State → Prop} {XC : String → State → State → Prop} {free : Addr → Prop} {Ts : List Cond} {own C : String} {b : Addr} {As rest : List Value} {g : JFrame}
theorem vx_runVX {hh : List (Nat × Nat × Nat × Nat)} (S : CallFix p m c cc nL s args Ts own) (hM : vx_Met l y ws rm Pc Qc XC mc ms free) (cw : vx_CVW R s args own C index y bytes maxL ret hh ws rm mc ms n) (hp : PreV s H C b Pc As)
    (hg : g.method = m) (hn : As.length = n) (hsize : g.locals.size = nL) (hstack : g.stack = As.reverse ++ .ref b :: rest) (hW : 2 * g.monitorRoom + (rest.map fun v => v.category).sum ≤ 8) (hdg : decode cc g.pc = .ok (.invokevirtual index, 3)) (hf : cells + mc ≤ R.cells ∧ slots + ms ≤ R.slots) :
    vx_Run p l e R s m args below meth c H locs cells slots mc ms g rest (Qc (Value.ref b :: As).toArray) XC free := by
  obtain ⟨⟨hrc, hrs, hfr, hlo, hws, hcw⟩, hcode, hini, hy, hlen, hl, hin, hse⟩ := cw
  have hK : vx_Back l R p e below s args y 3 8 (PreOf R mc ms Pc) (PostOf Qc mc ms free) (vx_Post XC mc ms free) := vx_backW (hh := hh) (bytes := bytes) (maxL := maxL) (ret := ret) hM hp.1 hrc hrs hfr hlo hws hcw (fun a' U hW => word_at hW (Or.inl (by first | rfl | simp [Cond.onTables, Cond.keeps, Cond.steady])) hini)
  obtain ⟨hx, hb, hml, ho, -⟩ := S
  obtain ⟨-, ⟨cellB, hcB, hoB, hclB⟩, hPc⟩ := hp
  intro T hT X
  rcases vx_callVX X hx (C := C) (hh := hh) (bytes := bytes) (maxL := maxL) (ret := ret) ho hl hin hse hcode hy hK (by rw [hT]; exact hcB) hoB hclB hg (hsize.trans hml.symm) (argsL := As) (rest := rest) (fun sig h => hn.trans (hlen sig h)) hstack hW (by rw [hb]; exact hdg)
    (fun vm₁ hW₁ => ⟨hf.1, hf.2, hPc (T.setVm vm₁) hT hW₁⟩) with ⟨v, vm₁, ⟨U', l2, c2, s2⟩, hW₁, X', ⟨g', mk, t, L, e1, e2, hq, h1, hL, h2, h3⟩, st⟩ | ⟨q, vm₁, ⟨U', l2, c2, s2⟩, hW₁, X', ⟨g', mk, t, L, E, ce, e1, e2, hq, hce, hcv, hcl, h1, hL, h2, h3⟩, st⟩
  · dsimp only [Pt.U, Pt.locs, Pt.cells, Pt.slots] at X' e1 e2 h1 h2 h3 st
    subst h1; subst h2; subst h3
    exact Or.inl ⟨v, (T.setVm vm₁).calling g' mk (Value.ref b :: As).toArray, t, U', L, hT, X', hL, e1, e2, hq, st⟩
  · dsimp only [Pt.U, Pt.locs, Pt.cells, Pt.slots] at X' e1 e2 h1 h2 h3 st hcl
    subst h1; subst h2; subst h3
    exact Or.inr ⟨q, (T.setVm vm₁).calling g' mk (Value.ref b :: As).toArray, t, U', L, E, ce, hT, X', hL, e1, e2, hq, hce, hcv, vx_cls hW₁ hcl, st⟩
theorem vx_runSX {hh : List (Nat × Nat × Nat × Nat)} (S : CallFix p m c cc nL s args Ts own) (hM : vx_Met l y ws rm Pc Qc XC mc ms free) (cw : vx_CSW R s args own index y bytes maxL ret hh ws rm mc ms n) (hp : PreS s H Pc As)
    (hg : g.method = m) (hn : As.length = n) (hsize : g.locals.size = nL) (hstack : g.stack = As.reverse ++ rest) (hW : 2 * g.monitorRoom + (rest.map fun v => v.category).sum ≤ 8) (hdg : decode cc g.pc = .ok (.invokestatic index, 3)) (hf : cells + mc ≤ R.cells ∧ slots + ms ≤ R.slots) :
    vx_Run p l e R s m args below meth c H locs cells slots mc ms g rest (Qc As.toArray) XC free := by
  obtain ⟨⟨hrc, hrs, hfr, hlo, hws, hcw⟩, hcode, hini, hy, hlen, hl, hstt⟩ := cw
  have hK : vx_Back l R p e below s args y 3 8 (PreOf R mc ms Pc) (PostOf Qc mc ms free) (vx_Post XC mc ms free) := vx_backW (hh := hh) (bytes := bytes) (maxL := maxL) (ret := ret) hM hp.1 hrc hrs hfr hlo hws hcw (fun a' U hW => word_at hW (Or.inl (by first | rfl | simp [Cond.onTables, Cond.keeps, Cond.steady])) hini)
  obtain ⟨hx, hb, hml, ho, -⟩ := S
  intro T hT X
  rcases vx_callSX X hx (hh := hh) (bytes := bytes) (maxL := maxL) (ret := ret) ho hl hstt hini hcode hy hK hg (hsize.trans hml.symm) (argsL := As) (rest := rest) (fun sig h => hn.trans (hlen sig h)) hstack hW (by rw [hb]; exact hdg)
    (fun vm₁ hW₁ => ⟨hf.1, hf.2, hp.2 (T.setVm vm₁) hT hW₁⟩) with ⟨v, vm₁, ⟨U', l2, c2, s2⟩, hW₁, X', ⟨g', mk, t, L, e1, e2, hq, h1, hL, h2, h3⟩, st⟩ | ⟨q, vm₁, ⟨U', l2, c2, s2⟩, hW₁, X', ⟨g', mk, t, L, E, ce, e1, e2, hq, hce, hcv, hcl, h1, hL, h2, h3⟩, st⟩
  · dsimp only [Pt.U, Pt.locs, Pt.cells, Pt.slots] at X' e1 e2 h1 h2 h3 st
    subst h1; subst h2; subst h3
    exact Or.inl ⟨v, (T.setVm vm₁).calling g' mk As.toArray, t, U', L, hT, X', hL, e1, e2, hq, st⟩
  · dsimp only [Pt.U, Pt.locs, Pt.cells, Pt.slots] at X' e1 e2 h1 h2 h3 st hcl
    subst h1; subst h2; subst h3
    exact Or.inr ⟨q, (T.setVm vm₁).calling g' mk As.toArray, t, U', L, E, ce, hT, X', hL, e1, e2, hq, hce, hcv, vx_cls hW₁ hcl, st⟩
end
end VXH
theorem vx_ofWH {l : Launch} {y : MethodName} {ws ws' : List Cond} {rm : Room} {Pc : Array Value → State → Prop} {Qc : Array Value → State → Outcome → State → Prop} {XC : String → State → State → Prop} {mc ms : Nat} {free : Addr → Prop} {cc : ByteArray} {maxL : Nat} {ret : Option FieldType} {hh : List (Nat × Nat × Nat × Nat)}
    (hy : plainName y.cls = true) (hw : ws = Cond.codeWith y cc maxL ret hh :: ws')
    (body : ∀ p e s m args below meth c s₁, BodyLoose p l y (headSpec ws rm) cc maxL ret e s m args below meth c s₁ → c.maxLocals = maxL → Pc args s →
      W p l e (headSpec ws rm).room s m args below meth c s.heap [] 0 0 (vx_MQ below Qc XC args s mc ms free) (entryFrame m args maxL)) : vx_Met l y ws rm Pc Qc XC mc ms free := by
  refine MetFree.of_bodyS (code := cc) (maxLocals := maxL) (ret := ret) hy ?_ ?_
  · intro args s m h hn
    obtain ⟨m9, meth, c, hn9, h1, h2, h3, h4, -, h5, h6, -⟩ := Cond.codeWith_spec (atoms_spec (ws := ws) h _ (by rw [hw]; exact List.mem_cons_self))
    cases hn.symm.trans hn9
    exact ⟨meth, c, h1, h2, h3, h4, h5, h6⟩
  · intro p e s m args below meth c s₁ B hml hP _
    have hh0 : s₁.heap = s.heap := by rw [B.state]; rfl
    obtain ⟨t, a1, o, b1, b2, b3⟩ := body p e s m args below meth c s₁ B hml hP s₁ hh0 (Stand.of_body B)
    exact ⟨t, o, a1, b1, b2, b3⟩
/-! ===== END ===== -/

/-! ===== BEGIN printed: names, fields, word lists, decode rows ===== -/
def RX0 : String := "Homekeys$Contest"
def TX0 : u_T := fun k => match k with
  | 0 => ("Homekeys$Contest", "times", "[I", true)
  | 1 => ("Homekeys$Contest", "ticks", "[I", true)
  | _ => ("Homekeys$Contest", "scores", "[I", true)
def tyX0 : Nat → FieldType := fun k => match k with
  | 0 => .array .int
  | 1 => .array .int
  | _ => .array .int
abbrev wsX00 : List Cond := u_ws RX0 TX0 3
theorem nmX0 : ∀ a, a < 3 → ∀ b, b < 3 → a ≠ b → (TX0 a).2.1 ≠ (TX0 b).2.1 := by decide +kernel
theorem tyX0_ok : ∀ k, k < 3 → parseFieldDescriptor (TX0 k).2.2.1 = some (tyX0 k) := by decide +kernel
abbrev cX0_init : ByteArray := prog_2_method_1_code
def yX0_init : MethodName := ⟨RX0, "<init>", "()V"⟩
abbrev cX0_hasResult : ByteArray := prog_2_method_2_code
def yX0_hasResult : MethodName := ⟨RX0, "hasResult", "(I)Z"⟩
abbrev cX0_told : ByteArray := prog_2_method_3_code
def yX0_told : MethodName := ⟨RX0, "told", "(II)I"⟩
abbrev cX0_rankOf : ByteArray := prog_2_method_4_code
def yX0_rankOf : MethodName := ⟨RX0, "rankOf", "(I)I"⟩
abbrev cX0_holderOf : ByteArray := prog_2_method_5_code
def yX0_holderOf : MethodName := ⟨RX0, "holderOf", "(I)I"⟩
def RX1 : String := "Homekeys$Student"
def TX1 : u_T := fun k => match k with
  | 0 => ("Homekeys$Student", "keys", "[I", true)
  | 1 => ("Homekeys$Student", "letters", "[I", true)
  | 2 => ("Homekeys$Student", "way", "I", false)
  | 3 => ("Homekeys$Student", "keySlips", "[I", true)
  | 4 => ("Homekeys$Student", "pairSlips", "[I", true)
  | 5 => ("Homekeys$Student", "typed", "[I", true)
  | 6 => ("Homekeys$Student", "kept", "I", false)
  | _ => ("Homekeys$Student", "presses", "I", false)
def tyX1 : Nat → FieldType := fun k => match k with
  | 0 => .array .int
  | 1 => .array .int
  | 2 => .int
  | 3 => .array .int
  | 4 => .array .int
  | 5 => .array .int
  | 6 => .int
  | _ => .int
abbrev wsX10 : List Cond := u_ws RX1 TX1 8
theorem nmX1 : ∀ a, a < 8 → ∀ b, b < 8 → a ≠ b → (TX1 a).2.1 ≠ (TX1 b).2.1 := by decide +kernel
theorem tyX1_ok : ∀ k, k < 8 → parseFieldDescriptor (TX1 k).2.2.1 = some (tyX1 k) := by decide +kernel
abbrev cX1_init : ByteArray := prog_3_method_1_code
def yX1_init : MethodName := ⟨RX1, "<init>", "()V"⟩
abbrev cX1_type : ByteArray := prog_3_method_2_code
def yX1_type : MethodName := ⟨RX1, "type", "(II)Z"⟩
abbrev cX1_keep : ByteArray := prog_3_method_3_code
def yX1_keep : MethodName := ⟨RX1, "keep", "(I)V"⟩
abbrev cX1_exchange : ByteArray := prog_3_method_4_code
def yX1_exchange : MethodName := ⟨RX1, "exchange", "(II)V"⟩
abbrev cX1_slipsOf : ByteArray := prog_3_method_5_code
def yX1_slipsOf : MethodName := ⟨RX1, "slipsOf", "(II)I"⟩
abbrev cX1_timeWith : ByteArray := prog_3_method_6_code
def yX1_timeWith : MethodName := ⟨RX1, "timeWith", "(II)I"⟩
abbrev cX1_savedBy : ByteArray := prog_3_method_7_code
def yX1_savedBy : MethodName := ⟨RX1, "savedBy", "(II)I"⟩
abbrev cX1_timeByCounts : ByteArray := prog_3_method_8_code
def yX1_timeByCounts : MethodName := ⟨RX1, "timeByCounts", "([I)I"⟩
abbrev cX1_bestExchange : ByteArray := prog_3_method_9_code
def yX1_bestExchange : MethodName := ⟨RX1, "bestExchange", "()I"⟩
abbrev cX1_slippingLetter : ByteArray := prog_3_method_10_code
def yX1_slippingLetter : MethodName := ⟨RX1, "slippingLetter", "(I)I"⟩
abbrev cX1_lettersAhead : ByteArray := prog_3_method_11_code
def yX1_lettersAhead : MethodName := ⟨RX1, "lettersAhead", "(I)I"⟩
abbrev cX1_letterSlips : ByteArray := prog_3_method_12_code
def yX1_letterSlips : MethodName := ⟨RX1, "letterSlips", "(I)I"⟩
def RX2 : String := "Homekeys"
def TX2 : u_T := fun k => match k with
  | 0 => ("Homekeys", "students", "[LHomekeys$Student;", true)
  | 1 => ("Homekeys", "contests", "[LHomekeys$Contest;", true)
  | 2 => ("Homekeys", "draft", "[I", true)
  | 3 => ("Homekeys", "drafted", "I", false)
  | _ => ("Homekeys", "follows", "[I", true)
def tyX2 : Nat → FieldType := fun k => match k with
  | 0 => .array (.object "Homekeys$Student")
  | 1 => .array (.object "Homekeys$Contest")
  | 2 => .array .int
  | 3 => .int
  | _ => .array .int
abbrev wsX20 : List Cond := u_ws RX2 TX2 5
theorem nmX2 : ∀ a, a < 5 → ∀ b, b < 5 → a ≠ b → (TX2 a).2.1 ≠ (TX2 b).2.1 := by decide +kernel
theorem tyX2_ok : ∀ k, k < 5 → parseFieldDescriptor (TX2 k).2.2.1 = some (tyX2 k) := by decide +kernel
abbrev cX2_init : ByteArray := prog_1_method_1_code
def yX2_init : MethodName := ⟨RX2, "<init>", "()V"⟩
abbrev cX2_student : ByteArray := prog_1_method_2_code
def yX2_student : MethodName := ⟨RX2, "student", "()I"⟩
abbrev cX2_carry : ByteArray := prog_1_method_3_code
def yX2_carry : MethodName := ⟨RX2, "carry", "(II)I"⟩
abbrev cX2_swap : ByteArray := prog_1_method_4_code
def yX2_swap : MethodName := ⟨RX2, "swap", "(III)I"⟩
abbrev cX2_keyOf : ByteArray := prog_1_method_5_code
def yX2_keyOf : MethodName := ⟨RX2, "keyOf", "(II)I"⟩
abbrev cX2_letterOn : ByteArray := prog_1_method_6_code
def yX2_letterOn : MethodName := ⟨RX2, "letterOn", "(II)I"⟩
abbrev cX2_press : ByteArray := prog_1_method_7_code
def yX2_press : MethodName := ⟨RX2, "press", "(III)Z"⟩
abbrev cX2_slips : ByteArray := prog_1_method_8_code
def yX2_slips : MethodName := ⟨RX2, "slips", "(III)I"⟩
abbrev cX2_pair : ByteArray := prog_1_method_9_code
def yX2_pair : MethodName := ⟨RX2, "pair", "(III)I"⟩
abbrev cX2_pressed : ByteArray := prog_1_method_10_code
def yX2_pressed : MethodName := ⟨RX2, "pressed", "(I)I"⟩
abbrev cX2_history : ByteArray := prog_1_method_11_code
def yX2_history : MethodName := ⟨RX2, "history", "(II)I"⟩
abbrev cX2_time : ByteArray := prog_1_method_12_code
def yX2_time : MethodName := ⟨RX2, "time", "(I)I"⟩
abbrev cX2_timeAnew : ByteArray := prog_1_method_13_code
def yX2_timeAnew : MethodName := ⟨RX2, "timeAnew", "(I)I"⟩
abbrev cX2_lesson : ByteArray := prog_1_method_14_code
def yX2_lesson : MethodName := ⟨RX2, "lesson", "(II)I"⟩
abbrev cX2_saves : ByteArray := prog_1_method_15_code
def yX2_saves : MethodName := ⟨RX2, "saves", "(III)I"⟩
abbrev cX2_best : ByteArray := prog_1_method_16_code
def yX2_best : MethodName := ⟨RX2, "best", "(I)I"⟩
abbrev cX2_draft : ByteArray := prog_1_method_17_code
def yX2_draft : MethodName := ⟨RX2, "draft", "(I)I"⟩
abbrev cX2_clear : ByteArray := prog_1_method_18_code
def yX2_clear : MethodName := ⟨RX2, "clear", "()I"⟩
abbrev cX2_contest : ByteArray := prog_1_method_19_code
def yX2_contest : MethodName := ⟨RX2, "contest", "()I"⟩
abbrev cX2_result : ByteArray := prog_1_method_20_code
def yX2_result : MethodName := ⟨RX2, "result", "(III)I"⟩
abbrev cX2_of : ByteArray := prog_1_method_21_code
def yX2_of : MethodName := ⟨RX2, "of", "(III)I"⟩
abbrev cX2_ranked : ByteArray := prog_1_method_22_code
def yX2_ranked : MethodName := ⟨RX2, "ranked", "(II)I"⟩
abbrev cX2_studentAt : ByteArray := prog_1_method_23_code
def yX2_studentAt : MethodName := ⟨RX2, "studentAt", "(I)LHomekeys$Student;"⟩
abbrev cX2_contestAt : ByteArray := prog_1_method_24_code
def yX2_contestAt : MethodName := ⟨RX2, "contestAt", "(I)LHomekeys$Contest;"⟩
abbrev cX2_entrantTime : ByteArray := prog_1_method_25_code
def yX2_entrantTime : MethodName := ⟨RX2, "entrantTime", "(LHomekeys$Contest;I)I"⟩
abbrev cX2_needLetter : ByteArray := prog_1_method_26_code
def yX2_needLetter : MethodName := ⟨RX2, "needLetter", "(I)V"⟩
abbrev cX2_needKey : ByteArray := prog_1_method_27_code
def yX2_needKey : MethodName := ⟨RX2, "needKey", "(I)V"⟩
abbrev cX2_needTwoKeys : ByteArray := prog_1_method_28_code
def yX2_needTwoKeys : MethodName := ⟨RX2, "needTwoKeys", "(II)V"⟩
abbrev cX2_contestOfDraft : ByteArray := prog_1_method_29_code
def yX2_contestOfDraft : MethodName := ⟨RX2, "contestOfDraft", "()LHomekeys$Contest;"⟩
abbrev cX2_at : ByteArray := prog_1_method_30_code
def yX2_at : MethodName := ⟨RX2, "at", "([II)I"⟩
abbrev cX2_put : ByteArray := prog_1_method_31_code
def yX2_put : MethodName := ⟨RX2, "put", "([III)V"⟩
abbrev cX2_count : ByteArray := prog_1_method_32_code
def yX2_count : MethodName := ⟨RX2, "count", "([II)V"⟩
abbrev cX2_pairPlace : ByteArray := prog_1_method_33_code
def yX2_pairPlace : MethodName := ⟨RX2, "pairPlace", "(II)I"⟩
abbrev cX2_fingerOf : ByteArray := prog_1_method_34_code
def yX2_fingerOf : MethodName := ⟨RX2, "fingerOf", "(I)I"⟩
abbrev cX2_handOf : ByteArray := prog_1_method_35_code
def yX2_handOf : MethodName := ⟨RX2, "handOf", "(I)I"⟩
abbrev cX2_rowOf : ByteArray := prog_1_method_36_code
def yX2_rowOf : MethodName := ⟨RX2, "rowOf", "(I)I"⟩
abbrev cX2_stepTime : ByteArray := prog_1_method_37_code
def yX2_stepTime : MethodName := ⟨RX2, "stepTime", "(II)I"⟩
abbrev cX2_textTime : ByteArray := prog_1_method_38_code
def yX2_textTime : MethodName := ⟨RX2, "textTime", "([II[III)I"⟩
abbrev cX2_swapped : ByteArray := prog_1_method_39_code
def yX2_swapped : MethodName := ⟨RX2, "swapped", "(III)I"⟩
abbrev cX2_groups : ByteArray := prog_1_method_40_code
def yX2_groups : MethodName := ⟨RX2, "groups", "(I)I"⟩
abbrev cX2_groupOf : ByteArray := prog_1_method_41_code
def yX2_groupOf : MethodName := ⟨RX2, "groupOf", "(II)I"⟩
def RX3 : String := "HomekeysModel"
def TX3 : u_T := fun k => match k with
  | 0 => ("HomekeysModel", "refusal", "I", false)
  | 1 => ("HomekeysModel", "students", "I", false)
  | 2 => ("HomekeysModel", "keys", "[I", true)
  | 3 => ("HomekeysModel", "letters", "[I", true)
  | 4 => ("HomekeysModel", "way", "[I", true)
  | 5 => ("HomekeysModel", "slips", "[I", true)
  | 6 => ("HomekeysModel", "pairs", "[I", true)
  | 7 => ("HomekeysModel", "pressed", "[I", true)
  | 8 => ("HomekeysModel", "last", "[I", true)
  | 9 => ("HomekeysModel", "kept", "[I", true)
  | 10 => ("HomekeysModel", "history", "[I", true)
  | 11 => ("HomekeysModel", "drafted", "I", false)
  | 12 => ("HomekeysModel", "draft", "[I", true)
  | 13 => ("HomekeysModel", "contests", "I", false)
  | 14 => ("HomekeysModel", "within", "[I", true)
  | 15 => ("HomekeysModel", "texts", "[I", true)
  | _ => ("HomekeysModel", "ticks", "[I", true)
def tyX3 : Nat → FieldType := fun k => match k with
  | 0 => .int
  | 1 => .int
  | 2 => .array .int
  | 3 => .array .int
  | 4 => .array .int
  | 5 => .array .int
  | 6 => .array .int
  | 7 => .array .int
  | 8 => .array .int
  | 9 => .array .int
  | 10 => .array .int
  | 11 => .int
  | 12 => .array .int
  | 13 => .int
  | 14 => .array .int
  | 15 => .array .int
  | _ => .array .int
abbrev wsX30 : List Cond := u_ws RX3 TX3 17
theorem nmX3 : ∀ a, a < 17 → ∀ b, b < 17 → a ≠ b → (TX3 a).2.1 ≠ (TX3 b).2.1 := by decide +kernel
theorem tyX3_ok : ∀ k, k < 17 → parseFieldDescriptor (TX3 k).2.2.1 = some (tyX3 k) := by decide +kernel
abbrev cX3_init : ByteArray := prog_5_method_1_code
def yX3_init : MethodName := ⟨RX3, "<init>", "()V"⟩
abbrev cX3_thrown : ByteArray := prog_5_method_2_code
def yX3_thrown : MethodName := ⟨RX3, "thrown", "()I"⟩
abbrev cX3_refused : ByteArray := prog_5_method_3_code
def yX3_refused : MethodName := ⟨RX3, "refused", "(I)Z"⟩
abbrev cX3_is : ByteArray := prog_5_method_4_code
def yX3_is : MethodName := ⟨RX3, "is", "(III)Z"⟩
abbrev cX3_isStudent : ByteArray := prog_5_method_5_code
def yX3_isStudent : MethodName := ⟨RX3, "isStudent", "(I)Z"⟩
abbrev cX3_isKey : ByteArray := prog_5_method_6_code
def yX3_isKey : MethodName := ⟨RX3, "isKey", "(I)Z"⟩
abbrev cX3_step : ByteArray := prog_5_method_7_code
def yX3_step : MethodName := ⟨RX3, "step", "(II)I"⟩
abbrev cX3_keyWith : ByteArray := prog_5_method_8_code
def yX3_keyWith : MethodName := ⟨RX3, "keyWith", "(IIII)I"⟩
abbrev cX3_timeWith : ByteArray := prog_5_method_9_code
def yX3_timeWith : MethodName := ⟨RX3, "timeWith", "(III)I"⟩
abbrev cX3_saved : ByteArray := prog_5_method_10_code
def yX3_saved : MethodName := ⟨RX3, "saved", "(III)I"⟩
abbrev cX3_student : ByteArray := prog_5_method_11_code
def yX3_student : MethodName := ⟨RX3, "student", "()I"⟩
abbrev cX3_carry : ByteArray := prog_5_method_12_code
def yX3_carry : MethodName := ⟨RX3, "carry", "(II)I"⟩
abbrev cX3_why : ByteArray := prog_5_method_13_code
def yX3_why : MethodName := ⟨RX3, "why", "(III)I"⟩
abbrev cX3_swap : ByteArray := prog_5_method_14_code
def yX3_swap : MethodName := ⟨RX3, "swap", "(III)I"⟩
abbrev cX3_keyOf : ByteArray := prog_5_method_15_code
def yX3_keyOf : MethodName := ⟨RX3, "keyOf", "(II)I"⟩
abbrev cX3_letterOn : ByteArray := prog_5_method_16_code
def yX3_letterOn : MethodName := ⟨RX3, "letterOn", "(II)I"⟩
abbrev cX3_press : ByteArray := prog_5_method_17_code
def yX3_press : MethodName := ⟨RX3, "press", "(III)Z"⟩
abbrev cX3_slips : ByteArray := prog_5_method_18_code
def yX3_slips : MethodName := ⟨RX3, "slips", "(III)I"⟩
abbrev cX3_pair : ByteArray := prog_5_method_19_code
def yX3_pair : MethodName := ⟨RX3, "pair", "(III)I"⟩
abbrev cX3_pressed : ByteArray := prog_5_method_20_code
def yX3_pressed : MethodName := ⟨RX3, "pressed", "(I)I"⟩
abbrev cX3_history : ByteArray := prog_5_method_21_code
def yX3_history : MethodName := ⟨RX3, "history", "(II)I"⟩
abbrev cX3_time : ByteArray := prog_5_method_22_code
def yX3_time : MethodName := ⟨RX3, "time", "(I)I"⟩
abbrev cX3_timeAnew : ByteArray := prog_5_method_23_code
def yX3_timeAnew : MethodName := ⟨RX3, "timeAnew", "(I)I"⟩
abbrev cX3_lesson : ByteArray := prog_5_method_24_code
def yX3_lesson : MethodName := ⟨RX3, "lesson", "(II)I"⟩
abbrev cX3_saves : ByteArray := prog_5_method_25_code
def yX3_saves : MethodName := ⟨RX3, "saves", "(III)I"⟩
abbrev cX3_best : ByteArray := prog_5_method_26_code
def yX3_best : MethodName := ⟨RX3, "best", "(I)I"⟩
abbrev cX3_draft : ByteArray := prog_5_method_27_code
def yX3_draft : MethodName := ⟨RX3, "draft", "(I)I"⟩
abbrev cX3_clear : ByteArray := prog_5_method_28_code
def yX3_clear : MethodName := ⟨RX3, "clear", "()I"⟩
abbrev cX3_contest : ByteArray := prog_5_method_29_code
def yX3_contest : MethodName := ⟨RX3, "contest", "()I"⟩
abbrev cX3_isIn : ByteArray := prog_5_method_30_code
def yX3_isIn : MethodName := ⟨RX3, "isIn", "(II)Z"⟩
abbrev cX3_score : ByteArray := prog_5_method_31_code
def yX3_score : MethodName := ⟨RX3, "score", "(I)I"⟩
abbrev cX3_result : ByteArray := prog_5_method_32_code
def yX3_result : MethodName := ⟨RX3, "result", "(III)I"⟩
abbrev cX3_rank : ByteArray := prog_5_method_33_code
def yX3_rank : MethodName := ⟨RX3, "rank", "(II)I"⟩
abbrev cX3_of : ByteArray := prog_5_method_34_code
def yX3_of : MethodName := ⟨RX3, "of", "(III)I"⟩
abbrev cX3_ranked : ByteArray := prog_5_method_35_code
def yX3_ranked : MethodName := ⟨RX3, "ranked", "(II)I"⟩
def RJx145de : String := "java/io/Serializable"
def TJx145de : u_T := fun k => match k with
  | _ => ("", "", "", false)
def tyJx145de : Nat → FieldType := fun k => match k with
  | _ => .int
abbrev wsJx145de0 : List Cond := u_ws RJx145de TJx145de 0
theorem nmJx145de : ∀ a, a < 0 → ∀ b, b < 0 → a ≠ b → (TJx145de a).2.1 ≠ (TJx145de b).2.1 := by decide +kernel
theorem tyJx145de_ok : ∀ k, k < 0 → parseFieldDescriptor (TJx145de k).2.2.1 = some (tyJx145de k) := by decide +kernel
def RJ9 : String := "java/lang/Math"
def TJ9 : u_T := fun k => match k with
  | _ => ("", "", "", false)
def tyJ9 : Nat → FieldType := fun k => match k with
  | _ => .int
abbrev wsJ90 : List Cond := u_ws RJ9 TJ9 0
theorem nmJ9 : ∀ a, a < 0 → ∀ b, b < 0 → a ≠ b → (TJ9 a).2.1 ≠ (TJ9 b).2.1 := by decide +kernel
theorem tyJ9_ok : ∀ k, k < 0 → parseFieldDescriptor (TJ9 k).2.2.1 = some (tyJ9 k) := by decide +kernel
abbrev cJ9_abs_0f7a4 : ByteArray := prog_10_method_59_code
def yJ9_abs_0f7a4 : MethodName := ⟨RJ9, "abs", "(I)I"⟩
def RJ0 : String := "java/lang/String"
def TJ0 : u_T := fun k => match k with
  | _ => ("", "", "", false)
def tyJ0 : Nat → FieldType := fun k => match k with
  | _ => .int
abbrev wsJ00 : List Cond := u_ws RJ0 TJ0 0
theorem nmJ0 : ∀ a, a < 0 → ∀ b, b < 0 → a ≠ b → (TJ0 a).2.1 ≠ (TJ0 b).2.1 := by decide +kernel
theorem tyJ0_ok : ∀ k, k < 0 → parseFieldDescriptor (TJ0 k).2.2.1 = some (tyJ0 k) := by decide +kernel
def RJ10 : String := "java/lang/System"
def TJ10 : u_T := fun k => match k with
  | _ => ("", "", "", false)
def tyJ10 : Nat → FieldType := fun k => match k with
  | _ => .int
abbrev wsJ100 : List Cond := u_ws RJ10 TJ10 0
theorem nmJ10 : ∀ a, a < 0 → ∀ b, b < 0 → a ≠ b → (TJ10 a).2.1 ≠ (TJ10 b).2.1 := by decide +kernel
theorem tyJ10_ok : ∀ k, k < 0 → parseFieldDescriptor (TJ10 k).2.2.1 = some (tyJ10 k) := by decide +kernel
def RJ7 : String := "java/util/Arrays"
def TJ7 : u_T := fun k => match k with
  | _ => ("", "", "", false)
def tyJ7 : Nat → FieldType := fun k => match k with
  | _ => .int
abbrev wsJ70 : List Cond := u_ws RJ7 TJ7 0
theorem nmJ7 : ∀ a, a < 0 → ∀ b, b < 0 → a ≠ b → (TJ7 a).2.1 ≠ (TJ7 b).2.1 := by decide +kernel
theorem tyJ7_ok : ∀ k, k < 0 → parseFieldDescriptor (TJ7 k).2.2.1 = some (tyJ7 k) := by decide +kernel
abbrev cJ7_fill_53178 : ByteArray := prog_15_method_103_code
def yJ7_fill_53178 : MethodName := ⟨RJ7, "fill", "([II)V"⟩
def RL : String := "HomekeysLaw"
abbrev cL_student : ByteArray := method_3_code
def yL_student : MethodName := ⟨RL, "student", "(LHomekeys;[J)I"⟩
abbrev cL_carry : ByteArray := method_4_code
def yL_carry : MethodName := ⟨RL, "carry", "(LHomekeys;II[J)I"⟩
abbrev cL_swap : ByteArray := method_5_code
def yL_swap : MethodName := ⟨RL, "swap", "(LHomekeys;III[J)I"⟩
abbrev cL_keyOf : ByteArray := method_6_code
def yL_keyOf : MethodName := ⟨RL, "keyOf", "(LHomekeys;II[J)I"⟩
abbrev cL_letterOn : ByteArray := method_7_code
def yL_letterOn : MethodName := ⟨RL, "letterOn", "(LHomekeys;II[J)I"⟩
abbrev cL_press : ByteArray := method_8_code
def yL_press : MethodName := ⟨RL, "press", "(LHomekeys;III[J)I"⟩
abbrev cL_slips : ByteArray := method_9_code
def yL_slips : MethodName := ⟨RL, "slips", "(LHomekeys;III[J)I"⟩
abbrev cL_pair : ByteArray := method_10_code
def yL_pair : MethodName := ⟨RL, "pair", "(LHomekeys;III[J)I"⟩
abbrev cL_pressed : ByteArray := method_11_code
def yL_pressed : MethodName := ⟨RL, "pressed", "(LHomekeys;I[J)I"⟩
abbrev cL_history : ByteArray := method_12_code
def yL_history : MethodName := ⟨RL, "history", "(LHomekeys;II[J)I"⟩
abbrev cL_time : ByteArray := method_13_code
def yL_time : MethodName := ⟨RL, "time", "(LHomekeys;I[J)I"⟩
abbrev cL_timeAnew : ByteArray := method_14_code
def yL_timeAnew : MethodName := ⟨RL, "timeAnew", "(LHomekeys;I[J)I"⟩
abbrev cL_lesson : ByteArray := method_15_code
def yL_lesson : MethodName := ⟨RL, "lesson", "(LHomekeys;II[J)I"⟩
abbrev cL_saves : ByteArray := method_16_code
def yL_saves : MethodName := ⟨RL, "saves", "(LHomekeys;III[J)I"⟩
abbrev cL_best : ByteArray := method_17_code
def yL_best : MethodName := ⟨RL, "best", "(LHomekeys;I[J)I"⟩
abbrev cL_draft : ByteArray := method_18_code
def yL_draft : MethodName := ⟨RL, "draft", "(LHomekeys;I[J)I"⟩
abbrev cL_contest : ByteArray := method_19_code
def yL_contest : MethodName := ⟨RL, "contest", "(LHomekeys;[J)I"⟩
abbrev cL_result : ByteArray := method_20_code
def yL_result : MethodName := ⟨RL, "result", "(LHomekeys;III[J)I"⟩
abbrev cL_of : ByteArray := method_21_code
def yL_of : MethodName := ⟨RL, "of", "(LHomekeys;III[J)I"⟩
abbrev cL_ranked : ByteArray := method_22_code
def yL_ranked : MethodName := ⟨RL, "ranked", "(LHomekeys;II[J)I"⟩
abbrev cL_law : ByteArray := code
def yL_law : MethodName := ⟨RL, "law", "([I)Z"⟩
def wsX0_init : List Cond := .code yX0_init cX0_init 1 none :: ([.methodLink RX0 3 objectInit, .instanceMethod objectInit, .code objectInit ⟨#[0xb1]⟩ 1 none, .arrayClass .int, .fieldLink RX0 9 "Homekeys$Contest" "times" "[I", .fieldLink RX0 15 "Homekeys$Contest" "ticks" "[I", .fieldLink RX0 18 "Homekeys$Contest" "scores" "[I"] ++ wsX00)
def wsX2_at : List Cond := .code yX2_at cX2_at 2 (some .int) :: ([])
def wsX0_hasResult : List Cond := .code yX0_hasResult cX0_hasResult 2 (some .boolean) :: ([.fieldLink RX0 15 "Homekeys$Contest" "ticks" "[I", .static yX2_at, .initialized RX2, .code yX2_at cX2_at 2 (some .int)] ++ wsX00)
def wsX0_rankOf : List Cond := .code yX0_rankOf cX0_rankOf 6 (some .int) :: ([.fieldLink RX0 18 "Homekeys$Contest" "scores" "[I", .static yX2_at, .initialized RX2, .code yX2_at cX2_at 2 (some .int), .methodLink RX0 29 yX0_hasResult, .instanceMethod yX0_hasResult, .selects RX0 yX0_hasResult yX0_hasResult, .initialized RX0, .code yX0_hasResult cX0_hasResult 2 (some .boolean), .fieldLink RX0 15 "Homekeys$Contest" "ticks" "[I"] ++ wsX00)
def wsX0_told : List Cond := .code yX0_told cX0_told 3 (some .int) :: ([.fieldLink RX0 15 "Homekeys$Contest" "ticks" "[I", .fieldLink RX0 18 "Homekeys$Contest" "scores" "[I", .static yX2_at, .initialized RX2, .code yX2_at cX2_at 2 (some .int), .methodLink RX0 25 yX0_rankOf, .instanceMethod yX0_rankOf, .selects RX0 yX0_rankOf yX0_rankOf, .initialized RX0, .code yX0_rankOf cX0_rankOf 6 (some .int), .methodLink RX0 29 yX0_hasResult, .instanceMethod yX0_hasResult, .selects RX0 yX0_hasResult yX0_hasResult, .code yX0_hasResult cX0_hasResult 2 (some .boolean)] ++ wsX00)
def wsX0_holderOf : List Cond := .code yX0_holderOf cX0_holderOf 3 (some .int) :: ([.methodLink RX0 29 yX0_hasResult, .instanceMethod yX0_hasResult, .selects RX0 yX0_hasResult yX0_hasResult, .initialized RX0, .code yX0_hasResult cX0_hasResult 2 (some .boolean), .fieldLink RX0 15 "Homekeys$Contest" "ticks" "[I", .static yX2_at, .initialized RX2, .code yX2_at cX2_at 2 (some .int), .methodLink RX0 25 yX0_rankOf, .instanceMethod yX0_rankOf, .selects RX0 yX0_rankOf yX0_rankOf, .code yX0_rankOf cX0_rankOf 6 (some .int), .fieldLink RX0 18 "Homekeys$Contest" "scores" "[I"] ++ wsX00)
def wsX2_put : List Cond := .code yX2_put cX2_put 3 none :: ([])
def wsX1_init : List Cond := .code yX1_init cX1_init 2 none :: ([.methodLink RX1 3 objectInit, .instanceMethod objectInit, .code objectInit ⟨#[0xb1]⟩ 1 none, .arrayClass .int, .fieldLink RX1 9 "Homekeys$Student" "keys" "[I", .fieldLink RX1 15 "Homekeys$Student" "letters" "[I", .fieldLink RX1 18 "Homekeys$Student" "way" "I", .fieldLink RX1 22 "Homekeys$Student" "keySlips" "[I", .fieldLink RX1 25 "Homekeys$Student" "pairSlips" "[I", .fieldLink RX1 28 "Homekeys$Student" "typed" "[I", .fieldLink RX1 31 "Homekeys$Student" "kept" "I", .fieldLink RX1 34 "Homekeys$Student" "presses" "I", .static yX2_put, .initialized RX2, .code yX2_put cX2_put 3 none] ++ wsX10)
def wsX2_count : List Cond := .code yX2_count cX2_count 2 none :: ([.methodLink RX2 70 yX2_at, .static yX2_at, .initialized RX2, .code yX2_at cX2_at 2 (some .int), .methodLink RX2 131 yX2_put, .static yX2_put, .code yX2_put cX2_put 3 none])
def wsX2_pairPlace : List Cond := .code yX2_pairPlace cX2_pairPlace 2 (some .int) :: ([])
def wsX1_keep : List Cond := .code yX1_keep cX1_keep 2 none :: ([.fieldLink RX1 31 "Homekeys$Student" "kept" "I", .fieldLink RX1 28 "Homekeys$Student" "typed" "[I", .methodLink RX1 57 arraycopyName, .native arraycopyName, .static arraycopyName, .initialized "java/lang/System", .static yX2_put, .initialized RX2, .code yX2_put cX2_put 3 none] ++ wsX10)
def wsX1_type_r1 : List Cond := [Cond.fieldLink RX1 9 "Homekeys$Student" "keys" "[I", Cond.fieldLink RX1 22 "Homekeys$Student" "keySlips" "[I", Cond.fieldLink RX1 31 "Homekeys$Student" "kept" "I", Cond.fieldLink RX1 25 "Homekeys$Student" "pairSlips" "[I", Cond.fieldLink RX1 28 "Homekeys$Student" "typed" "[I", Cond.fieldLink RX1 34 "Homekeys$Student" "presses" "I", Cond.static yX2_at, Cond.initialized RX2, Cond.code yX2_at cX2_at 2 (some .int), Cond.static yX2_count, Cond.code yX2_count cX2_count 2 none, Cond.methodLink RX2 70 yX2_at, Cond.methodLink RX2 131 yX2_put, Cond.static yX2_put, Cond.code yX2_put cX2_put 3 none, Cond.static yX2_pairPlace, Cond.code yX2_pairPlace cX2_pairPlace 2 (some .int), Cond.methodLink RX1 53 yX1_keep, Cond.instanceMethod yX1_keep, Cond.selects RX1 yX1_keep yX1_keep, Cond.initialized RX1, Cond.code yX1_keep cX1_keep 2 none, Cond.methodLink RX1 57 arraycopyName, Cond.native arraycopyName]
def wsX1_type_r2 : List Cond := [Cond.static arraycopyName, Cond.initialized "java/lang/System"]
def wsX1_type : List Cond := .code yX1_type cX1_type 5 (some .boolean) :: ((wsX1_type_r1 ++ wsX1_type_r2) ++ wsX10)
def wsX1_exchange : List Cond := .code yX1_exchange cX1_exchange 6 none :: ([.fieldLink RX1 15 "Homekeys$Student" "letters" "[I", .fieldLink RX1 9 "Homekeys$Student" "keys" "[I", .fieldLink RX1 18 "Homekeys$Student" "way" "I", .fieldLink RX1 22 "Homekeys$Student" "keySlips" "[I", .static yX2_at, .initialized RX2, .code yX2_at cX2_at 2 (some .int), .static yX2_put, .code yX2_put cX2_put 3 none] ++ wsX10)
def wsX2_fingerOf : List Cond := .code yX2_fingerOf cX2_fingerOf 1 (some .int) :: ([])
def wsX2_handOf : List Cond := .code yX2_handOf cX2_handOf 1 (some .int) :: ([])
def wsX2_groupOf : List Cond := .code yX2_groupOf cX2_groupOf 2 (some .int) :: ([.methodLink RX2 198 yX2_fingerOf, .static yX2_fingerOf, .initialized RX2, .code yX2_fingerOf cX2_fingerOf 1 (some .int), .methodLink RX2 209 yX2_handOf, .static yX2_handOf, .code yX2_handOf cX2_handOf 1 (some .int)])
def wsX1_slipsOf : List Cond := .code yX1_slipsOf cX1_slipsOf 5 (some .int) :: ([.fieldLink RX1 22 "Homekeys$Student" "keySlips" "[I", .static yX2_groupOf, .initialized RX2, .code yX2_groupOf cX2_groupOf 2 (some .int), .methodLink RX2 198 yX2_fingerOf, .static yX2_fingerOf, .code yX2_fingerOf cX2_fingerOf 1 (some .int), .methodLink RX2 209 yX2_handOf, .static yX2_handOf, .code yX2_handOf cX2_handOf 1 (some .int), .static yX2_at, .code yX2_at cX2_at 2 (some .int)] ++ wsX10)
def wsX2_swapped : List Cond := .code yX2_swapped cX2_swapped 3 (some .int) :: ([])
def wsX2_rowOf : List Cond := .code yX2_rowOf cX2_rowOf 1 (some .int) :: ([])
def wsX2_stepTime : List Cond := .code yX2_stepTime cX2_stepTime 2 (some .int) :: ([.methodLink RX2 204 Lib.Math.abs.name, .static Lib.Math.abs.name, .initialized "java/lang/Math", .code Lib.Math.abs.name Lib.Math.abs.code 1 (some .int), .methodLink RX2 198 yX2_fingerOf, .static yX2_fingerOf, .initialized RX2, .code yX2_fingerOf cX2_fingerOf 1 (some .int), .methodLink RX2 201 yX2_rowOf, .static yX2_rowOf, .code yX2_rowOf cX2_rowOf 1 (some .int), .methodLink RX2 209 yX2_handOf, .static yX2_handOf, .code yX2_handOf cX2_handOf 1 (some .int)])
def wsX2_textTime : List Cond := .code yX2_textTime cX2_textTime 9 (some .int) :: ([.methodLink RX2 70 yX2_at, .static yX2_at, .initialized RX2, .code yX2_at cX2_at 2 (some .int), .methodLink RX2 212 yX2_swapped, .static yX2_swapped, .code yX2_swapped cX2_swapped 3 (some .int), .methodLink RX2 216 yX2_stepTime, .static yX2_stepTime, .code yX2_stepTime cX2_stepTime 2 (some .int), .methodLink RX2 204 Lib.Math.abs.name, .static Lib.Math.abs.name, .initialized "java/lang/Math", .code Lib.Math.abs.name Lib.Math.abs.code 1 (some .int), .methodLink RX2 198 yX2_fingerOf, .static yX2_fingerOf, .code yX2_fingerOf cX2_fingerOf 1 (some .int), .methodLink RX2 201 yX2_rowOf, .static yX2_rowOf, .code yX2_rowOf cX2_rowOf 1 (some .int), .methodLink RX2 209 yX2_handOf, .static yX2_handOf, .code yX2_handOf cX2_handOf 1 (some .int)])
def wsX1_timeWith_r1 : List Cond := [Cond.fieldLink RX1 28 "Homekeys$Student" "typed" "[I", Cond.fieldLink RX1 31 "Homekeys$Student" "kept" "I", Cond.fieldLink RX1 9 "Homekeys$Student" "keys" "[I", Cond.static yX2_textTime, Cond.initialized RX2, Cond.code yX2_textTime cX2_textTime 9 (some .int), Cond.methodLink RX2 70 yX2_at, Cond.static yX2_at, Cond.code yX2_at cX2_at 2 (some .int), Cond.methodLink RX2 212 yX2_swapped, Cond.static yX2_swapped, Cond.code yX2_swapped cX2_swapped 3 (some .int), Cond.methodLink RX2 216 yX2_stepTime, Cond.static yX2_stepTime, Cond.code yX2_stepTime cX2_stepTime 2 (some .int), Cond.methodLink RX2 204 Lib.Math.abs.name, Cond.static Lib.Math.abs.name, Cond.initialized "java/lang/Math", Cond.code Lib.Math.abs.name Lib.Math.abs.code 1 (some .int), Cond.methodLink RX2 198 yX2_fingerOf, Cond.static yX2_fingerOf, Cond.code yX2_fingerOf cX2_fingerOf 1 (some .int), Cond.methodLink RX2 201 yX2_rowOf, Cond.static yX2_rowOf]
def wsX1_timeWith_r2 : List Cond := [Cond.code yX2_rowOf cX2_rowOf 1 (some .int), Cond.methodLink RX2 209 yX2_handOf, Cond.static yX2_handOf, Cond.code yX2_handOf cX2_handOf 1 (some .int)]
def wsX1_timeWith : List Cond := .code yX1_timeWith cX1_timeWith 3 (some .int) :: ((wsX1_timeWith_r1 ++ wsX1_timeWith_r2) ++ wsX10)
def wsX1_savedBy_r1 : List Cond := [Cond.methodLink RX1 70 yX1_timeWith, Cond.instanceMethod yX1_timeWith, Cond.selects RX1 yX1_timeWith yX1_timeWith, Cond.initialized RX1, Cond.code yX1_timeWith cX1_timeWith 3 (some .int), Cond.fieldLink RX1 28 "Homekeys$Student" "typed" "[I", Cond.fieldLink RX1 31 "Homekeys$Student" "kept" "I", Cond.fieldLink RX1 9 "Homekeys$Student" "keys" "[I", Cond.static yX2_textTime, Cond.initialized RX2, Cond.code yX2_textTime cX2_textTime 9 (some .int), Cond.methodLink RX2 70 yX2_at, Cond.static yX2_at, Cond.code yX2_at cX2_at 2 (some .int), Cond.methodLink RX2 212 yX2_swapped, Cond.static yX2_swapped, Cond.code yX2_swapped cX2_swapped 3 (some .int), Cond.methodLink RX2 216 yX2_stepTime, Cond.static yX2_stepTime, Cond.code yX2_stepTime cX2_stepTime 2 (some .int), Cond.methodLink RX2 204 Lib.Math.abs.name, Cond.static Lib.Math.abs.name, Cond.initialized "java/lang/Math", Cond.code Lib.Math.abs.name Lib.Math.abs.code 1 (some .int)]
def wsX1_savedBy_r2 : List Cond := [Cond.methodLink RX2 198 yX2_fingerOf, Cond.static yX2_fingerOf, Cond.code yX2_fingerOf cX2_fingerOf 1 (some .int), Cond.methodLink RX2 201 yX2_rowOf, Cond.static yX2_rowOf, Cond.code yX2_rowOf cX2_rowOf 1 (some .int), Cond.methodLink RX2 209 yX2_handOf, Cond.static yX2_handOf, Cond.code yX2_handOf cX2_handOf 1 (some .int)]
def wsX1_savedBy : List Cond := .code yX1_savedBy cX1_savedBy 3 (some .int) :: ((wsX1_savedBy_r1 ++ wsX1_savedBy_r2) ++ wsX10)
def wsJ7_fill_53178 : List Cond := .code yJ7_fill_53178 cJ7_fill_53178 4 none :: ([])
def wsX1_timeByCounts_r1 : List Cond := [Cond.fieldLink RX1 31 "Homekeys$Student" "kept" "I", Cond.fieldLink RX1 28 "Homekeys$Student" "typed" "[I", Cond.fieldLink RX1 9 "Homekeys$Student" "keys" "[I", Cond.methodLink RX1 73 yJ7_fill_53178, Cond.static yJ7_fill_53178, Cond.initialized RJ7, Cond.code yJ7_fill_53178 cJ7_fill_53178 4 none, Cond.static yX2_at, Cond.initialized RX2, Cond.code yX2_at cX2_at 2 (some .int), Cond.static yX2_pairPlace, Cond.code yX2_pairPlace cX2_pairPlace 2 (some .int), Cond.static yX2_count, Cond.code yX2_count cX2_count 2 none, Cond.methodLink RX2 70 yX2_at, Cond.methodLink RX2 131 yX2_put, Cond.static yX2_put, Cond.code yX2_put cX2_put 3 none, Cond.static yX2_stepTime, Cond.code yX2_stepTime cX2_stepTime 2 (some .int), Cond.methodLink RX2 204 Lib.Math.abs.name, Cond.static Lib.Math.abs.name, Cond.initialized "java/lang/Math", Cond.code Lib.Math.abs.name Lib.Math.abs.code 1 (some .int)]
def wsX1_timeByCounts_r2 : List Cond := [Cond.methodLink RX2 198 yX2_fingerOf, Cond.static yX2_fingerOf, Cond.code yX2_fingerOf cX2_fingerOf 1 (some .int), Cond.methodLink RX2 201 yX2_rowOf, Cond.static yX2_rowOf, Cond.code yX2_rowOf cX2_rowOf 1 (some .int), Cond.methodLink RX2 209 yX2_handOf, Cond.static yX2_handOf, Cond.code yX2_handOf cX2_handOf 1 (some .int)]
def wsX1_timeByCounts : List Cond := .code yX1_timeByCounts cX1_timeByCounts 6 (some .int) :: ((wsX1_timeByCounts_r1 ++ wsX1_timeByCounts_r2) ++ wsX10)
def wsX1_bestExchange_r1 : List Cond := [Cond.methodLink RX1 70 yX1_timeWith, Cond.instanceMethod yX1_timeWith, Cond.selects RX1 yX1_timeWith yX1_timeWith, Cond.initialized RX1, Cond.code yX1_timeWith cX1_timeWith 3 (some .int), Cond.fieldLink RX1 28 "Homekeys$Student" "typed" "[I", Cond.fieldLink RX1 31 "Homekeys$Student" "kept" "I", Cond.fieldLink RX1 9 "Homekeys$Student" "keys" "[I", Cond.static yX2_textTime, Cond.initialized RX2, Cond.code yX2_textTime cX2_textTime 9 (some .int), Cond.methodLink RX2 70 yX2_at, Cond.static yX2_at, Cond.code yX2_at cX2_at 2 (some .int), Cond.methodLink RX2 212 yX2_swapped, Cond.static yX2_swapped, Cond.code yX2_swapped cX2_swapped 3 (some .int), Cond.methodLink RX2 216 yX2_stepTime, Cond.static yX2_stepTime, Cond.code yX2_stepTime cX2_stepTime 2 (some .int), Cond.methodLink RX2 204 Lib.Math.abs.name, Cond.static Lib.Math.abs.name, Cond.initialized "java/lang/Math", Cond.code Lib.Math.abs.name Lib.Math.abs.code 1 (some .int)]
def wsX1_bestExchange_r2 : List Cond := [Cond.methodLink RX2 198 yX2_fingerOf, Cond.static yX2_fingerOf, Cond.code yX2_fingerOf cX2_fingerOf 1 (some .int), Cond.methodLink RX2 201 yX2_rowOf, Cond.static yX2_rowOf, Cond.code yX2_rowOf cX2_rowOf 1 (some .int), Cond.methodLink RX2 209 yX2_handOf, Cond.static yX2_handOf, Cond.code yX2_handOf cX2_handOf 1 (some .int)]
def wsX1_bestExchange : List Cond := .code yX1_bestExchange cX1_bestExchange 7 (some .int) :: ((wsX1_bestExchange_r1 ++ wsX1_bestExchange_r2) ++ wsX10)
def wsX1_letterSlips : List Cond := .code yX1_letterSlips cX1_letterSlips 2 (some .int) :: ([.fieldLink RX1 22 "Homekeys$Student" "keySlips" "[I", .fieldLink RX1 9 "Homekeys$Student" "keys" "[I", .static yX2_at, .initialized RX2, .code yX2_at cX2_at 2 (some .int)] ++ wsX10)
def wsX1_lettersAhead : List Cond := .code yX1_lettersAhead cX1_lettersAhead 6 (some .int) :: ([.methodLink RX1 85 yX1_letterSlips, .instanceMethod yX1_letterSlips, .selects RX1 yX1_letterSlips yX1_letterSlips, .initialized RX1, .code yX1_letterSlips cX1_letterSlips 2 (some .int), .fieldLink RX1 22 "Homekeys$Student" "keySlips" "[I", .fieldLink RX1 9 "Homekeys$Student" "keys" "[I", .static yX2_at, .initialized RX2, .code yX2_at cX2_at 2 (some .int)] ++ wsX10)
def wsX1_slippingLetter : List Cond := .code yX1_slippingLetter cX1_slippingLetter 4 (some .int) :: ([.methodLink RX1 81 yX1_lettersAhead, .instanceMethod yX1_lettersAhead, .selects RX1 yX1_lettersAhead yX1_lettersAhead, .initialized RX1, .code yX1_lettersAhead cX1_lettersAhead 6 (some .int), .methodLink RX1 85 yX1_letterSlips, .instanceMethod yX1_letterSlips, .selects RX1 yX1_letterSlips yX1_letterSlips, .code yX1_letterSlips cX1_letterSlips 2 (some .int), .fieldLink RX1 22 "Homekeys$Student" "keySlips" "[I", .fieldLink RX1 9 "Homekeys$Student" "keys" "[I", .static yX2_at, .initialized RX2, .code yX2_at cX2_at 2 (some .int)] ++ wsX10)
def wsX2_init : List Cond := .code yX2_init cX2_init 1 none :: ([.methodLink RX2 1 objectInit, .instanceMethod objectInit, .code objectInit ⟨#[0xb1]⟩ 1 none, .classLink RX2 9 RX1, .fieldLink RX2 11 "Homekeys" "students" "[LHomekeys$Student;", .classLink RX2 15 RX0, .fieldLink RX2 17 "Homekeys" "contests" "[LHomekeys$Contest;", .arrayClass .int, .fieldLink RX2 21 "Homekeys" "draft" "[I", .fieldLink RX2 25 "Homekeys" "drafted" "I", .fieldLink RX2 29 "Homekeys" "follows" "[I"] ++ wsX20)
def wsX2_student : List Cond := .code yX2_student cX2_student 2 (some .int) :: ([.classLink RX2 33 "java/lang/IllegalStateException", .initialized "java/lang/IllegalStateException", .fieldLink RX2 11 "Homekeys" "students" "[LHomekeys$Student;", .classLink RX2 9 RX1, .instantiable RX1 8, .initialized RX1, .instanceMethod yX1_init, .code yX1_init cX1_init 2 none, .methodLink RX1 3 objectInit, .instanceMethod objectInit, .code objectInit ⟨#[0xb1]⟩ 1 none, .arrayClass .int, .fieldLink RX1 9 "Homekeys$Student" "keys" "[I", .fieldLink RX1 15 "Homekeys$Student" "letters" "[I", .fieldLink RX1 18 "Homekeys$Student" "way" "I", .fieldLink RX1 22 "Homekeys$Student" "keySlips" "[I", .fieldLink RX1 25 "Homekeys$Student" "pairSlips" "[I", .fieldLink RX1 28 "Homekeys$Student" "typed" "[I", .fieldLink RX1 31 "Homekeys$Student" "kept" "I", .fieldLink RX1 34 "Homekeys$Student" "presses" "I", .static yX2_put, .initialized RX2, .code yX2_put cX2_put 3 none] ++ wsX20 ++ wsX10 ++ (vx_atS RX2 37 "java/lang/IllegalStateException" ["java/lang/RuntimeException", "java/lang/Exception"]).filter goodWord)
def wsX2_studentAt : List Cond := .code yX2_studentAt cX2_studentAt 3 (some (.object "Homekeys$Student")) :: ([.classLink RX2 102 "java/lang/IndexOutOfBoundsException", .initialized "java/lang/IndexOutOfBoundsException", .fieldLink RX2 11 "Homekeys" "students" "[LHomekeys$Student;"] ++ wsX20 ++ (vx_atS RX2 106 "java/lang/IndexOutOfBoundsException" ["java/lang/RuntimeException", "java/lang/Exception"]).filter goodWord)
def wsX2_carry : List Cond := .code yX2_carry cX2_carry 5 (some .int) :: ([.classLink RX2 44 "java/lang/IllegalArgumentException", .initialized "java/lang/IllegalArgumentException", .methodLink RX2 40 yX2_studentAt, .instanceMethod yX2_studentAt, .selects RX2 yX2_studentAt yX2_studentAt, .initialized RX2, .code yX2_studentAt cX2_studentAt 3 (some (.object "Homekeys$Student")), .classLink RX2 102 "java/lang/IndexOutOfBoundsException", .initialized "java/lang/IndexOutOfBoundsException", .fieldLink RX2 11 "Homekeys" "students" "[LHomekeys$Student;"] ++ wsX10 ++ wsX20 ++ (vx_atS RX2 48 "java/lang/IllegalArgumentException" ["java/lang/RuntimeException", "java/lang/Exception"]).filter goodWord ++ (vx_atS RX2 106 "java/lang/IndexOutOfBoundsException" ["java/lang/RuntimeException", "java/lang/Exception"]).filter goodWord)
def wsX2_needKey : List Cond := .code yX2_needKey cX2_needKey 1 none :: ([.classLink RX2 102 "java/lang/IndexOutOfBoundsException", .initialized "java/lang/IndexOutOfBoundsException"] ++ (vx_atS RX2 106 "java/lang/IndexOutOfBoundsException" ["java/lang/RuntimeException", "java/lang/Exception"]).filter goodWord)
def wsX2_needTwoKeys : List Cond := .code yX2_needTwoKeys cX2_needTwoKeys 2 none :: ([.classLink RX2 44 "java/lang/IllegalArgumentException", .initialized "java/lang/IllegalArgumentException", .methodLink RX2 74 yX2_needKey, .static yX2_needKey, .initialized RX2, .code yX2_needKey cX2_needKey 1 none, .classLink RX2 102 "java/lang/IndexOutOfBoundsException", .initialized "java/lang/IndexOutOfBoundsException"] ++ (vx_atS RX2 48 "java/lang/IllegalArgumentException" ["java/lang/RuntimeException", "java/lang/Exception"]).filter goodWord ++ (vx_atS RX2 106 "java/lang/IndexOutOfBoundsException" ["java/lang/RuntimeException", "java/lang/Exception"]).filter goodWord)
def wsX2_swap_r1 : List Cond := [Cond.methodLink RX2 40 yX2_studentAt, Cond.instanceMethod yX2_studentAt, Cond.selects RX2 yX2_studentAt yX2_studentAt, Cond.initialized RX2, Cond.code yX2_studentAt cX2_studentAt 3 (some (.object "Homekeys$Student")), Cond.classLink RX2 102 "java/lang/IndexOutOfBoundsException", Cond.initialized "java/lang/IndexOutOfBoundsException", Cond.fieldLink RX2 11 "Homekeys" "students" "[LHomekeys$Student;", Cond.methodLink RX2 52 yX2_needTwoKeys, Cond.static yX2_needTwoKeys, Cond.code yX2_needTwoKeys cX2_needTwoKeys 2 none, Cond.classLink RX2 44 "java/lang/IllegalArgumentException", Cond.initialized "java/lang/IllegalArgumentException", Cond.methodLink RX2 74 yX2_needKey, Cond.static yX2_needKey, Cond.code yX2_needKey cX2_needKey 1 none, Cond.instanceMethod yX1_savedBy, Cond.initialized RX1, Cond.selects RX1 yX1_savedBy yX1_savedBy, Cond.code yX1_savedBy cX1_savedBy 3 (some .int), Cond.methodLink RX1 70 yX1_timeWith, Cond.instanceMethod yX1_timeWith, Cond.selects RX1 yX1_timeWith yX1_timeWith, Cond.code yX1_timeWith cX1_timeWith 3 (some .int)]
def wsX2_swap_r2 : List Cond := [Cond.fieldLink RX1 28 "Homekeys$Student" "typed" "[I", Cond.fieldLink RX1 31 "Homekeys$Student" "kept" "I", Cond.fieldLink RX1 9 "Homekeys$Student" "keys" "[I", Cond.static yX2_textTime, Cond.code yX2_textTime cX2_textTime 9 (some .int), Cond.methodLink RX2 70 yX2_at, Cond.static yX2_at, Cond.code yX2_at cX2_at 2 (some .int), Cond.methodLink RX2 212 yX2_swapped, Cond.static yX2_swapped, Cond.code yX2_swapped cX2_swapped 3 (some .int), Cond.methodLink RX2 216 yX2_stepTime, Cond.static yX2_stepTime, Cond.code yX2_stepTime cX2_stepTime 2 (some .int), Cond.methodLink RX2 204 Lib.Math.abs.name, Cond.static Lib.Math.abs.name, Cond.initialized "java/lang/Math", Cond.code Lib.Math.abs.name Lib.Math.abs.code 1 (some .int), Cond.methodLink RX2 198 yX2_fingerOf, Cond.static yX2_fingerOf, Cond.code yX2_fingerOf cX2_fingerOf 1 (some .int), Cond.methodLink RX2 201 yX2_rowOf, Cond.static yX2_rowOf, Cond.code yX2_rowOf cX2_rowOf 1 (some .int)]
def wsX2_swap_r3 : List Cond := [Cond.methodLink RX2 209 yX2_handOf, Cond.static yX2_handOf, Cond.code yX2_handOf cX2_handOf 1 (some .int), Cond.instanceMethod yX1_exchange, Cond.selects RX1 yX1_exchange yX1_exchange, Cond.code yX1_exchange cX1_exchange 6 none, Cond.fieldLink RX1 15 "Homekeys$Student" "letters" "[I", Cond.fieldLink RX1 18 "Homekeys$Student" "way" "I", Cond.fieldLink RX1 22 "Homekeys$Student" "keySlips" "[I", Cond.static yX2_put, Cond.code yX2_put cX2_put 3 none]
def wsX2_swap : List Cond := .code yX2_swap cX2_swap 6 (some .int) :: ((wsX2_swap_r1 ++ (wsX2_swap_r2 ++ wsX2_swap_r3)) ++ wsX20 ++ wsX10 ++ (vx_atS RX2 106 "java/lang/IndexOutOfBoundsException" ["java/lang/RuntimeException", "java/lang/Exception"]).filter goodWord ++ (vx_atS RX2 48 "java/lang/IllegalArgumentException" ["java/lang/RuntimeException", "java/lang/Exception"]).filter goodWord)
def wsX2_needLetter : List Cond := .code yX2_needLetter cX2_needLetter 1 none :: ([.classLink RX2 102 "java/lang/IndexOutOfBoundsException", .initialized "java/lang/IndexOutOfBoundsException"] ++ (vx_atS RX2 106 "java/lang/IndexOutOfBoundsException" ["java/lang/RuntimeException", "java/lang/Exception"]).filter goodWord)
def wsX2_keyOf : List Cond := .code yX2_keyOf cX2_keyOf 4 (some .int) :: ([.methodLink RX2 40 yX2_studentAt, .instanceMethod yX2_studentAt, .selects RX2 yX2_studentAt yX2_studentAt, .initialized RX2, .code yX2_studentAt cX2_studentAt 3 (some (.object "Homekeys$Student")), .classLink RX2 102 "java/lang/IndexOutOfBoundsException", .initialized "java/lang/IndexOutOfBoundsException", .fieldLink RX2 11 "Homekeys" "students" "[LHomekeys$Student;", .methodLink RX2 63 yX2_needLetter, .static yX2_needLetter, .code yX2_needLetter cX2_needLetter 1 none, .methodLink RX2 70 yX2_at, .static yX2_at, .code yX2_at cX2_at 2 (some .int)] ++ wsX10 ++ wsX20 ++ (vx_atS RX2 106 "java/lang/IndexOutOfBoundsException" ["java/lang/RuntimeException", "java/lang/Exception"]).filter goodWord)
def wsX2_letterOn : List Cond := .code yX2_letterOn cX2_letterOn 4 (some .int) :: ([.methodLink RX2 40 yX2_studentAt, .instanceMethod yX2_studentAt, .selects RX2 yX2_studentAt yX2_studentAt, .initialized RX2, .code yX2_studentAt cX2_studentAt 3 (some (.object "Homekeys$Student")), .classLink RX2 102 "java/lang/IndexOutOfBoundsException", .initialized "java/lang/IndexOutOfBoundsException", .fieldLink RX2 11 "Homekeys" "students" "[LHomekeys$Student;", .methodLink RX2 74 yX2_needKey, .static yX2_needKey, .code yX2_needKey cX2_needKey 1 none, .methodLink RX2 70 yX2_at, .static yX2_at, .code yX2_at cX2_at 2 (some .int)] ++ wsX10 ++ wsX20 ++ (vx_atS RX2 106 "java/lang/IndexOutOfBoundsException" ["java/lang/RuntimeException", "java/lang/Exception"]).filter goodWord)
def wsX2_press_r1 : List Cond := [Cond.methodLink RX2 40 yX2_studentAt, Cond.instanceMethod yX2_studentAt, Cond.selects RX2 yX2_studentAt yX2_studentAt, Cond.initialized RX2, Cond.code yX2_studentAt cX2_studentAt 3 (some (.object "Homekeys$Student")), Cond.classLink RX2 102 "java/lang/IndexOutOfBoundsException", Cond.initialized "java/lang/IndexOutOfBoundsException", Cond.fieldLink RX2 11 "Homekeys" "students" "[LHomekeys$Student;", Cond.methodLink RX2 63 yX2_needLetter, Cond.static yX2_needLetter, Cond.code yX2_needLetter cX2_needLetter 1 none, Cond.methodLink RX2 74 yX2_needKey, Cond.static yX2_needKey, Cond.code yX2_needKey cX2_needKey 1 none, Cond.instanceMethod yX1_type, Cond.initialized RX1, Cond.selects RX1 yX1_type yX1_type, Cond.code yX1_type cX1_type 5 (some .boolean), Cond.fieldLink RX1 9 "Homekeys$Student" "keys" "[I", Cond.fieldLink RX1 22 "Homekeys$Student" "keySlips" "[I", Cond.fieldLink RX1 31 "Homekeys$Student" "kept" "I", Cond.fieldLink RX1 25 "Homekeys$Student" "pairSlips" "[I", Cond.fieldLink RX1 28 "Homekeys$Student" "typed" "[I", Cond.fieldLink RX1 34 "Homekeys$Student" "presses" "I"]
def wsX2_press_r2 : List Cond := [Cond.static yX2_at, Cond.code yX2_at cX2_at 2 (some .int), Cond.static yX2_count, Cond.code yX2_count cX2_count 2 none, Cond.methodLink RX2 70 yX2_at, Cond.methodLink RX2 131 yX2_put, Cond.static yX2_put, Cond.code yX2_put cX2_put 3 none, Cond.static yX2_pairPlace, Cond.code yX2_pairPlace cX2_pairPlace 2 (some .int), Cond.methodLink RX1 53 yX1_keep, Cond.instanceMethod yX1_keep, Cond.selects RX1 yX1_keep yX1_keep, Cond.code yX1_keep cX1_keep 2 none, Cond.methodLink RX1 57 arraycopyName, Cond.native arraycopyName, Cond.static arraycopyName, Cond.initialized "java/lang/System"]
def wsX2_press : List Cond := .code yX2_press cX2_press 5 (some .boolean) :: ((wsX2_press_r1 ++ wsX2_press_r2) ++ wsX20 ++ wsX10 ++ (vx_atS RX2 106 "java/lang/IndexOutOfBoundsException" ["java/lang/RuntimeException", "java/lang/Exception"]).filter goodWord)
def wsX2_groups : List Cond := .code yX2_groups cX2_groups 1 (some .int) :: ([])
def wsX2_slips_r1 : List Cond := [Cond.classLink RX2 44 "java/lang/IllegalArgumentException", Cond.initialized "java/lang/IllegalArgumentException", Cond.methodLink RX2 40 yX2_studentAt, Cond.instanceMethod yX2_studentAt, Cond.selects RX2 yX2_studentAt yX2_studentAt, Cond.initialized RX2, Cond.code yX2_studentAt cX2_studentAt 3 (some (.object "Homekeys$Student")), Cond.classLink RX2 102 "java/lang/IndexOutOfBoundsException", Cond.initialized "java/lang/IndexOutOfBoundsException", Cond.fieldLink RX2 11 "Homekeys" "students" "[LHomekeys$Student;", Cond.methodLink RX2 84 yX2_groups, Cond.static yX2_groups, Cond.code yX2_groups cX2_groups 1 (some .int), Cond.instanceMethod yX1_slipsOf, Cond.initialized RX1, Cond.selects RX1 yX1_slipsOf yX1_slipsOf, Cond.code yX1_slipsOf cX1_slipsOf 5 (some .int), Cond.fieldLink RX1 22 "Homekeys$Student" "keySlips" "[I", Cond.static yX2_groupOf, Cond.code yX2_groupOf cX2_groupOf 2 (some .int), Cond.methodLink RX2 198 yX2_fingerOf, Cond.static yX2_fingerOf, Cond.code yX2_fingerOf cX2_fingerOf 1 (some .int), Cond.methodLink RX2 209 yX2_handOf]
def wsX2_slips_r2 : List Cond := [Cond.static yX2_handOf, Cond.code yX2_handOf cX2_handOf 1 (some .int), Cond.static yX2_at, Cond.code yX2_at cX2_at 2 (some .int)]
def wsX2_slips : List Cond := .code yX2_slips cX2_slips 5 (some .int) :: ((wsX2_slips_r1 ++ wsX2_slips_r2) ++ wsX20 ++ wsX10 ++ (vx_atS RX2 48 "java/lang/IllegalArgumentException" ["java/lang/RuntimeException", "java/lang/Exception"]).filter goodWord ++ (vx_atS RX2 106 "java/lang/IndexOutOfBoundsException" ["java/lang/RuntimeException", "java/lang/Exception"]).filter goodWord)
def wsX2_pair : List Cond := .code yX2_pair cX2_pair 5 (some .int) :: ([.methodLink RX2 40 yX2_studentAt, .instanceMethod yX2_studentAt, .selects RX2 yX2_studentAt yX2_studentAt, .initialized RX2, .code yX2_studentAt cX2_studentAt 3 (some (.object "Homekeys$Student")), .classLink RX2 102 "java/lang/IndexOutOfBoundsException", .initialized "java/lang/IndexOutOfBoundsException", .fieldLink RX2 11 "Homekeys" "students" "[LHomekeys$Student;", .methodLink RX2 63 yX2_needLetter, .static yX2_needLetter, .code yX2_needLetter cX2_needLetter 1 none, .methodLink RX2 96 yX2_pairPlace, .static yX2_pairPlace, .code yX2_pairPlace cX2_pairPlace 2 (some .int), .methodLink RX2 70 yX2_at, .static yX2_at, .code yX2_at cX2_at 2 (some .int)] ++ wsX10 ++ wsX20 ++ (vx_atS RX2 106 "java/lang/IndexOutOfBoundsException" ["java/lang/RuntimeException", "java/lang/Exception"]).filter goodWord)
def wsX2_pressed : List Cond := .code yX2_pressed cX2_pressed 2 (some .int) :: ([.methodLink RX2 40 yX2_studentAt, .instanceMethod yX2_studentAt, .selects RX2 yX2_studentAt yX2_studentAt, .initialized RX2, .code yX2_studentAt cX2_studentAt 3 (some (.object "Homekeys$Student")), .classLink RX2 102 "java/lang/IndexOutOfBoundsException", .initialized "java/lang/IndexOutOfBoundsException", .fieldLink RX2 11 "Homekeys" "students" "[LHomekeys$Student;"] ++ wsX10 ++ wsX20 ++ (vx_atS RX2 106 "java/lang/IndexOutOfBoundsException" ["java/lang/RuntimeException", "java/lang/Exception"]).filter goodWord)
def wsX2_history : List Cond := .code yX2_history cX2_history 4 (some .int) :: ([.classLink RX2 102 "java/lang/IndexOutOfBoundsException", .initialized "java/lang/IndexOutOfBoundsException", .methodLink RX2 40 yX2_studentAt, .instanceMethod yX2_studentAt, .selects RX2 yX2_studentAt yX2_studentAt, .initialized RX2, .code yX2_studentAt cX2_studentAt 3 (some (.object "Homekeys$Student")), .fieldLink RX2 11 "Homekeys" "students" "[LHomekeys$Student;", .methodLink RX2 70 yX2_at, .static yX2_at, .code yX2_at cX2_at 2 (some .int)] ++ wsX10 ++ wsX20 ++ (vx_atS RX2 106 "java/lang/IndexOutOfBoundsException" ["java/lang/RuntimeException", "java/lang/Exception"]).filter goodWord)
def wsX2_time_r1 : List Cond := [Cond.methodLink RX2 40 yX2_studentAt, Cond.instanceMethod yX2_studentAt, Cond.selects RX2 yX2_studentAt yX2_studentAt, Cond.initialized RX2, Cond.code yX2_studentAt cX2_studentAt 3 (some (.object "Homekeys$Student")), Cond.classLink RX2 102 "java/lang/IndexOutOfBoundsException", Cond.initialized "java/lang/IndexOutOfBoundsException", Cond.fieldLink RX2 11 "Homekeys" "students" "[LHomekeys$Student;", Cond.instanceMethod yX1_timeWith, Cond.initialized RX1, Cond.selects RX1 yX1_timeWith yX1_timeWith, Cond.code yX1_timeWith cX1_timeWith 3 (some .int), Cond.fieldLink RX1 28 "Homekeys$Student" "typed" "[I", Cond.fieldLink RX1 31 "Homekeys$Student" "kept" "I", Cond.fieldLink RX1 9 "Homekeys$Student" "keys" "[I", Cond.static yX2_textTime, Cond.code yX2_textTime cX2_textTime 9 (some .int), Cond.methodLink RX2 70 yX2_at, Cond.static yX2_at, Cond.code yX2_at cX2_at 2 (some .int), Cond.methodLink RX2 212 yX2_swapped, Cond.static yX2_swapped, Cond.code yX2_swapped cX2_swapped 3 (some .int), Cond.methodLink RX2 216 yX2_stepTime]
def wsX2_time_r2 : List Cond := [Cond.static yX2_stepTime, Cond.code yX2_stepTime cX2_stepTime 2 (some .int), Cond.methodLink RX2 204 Lib.Math.abs.name, Cond.static Lib.Math.abs.name, Cond.initialized "java/lang/Math", Cond.code Lib.Math.abs.name Lib.Math.abs.code 1 (some .int), Cond.methodLink RX2 198 yX2_fingerOf, Cond.static yX2_fingerOf, Cond.code yX2_fingerOf cX2_fingerOf 1 (some .int), Cond.methodLink RX2 201 yX2_rowOf, Cond.static yX2_rowOf, Cond.code yX2_rowOf cX2_rowOf 1 (some .int), Cond.methodLink RX2 209 yX2_handOf, Cond.static yX2_handOf, Cond.code yX2_handOf cX2_handOf 1 (some .int)]
def wsX2_time : List Cond := .code yX2_time cX2_time 2 (some .int) :: ((wsX2_time_r1 ++ wsX2_time_r2) ++ wsX20 ++ wsX10 ++ (vx_atS RX2 106 "java/lang/IndexOutOfBoundsException" ["java/lang/RuntimeException", "java/lang/Exception"]).filter goodWord)
def wsX2_timeAnew_r1 : List Cond := [Cond.fieldLink RX2 29 "Homekeys" "follows" "[I", Cond.methodLink RX2 40 yX2_studentAt, Cond.instanceMethod yX2_studentAt, Cond.selects RX2 yX2_studentAt yX2_studentAt, Cond.initialized RX2, Cond.code yX2_studentAt cX2_studentAt 3 (some (.object "Homekeys$Student")), Cond.classLink RX2 102 "java/lang/IndexOutOfBoundsException", Cond.initialized "java/lang/IndexOutOfBoundsException", Cond.fieldLink RX2 11 "Homekeys" "students" "[LHomekeys$Student;", Cond.instanceMethod yX1_timeByCounts, Cond.initialized RX1, Cond.selects RX1 yX1_timeByCounts yX1_timeByCounts, Cond.code yX1_timeByCounts cX1_timeByCounts 6 (some .int), Cond.fieldLink RX1 31 "Homekeys$Student" "kept" "I", Cond.fieldLink RX1 28 "Homekeys$Student" "typed" "[I", Cond.fieldLink RX1 9 "Homekeys$Student" "keys" "[I", Cond.methodLink RX1 73 yJ7_fill_53178, Cond.static yJ7_fill_53178, Cond.initialized RJ7, Cond.code yJ7_fill_53178 cJ7_fill_53178 4 none, Cond.static yX2_at, Cond.code yX2_at cX2_at 2 (some .int), Cond.static yX2_pairPlace, Cond.code yX2_pairPlace cX2_pairPlace 2 (some .int)]
def wsX2_timeAnew_r2 : List Cond := [Cond.static yX2_count, Cond.code yX2_count cX2_count 2 none, Cond.methodLink RX2 70 yX2_at, Cond.methodLink RX2 131 yX2_put, Cond.static yX2_put, Cond.code yX2_put cX2_put 3 none, Cond.static yX2_stepTime, Cond.code yX2_stepTime cX2_stepTime 2 (some .int), Cond.methodLink RX2 204 Lib.Math.abs.name, Cond.static Lib.Math.abs.name, Cond.initialized "java/lang/Math", Cond.code Lib.Math.abs.name Lib.Math.abs.code 1 (some .int), Cond.methodLink RX2 198 yX2_fingerOf, Cond.static yX2_fingerOf, Cond.code yX2_fingerOf cX2_fingerOf 1 (some .int), Cond.methodLink RX2 201 yX2_rowOf, Cond.static yX2_rowOf, Cond.code yX2_rowOf cX2_rowOf 1 (some .int), Cond.methodLink RX2 209 yX2_handOf, Cond.static yX2_handOf, Cond.code yX2_handOf cX2_handOf 1 (some .int)]
def wsX2_timeAnew : List Cond := .code yX2_timeAnew cX2_timeAnew 2 (some .int) :: ((wsX2_timeAnew_r1 ++ wsX2_timeAnew_r2) ++ wsX20 ++ wsX10 ++ (vx_atS RX2 106 "java/lang/IndexOutOfBoundsException" ["java/lang/RuntimeException", "java/lang/Exception"]).filter goodWord)
def wsX2_lesson : List Cond := .code yX2_lesson cX2_lesson 4 (some .int) :: ([.classLink RX2 102 "java/lang/IndexOutOfBoundsException", .initialized "java/lang/IndexOutOfBoundsException", .methodLink RX2 40 yX2_studentAt, .instanceMethod yX2_studentAt, .selects RX2 yX2_studentAt yX2_studentAt, .initialized RX2, .code yX2_studentAt cX2_studentAt 3 (some (.object "Homekeys$Student")), .fieldLink RX2 11 "Homekeys" "students" "[LHomekeys$Student;", .instanceMethod yX1_slippingLetter, .initialized RX1, .selects RX1 yX1_slippingLetter yX1_slippingLetter, .code yX1_slippingLetter cX1_slippingLetter 4 (some .int), .methodLink RX1 81 yX1_lettersAhead, .instanceMethod yX1_lettersAhead, .selects RX1 yX1_lettersAhead yX1_lettersAhead, .code yX1_lettersAhead cX1_lettersAhead 6 (some .int), .methodLink RX1 85 yX1_letterSlips, .instanceMethod yX1_letterSlips, .selects RX1 yX1_letterSlips yX1_letterSlips, .code yX1_letterSlips cX1_letterSlips 2 (some .int), .fieldLink RX1 22 "Homekeys$Student" "keySlips" "[I", .fieldLink RX1 9 "Homekeys$Student" "keys" "[I", .static yX2_at, .code yX2_at cX2_at 2 (some .int)] ++ wsX20 ++ wsX10 ++ (vx_atS RX2 106 "java/lang/IndexOutOfBoundsException" ["java/lang/RuntimeException", "java/lang/Exception"]).filter goodWord)
def wsX2_saves_r1 : List Cond := [Cond.methodLink RX2 40 yX2_studentAt, Cond.instanceMethod yX2_studentAt, Cond.selects RX2 yX2_studentAt yX2_studentAt, Cond.initialized RX2, Cond.code yX2_studentAt cX2_studentAt 3 (some (.object "Homekeys$Student")), Cond.classLink RX2 102 "java/lang/IndexOutOfBoundsException", Cond.initialized "java/lang/IndexOutOfBoundsException", Cond.fieldLink RX2 11 "Homekeys" "students" "[LHomekeys$Student;", Cond.methodLink RX2 52 yX2_needTwoKeys, Cond.static yX2_needTwoKeys, Cond.code yX2_needTwoKeys cX2_needTwoKeys 2 none, Cond.classLink RX2 44 "java/lang/IllegalArgumentException", Cond.initialized "java/lang/IllegalArgumentException", Cond.methodLink RX2 74 yX2_needKey, Cond.static yX2_needKey, Cond.code yX2_needKey cX2_needKey 1 none, Cond.instanceMethod yX1_savedBy, Cond.initialized RX1, Cond.selects RX1 yX1_savedBy yX1_savedBy, Cond.code yX1_savedBy cX1_savedBy 3 (some .int), Cond.methodLink RX1 70 yX1_timeWith, Cond.instanceMethod yX1_timeWith, Cond.selects RX1 yX1_timeWith yX1_timeWith, Cond.code yX1_timeWith cX1_timeWith 3 (some .int)]
def wsX2_saves_r2 : List Cond := [Cond.fieldLink RX1 28 "Homekeys$Student" "typed" "[I", Cond.fieldLink RX1 31 "Homekeys$Student" "kept" "I", Cond.fieldLink RX1 9 "Homekeys$Student" "keys" "[I", Cond.static yX2_textTime, Cond.code yX2_textTime cX2_textTime 9 (some .int), Cond.methodLink RX2 70 yX2_at, Cond.static yX2_at, Cond.code yX2_at cX2_at 2 (some .int), Cond.methodLink RX2 212 yX2_swapped, Cond.static yX2_swapped, Cond.code yX2_swapped cX2_swapped 3 (some .int), Cond.methodLink RX2 216 yX2_stepTime, Cond.static yX2_stepTime, Cond.code yX2_stepTime cX2_stepTime 2 (some .int), Cond.methodLink RX2 204 Lib.Math.abs.name, Cond.static Lib.Math.abs.name, Cond.initialized "java/lang/Math", Cond.code Lib.Math.abs.name Lib.Math.abs.code 1 (some .int), Cond.methodLink RX2 198 yX2_fingerOf, Cond.static yX2_fingerOf, Cond.code yX2_fingerOf cX2_fingerOf 1 (some .int), Cond.methodLink RX2 201 yX2_rowOf, Cond.static yX2_rowOf, Cond.code yX2_rowOf cX2_rowOf 1 (some .int)]
def wsX2_saves_r3 : List Cond := [Cond.methodLink RX2 209 yX2_handOf, Cond.static yX2_handOf, Cond.code yX2_handOf cX2_handOf 1 (some .int)]
def wsX2_saves : List Cond := .code yX2_saves cX2_saves 5 (some .int) :: ((wsX2_saves_r1 ++ (wsX2_saves_r2 ++ wsX2_saves_r3)) ++ wsX20 ++ wsX10 ++ (vx_atS RX2 106 "java/lang/IndexOutOfBoundsException" ["java/lang/RuntimeException", "java/lang/Exception"]).filter goodWord ++ (vx_atS RX2 48 "java/lang/IllegalArgumentException" ["java/lang/RuntimeException", "java/lang/Exception"]).filter goodWord)
def wsX2_best_r1 : List Cond := [Cond.methodLink RX2 40 yX2_studentAt, Cond.instanceMethod yX2_studentAt, Cond.selects RX2 yX2_studentAt yX2_studentAt, Cond.initialized RX2, Cond.code yX2_studentAt cX2_studentAt 3 (some (.object "Homekeys$Student")), Cond.classLink RX2 102 "java/lang/IndexOutOfBoundsException", Cond.initialized "java/lang/IndexOutOfBoundsException", Cond.fieldLink RX2 11 "Homekeys" "students" "[LHomekeys$Student;", Cond.instanceMethod yX1_bestExchange, Cond.initialized RX1, Cond.selects RX1 yX1_bestExchange yX1_bestExchange, Cond.code yX1_bestExchange cX1_bestExchange 7 (some .int), Cond.methodLink RX1 70 yX1_timeWith, Cond.instanceMethod yX1_timeWith, Cond.selects RX1 yX1_timeWith yX1_timeWith, Cond.code yX1_timeWith cX1_timeWith 3 (some .int), Cond.fieldLink RX1 28 "Homekeys$Student" "typed" "[I", Cond.fieldLink RX1 31 "Homekeys$Student" "kept" "I", Cond.fieldLink RX1 9 "Homekeys$Student" "keys" "[I", Cond.static yX2_textTime, Cond.code yX2_textTime cX2_textTime 9 (some .int), Cond.methodLink RX2 70 yX2_at, Cond.static yX2_at, Cond.code yX2_at cX2_at 2 (some .int)]
def wsX2_best_r2 : List Cond := [Cond.methodLink RX2 212 yX2_swapped, Cond.static yX2_swapped, Cond.code yX2_swapped cX2_swapped 3 (some .int), Cond.methodLink RX2 216 yX2_stepTime, Cond.static yX2_stepTime, Cond.code yX2_stepTime cX2_stepTime 2 (some .int), Cond.methodLink RX2 204 Lib.Math.abs.name, Cond.static Lib.Math.abs.name, Cond.initialized "java/lang/Math", Cond.code Lib.Math.abs.name Lib.Math.abs.code 1 (some .int), Cond.methodLink RX2 198 yX2_fingerOf, Cond.static yX2_fingerOf, Cond.code yX2_fingerOf cX2_fingerOf 1 (some .int), Cond.methodLink RX2 201 yX2_rowOf, Cond.static yX2_rowOf, Cond.code yX2_rowOf cX2_rowOf 1 (some .int), Cond.methodLink RX2 209 yX2_handOf, Cond.static yX2_handOf, Cond.code yX2_handOf cX2_handOf 1 (some .int)]
def wsX2_best : List Cond := .code yX2_best cX2_best 2 (some .int) :: ((wsX2_best_r1 ++ wsX2_best_r2) ++ wsX20 ++ wsX10 ++ (vx_atS RX2 106 "java/lang/IndexOutOfBoundsException" ["java/lang/RuntimeException", "java/lang/Exception"]).filter goodWord)
def wsX2_draft : List Cond := .code yX2_draft cX2_draft 2 (some .int) :: ([.classLink RX2 33 "java/lang/IllegalStateException", .initialized "java/lang/IllegalStateException", .fieldLink RX2 25 "Homekeys" "drafted" "I", .fieldLink RX2 21 "Homekeys" "draft" "[I", .methodLink RX2 63 yX2_needLetter, .static yX2_needLetter, .initialized RX2, .code yX2_needLetter cX2_needLetter 1 none, .classLink RX2 102 "java/lang/IndexOutOfBoundsException", .initialized "java/lang/IndexOutOfBoundsException", .methodLink RX2 131 yX2_put, .static yX2_put, .code yX2_put cX2_put 3 none] ++ wsX20 ++ (vx_atS RX2 37 "java/lang/IllegalStateException" ["java/lang/RuntimeException", "java/lang/Exception"]).filter goodWord ++ (vx_atS RX2 106 "java/lang/IndexOutOfBoundsException" ["java/lang/RuntimeException", "java/lang/Exception"]).filter goodWord)
def wsX2_clear : List Cond := .code yX2_clear cX2_clear 2 (some .int) :: ([.fieldLink RX2 25 "Homekeys" "drafted" "I"] ++ wsX20)
def wsX2_contestOfDraft_r1 : List Cond := [Cond.classLink RX2 15 RX0, Cond.instantiable RX0 3, Cond.initialized RX0, Cond.fieldLink RX2 11 "Homekeys" "students" "[LHomekeys$Student;", Cond.fieldLink RX2 21 "Homekeys" "draft" "[I", Cond.fieldLink RX2 25 "Homekeys" "drafted" "I", Cond.instanceMethod yX0_init, Cond.code yX0_init cX0_init 1 none, Cond.methodLink RX0 3 objectInit, Cond.instanceMethod objectInit, Cond.code objectInit ⟨#[0xb1]⟩ 1 none, Cond.arrayClass .int, Cond.fieldLink RX0 9 "Homekeys$Contest" "times" "[I", Cond.fieldLink RX0 15 "Homekeys$Contest" "ticks" "[I", Cond.fieldLink RX0 18 "Homekeys$Contest" "scores" "[I", Cond.methodLink RX2 194 yX2_textTime, Cond.static yX2_textTime, Cond.initialized RX2, Cond.code yX2_textTime cX2_textTime 9 (some .int), Cond.methodLink RX2 70 yX2_at, Cond.static yX2_at, Cond.code yX2_at cX2_at 2 (some .int), Cond.methodLink RX2 212 yX2_swapped, Cond.static yX2_swapped]
def wsX2_contestOfDraft_r2 : List Cond := [Cond.code yX2_swapped cX2_swapped 3 (some .int), Cond.methodLink RX2 216 yX2_stepTime, Cond.static yX2_stepTime, Cond.code yX2_stepTime cX2_stepTime 2 (some .int), Cond.methodLink RX2 204 Lib.Math.abs.name, Cond.static Lib.Math.abs.name, Cond.initialized "java/lang/Math", Cond.code Lib.Math.abs.name Lib.Math.abs.code 1 (some .int), Cond.methodLink RX2 198 yX2_fingerOf, Cond.static yX2_fingerOf, Cond.code yX2_fingerOf cX2_fingerOf 1 (some .int), Cond.methodLink RX2 201 yX2_rowOf, Cond.static yX2_rowOf, Cond.code yX2_rowOf cX2_rowOf 1 (some .int), Cond.methodLink RX2 209 yX2_handOf, Cond.static yX2_handOf, Cond.code yX2_handOf cX2_handOf 1 (some .int), Cond.methodLink RX2 131 yX2_put, Cond.static yX2_put, Cond.code yX2_put cX2_put 3 none]
def wsX2_contestOfDraft : List Cond := .code yX2_contestOfDraft cX2_contestOfDraft 4 (some (.object "Homekeys$Contest")) :: ((wsX2_contestOfDraft_r1 ++ wsX2_contestOfDraft_r2) ++ wsX00 ++ wsX20 ++ wsX10)
def wsX2_contest_r1 : List Cond := [Cond.classLink RX2 33 "java/lang/IllegalStateException", Cond.initialized "java/lang/IllegalStateException", Cond.fieldLink RX2 25 "Homekeys" "drafted" "I", Cond.fieldLink RX2 11 "Homekeys" "students" "[LHomekeys$Student;", Cond.fieldLink RX2 17 "Homekeys" "contests" "[LHomekeys$Contest;", Cond.methodLink RX2 139 yX2_contestOfDraft, Cond.instanceMethod yX2_contestOfDraft, Cond.selects RX2 yX2_contestOfDraft yX2_contestOfDraft, Cond.initialized RX2, Cond.code yX2_contestOfDraft cX2_contestOfDraft 4 (some (.object "Homekeys$Contest")), Cond.classLink RX2 15 RX0, Cond.instantiable RX0 3, Cond.initialized RX0, Cond.fieldLink RX2 21 "Homekeys" "draft" "[I", Cond.instanceMethod yX0_init, Cond.code yX0_init cX0_init 1 none, Cond.methodLink RX0 3 objectInit, Cond.instanceMethod objectInit, Cond.code objectInit ⟨#[0xb1]⟩ 1 none, Cond.arrayClass .int, Cond.fieldLink RX0 9 "Homekeys$Contest" "times" "[I", Cond.fieldLink RX0 15 "Homekeys$Contest" "ticks" "[I", Cond.fieldLink RX0 18 "Homekeys$Contest" "scores" "[I", Cond.methodLink RX2 194 yX2_textTime]
def wsX2_contest_r2 : List Cond := [Cond.static yX2_textTime, Cond.code yX2_textTime cX2_textTime 9 (some .int), Cond.methodLink RX2 70 yX2_at, Cond.static yX2_at, Cond.code yX2_at cX2_at 2 (some .int), Cond.methodLink RX2 212 yX2_swapped, Cond.static yX2_swapped, Cond.code yX2_swapped cX2_swapped 3 (some .int), Cond.methodLink RX2 216 yX2_stepTime, Cond.static yX2_stepTime, Cond.code yX2_stepTime cX2_stepTime 2 (some .int), Cond.methodLink RX2 204 Lib.Math.abs.name, Cond.static Lib.Math.abs.name, Cond.initialized "java/lang/Math", Cond.code Lib.Math.abs.name Lib.Math.abs.code 1 (some .int), Cond.methodLink RX2 198 yX2_fingerOf, Cond.static yX2_fingerOf, Cond.code yX2_fingerOf cX2_fingerOf 1 (some .int), Cond.methodLink RX2 201 yX2_rowOf, Cond.static yX2_rowOf, Cond.code yX2_rowOf cX2_rowOf 1 (some .int), Cond.methodLink RX2 209 yX2_handOf, Cond.static yX2_handOf, Cond.code yX2_handOf cX2_handOf 1 (some .int)]
def wsX2_contest_r3 : List Cond := [Cond.methodLink RX2 131 yX2_put, Cond.static yX2_put, Cond.code yX2_put cX2_put 3 none]
def wsX2_contest : List Cond := .code yX2_contest cX2_contest 2 (some .int) :: ((wsX2_contest_r1 ++ (wsX2_contest_r2 ++ wsX2_contest_r3)) ++ wsX20 ++ wsX00 ++ wsX10 ++ (vx_atS RX2 37 "java/lang/IllegalStateException" ["java/lang/RuntimeException", "java/lang/Exception"]).filter goodWord)
def wsX2_contestAt : List Cond := .code yX2_contestAt cX2_contestAt 3 (some (.object "Homekeys$Contest")) :: ([.classLink RX2 102 "java/lang/IndexOutOfBoundsException", .initialized "java/lang/IndexOutOfBoundsException", .fieldLink RX2 17 "Homekeys" "contests" "[LHomekeys$Contest;"] ++ wsX20 ++ (vx_atS RX2 106 "java/lang/IndexOutOfBoundsException" ["java/lang/RuntimeException", "java/lang/Exception"]).filter goodWord)
def wsX2_entrantTime : List Cond := .code yX2_entrantTime cX2_entrantTime 3 (some .int) :: ([.classLink RX2 102 "java/lang/IndexOutOfBoundsException", .initialized "java/lang/IndexOutOfBoundsException", .methodLink RX2 70 yX2_at, .static yX2_at, .initialized RX2, .code yX2_at cX2_at 2 (some .int)] ++ wsX00 ++ (vx_atS RX2 106 "java/lang/IndexOutOfBoundsException" ["java/lang/RuntimeException", "java/lang/Exception"]).filter goodWord)
def wsX2_result_r1 : List Cond := [Cond.classLink RX2 44 "java/lang/IllegalArgumentException", Cond.initialized "java/lang/IllegalArgumentException", Cond.classLink RX2 33 "java/lang/IllegalStateException", Cond.initialized "java/lang/IllegalStateException", Cond.constant RX2 153 (99999), Cond.methodLink RX2 145 yX2_contestAt, Cond.instanceMethod yX2_contestAt, Cond.selects RX2 yX2_contestAt yX2_contestAt, Cond.initialized RX2, Cond.code yX2_contestAt cX2_contestAt 3 (some (.object "Homekeys$Contest")), Cond.classLink RX2 102 "java/lang/IndexOutOfBoundsException", Cond.initialized "java/lang/IndexOutOfBoundsException", Cond.fieldLink RX2 17 "Homekeys" "contests" "[LHomekeys$Contest;", Cond.methodLink RX2 149 yX2_entrantTime, Cond.static yX2_entrantTime, Cond.code yX2_entrantTime cX2_entrantTime 3 (some .int), Cond.methodLink RX2 70 yX2_at, Cond.static yX2_at, Cond.code yX2_at cX2_at 2 (some .int), Cond.instanceMethod yX0_hasResult, Cond.initialized RX0, Cond.selects RX0 yX0_hasResult yX0_hasResult, Cond.code yX0_hasResult cX0_hasResult 2 (some .boolean), Cond.fieldLink RX0 15 "Homekeys$Contest" "ticks" "[I"]
def wsX2_result_r2 : List Cond := [Cond.methodLink RX2 131 yX2_put, Cond.static yX2_put, Cond.code yX2_put cX2_put 3 none]
def wsX2_result : List Cond := .code yX2_result cX2_result 7 (some .int) :: ((wsX2_result_r1 ++ wsX2_result_r2) ++ wsX00 ++ wsX20 ++ (vx_atS RX2 48 "java/lang/IllegalArgumentException" ["java/lang/RuntimeException", "java/lang/Exception"]).filter goodWord ++ (vx_atS RX2 37 "java/lang/IllegalStateException" ["java/lang/RuntimeException", "java/lang/Exception"]).filter goodWord ++ (vx_atS RX2 106 "java/lang/IndexOutOfBoundsException" ["java/lang/RuntimeException", "java/lang/Exception"]).filter goodWord)
def wsX2_of_r1 : List Cond := [Cond.classLink RX2 44 "java/lang/IllegalArgumentException", Cond.initialized "java/lang/IllegalArgumentException", Cond.methodLink RX2 145 yX2_contestAt, Cond.instanceMethod yX2_contestAt, Cond.selects RX2 yX2_contestAt yX2_contestAt, Cond.initialized RX2, Cond.code yX2_contestAt cX2_contestAt 3 (some (.object "Homekeys$Contest")), Cond.classLink RX2 102 "java/lang/IndexOutOfBoundsException", Cond.initialized "java/lang/IndexOutOfBoundsException", Cond.fieldLink RX2 17 "Homekeys" "contests" "[LHomekeys$Contest;", Cond.methodLink RX2 149 yX2_entrantTime, Cond.static yX2_entrantTime, Cond.code yX2_entrantTime cX2_entrantTime 3 (some .int), Cond.methodLink RX2 70 yX2_at, Cond.static yX2_at, Cond.code yX2_at cX2_at 2 (some .int), Cond.instanceMethod yX0_hasResult, Cond.initialized RX0, Cond.selects RX0 yX0_hasResult yX0_hasResult, Cond.code yX0_hasResult cX0_hasResult 2 (some .boolean), Cond.fieldLink RX0 15 "Homekeys$Contest" "ticks" "[I", Cond.instanceMethod yX0_told, Cond.selects RX0 yX0_told yX0_told, Cond.code yX0_told cX0_told 3 (some .int)]
def wsX2_of_r2 : List Cond := [Cond.fieldLink RX0 18 "Homekeys$Contest" "scores" "[I", Cond.methodLink RX0 25 yX0_rankOf, Cond.instanceMethod yX0_rankOf, Cond.selects RX0 yX0_rankOf yX0_rankOf, Cond.code yX0_rankOf cX0_rankOf 6 (some .int), Cond.methodLink RX0 29 yX0_hasResult]
def wsX2_of : List Cond := .code yX2_of cX2_of 6 (some .int) :: ((wsX2_of_r1 ++ wsX2_of_r2) ++ wsX20 ++ wsX00 ++ (vx_atS RX2 48 "java/lang/IllegalArgumentException" ["java/lang/RuntimeException", "java/lang/Exception"]).filter goodWord ++ (vx_atS RX2 106 "java/lang/IndexOutOfBoundsException" ["java/lang/RuntimeException", "java/lang/Exception"]).filter goodWord)
def wsX2_ranked : List Cond := .code yX2_ranked cX2_ranked 4 (some .int) :: ([.classLink RX2 102 "java/lang/IndexOutOfBoundsException", .initialized "java/lang/IndexOutOfBoundsException", .methodLink RX2 145 yX2_contestAt, .instanceMethod yX2_contestAt, .selects RX2 yX2_contestAt yX2_contestAt, .initialized RX2, .code yX2_contestAt cX2_contestAt 3 (some (.object "Homekeys$Contest")), .fieldLink RX2 17 "Homekeys" "contests" "[LHomekeys$Contest;", .instanceMethod yX0_holderOf, .initialized RX0, .selects RX0 yX0_holderOf yX0_holderOf, .code yX0_holderOf cX0_holderOf 3 (some .int), .methodLink RX0 29 yX0_hasResult, .instanceMethod yX0_hasResult, .selects RX0 yX0_hasResult yX0_hasResult, .code yX0_hasResult cX0_hasResult 2 (some .boolean), .fieldLink RX0 15 "Homekeys$Contest" "ticks" "[I", .static yX2_at, .code yX2_at cX2_at 2 (some .int), .methodLink RX0 25 yX0_rankOf, .instanceMethod yX0_rankOf, .selects RX0 yX0_rankOf yX0_rankOf, .code yX0_rankOf cX0_rankOf 6 (some .int), .fieldLink RX0 18 "Homekeys$Contest" "scores" "[I"] ++ wsX20 ++ wsX00 ++ (vx_atS RX2 106 "java/lang/IndexOutOfBoundsException" ["java/lang/RuntimeException", "java/lang/Exception"]).filter goodWord)
def wsX3_init : List Cond := .code yX3_init cX3_init 2 none :: ([.methodLink RX3 1 objectInit, .instanceMethod objectInit, .code objectInit ⟨#[0xb1]⟩ 1 none, .arrayClass .int, .fieldLink RX3 7 "HomekeysModel" "keys" "[I", .fieldLink RX3 13 "HomekeysModel" "letters" "[I", .fieldLink RX3 16 "HomekeysModel" "way" "[I", .fieldLink RX3 19 "HomekeysModel" "slips" "[I", .fieldLink RX3 22 "HomekeysModel" "pairs" "[I", .fieldLink RX3 25 "HomekeysModel" "pressed" "[I", .fieldLink RX3 28 "HomekeysModel" "last" "[I", .fieldLink RX3 31 "HomekeysModel" "kept" "[I", .fieldLink RX3 34 "HomekeysModel" "history" "[I", .fieldLink RX3 37 "HomekeysModel" "draft" "[I", .fieldLink RX3 40 "HomekeysModel" "within" "[I", .fieldLink RX3 43 "HomekeysModel" "texts" "[I", .fieldLink RX3 46 "HomekeysModel" "ticks" "[I"] ++ wsX30)
def wsX3_thrown : List Cond := .code yX3_thrown cX3_thrown 1 (some .int) :: ([.fieldLink RX3 49 "HomekeysModel" "refusal" "I"] ++ wsX30)
def wsX3_refused : List Cond := .code yX3_refused cX3_refused 2 (some .boolean) :: ([.fieldLink RX3 49 "HomekeysModel" "refusal" "I"] ++ wsX30)
def wsX3_is : List Cond := .code yX3_is cX3_is 3 (some .boolean) :: ([])
def wsX3_isStudent : List Cond := .code yX3_isStudent cX3_isStudent 2 (some .boolean) :: ([.fieldLink RX3 53 "HomekeysModel" "students" "I", .methodLink RX3 56 yX3_is, .static yX3_is, .initialized RX3, .code yX3_is cX3_is 3 (some .boolean)] ++ wsX30)
def wsX3_isKey : List Cond := .code yX3_isKey cX3_isKey 1 (some .boolean) :: ([.methodLink RX3 56 yX3_is, .static yX3_is, .initialized RX3, .code yX3_is cX3_is 3 (some .boolean)])
def wsX3_step : List Cond := .code yX3_step cX3_step 2 (some .int) :: ([])
def wsX3_keyWith : List Cond := .code yX3_keyWith cX3_keyWith 6 (some .int) :: ([.fieldLink RX3 7 "HomekeysModel" "keys" "[I"] ++ wsX30)
def wsX3_timeWith : List Cond := .code yX3_timeWith cX3_timeWith 7 (some .int) :: ([.fieldLink RX3 31 "HomekeysModel" "kept" "[I", .fieldLink RX3 34 "HomekeysModel" "history" "[I", .methodLink RX3 60 yX3_keyWith, .instanceMethod yX3_keyWith, .selects RX3 yX3_keyWith yX3_keyWith, .initialized RX3, .code yX3_keyWith cX3_keyWith 6 (some .int), .fieldLink RX3 7 "HomekeysModel" "keys" "[I", .methodLink RX3 64 yX3_step, .static yX3_step, .code yX3_step cX3_step 2 (some .int)] ++ wsX30)
def wsX3_saved : List Cond := .code yX3_saved cX3_saved 4 (some .int) :: ([.methodLink RX3 68 yX3_timeWith, .instanceMethod yX3_timeWith, .selects RX3 yX3_timeWith yX3_timeWith, .initialized RX3, .code yX3_timeWith cX3_timeWith 7 (some .int), .fieldLink RX3 31 "HomekeysModel" "kept" "[I", .fieldLink RX3 34 "HomekeysModel" "history" "[I", .methodLink RX3 60 yX3_keyWith, .instanceMethod yX3_keyWith, .selects RX3 yX3_keyWith yX3_keyWith, .code yX3_keyWith cX3_keyWith 6 (some .int), .fieldLink RX3 7 "HomekeysModel" "keys" "[I", .methodLink RX3 64 yX3_step, .static yX3_step, .code yX3_step cX3_step 2 (some .int)] ++ wsX30)
def wsX3_student : List Cond := .code yX3_student cX3_student 1 (some .int) :: ([.fieldLink RX3 53 "HomekeysModel" "students" "I", .fieldLink RX3 28 "HomekeysModel" "last" "[I", .methodLink RX3 72 yX3_refused, .instanceMethod yX3_refused, .selects RX3 yX3_refused yX3_refused, .initialized RX3, .code yX3_refused cX3_refused 2 (some .boolean), .fieldLink RX3 49 "HomekeysModel" "refusal" "I"] ++ wsX30)
def wsX3_carry : List Cond := .code yX3_carry cX3_carry 4 (some .int) :: ([.fieldLink RX3 16 "HomekeysModel" "way" "[I", .methodLink RX3 76 yX3_isStudent, .instanceMethod yX3_isStudent, .selects RX3 yX3_isStudent yX3_isStudent, .initialized RX3, .code yX3_isStudent cX3_isStudent 2 (some .boolean), .fieldLink RX3 53 "HomekeysModel" "students" "I", .methodLink RX3 56 yX3_is, .static yX3_is, .code yX3_is cX3_is 3 (some .boolean), .methodLink RX3 72 yX3_refused, .instanceMethod yX3_refused, .selects RX3 yX3_refused yX3_refused, .code yX3_refused cX3_refused 2 (some .boolean), .fieldLink RX3 49 "HomekeysModel" "refusal" "I"] ++ wsX30)
def wsX3_why : List Cond := .code yX3_why cX3_why 5 (some .int) :: ([.methodLink RX3 76 yX3_isStudent, .instanceMethod yX3_isStudent, .selects RX3 yX3_isStudent yX3_isStudent, .initialized RX3, .code yX3_isStudent cX3_isStudent 2 (some .boolean), .fieldLink RX3 53 "HomekeysModel" "students" "I", .methodLink RX3 56 yX3_is, .static yX3_is, .code yX3_is cX3_is 3 (some .boolean), .methodLink RX3 79 yX3_isKey, .static yX3_isKey, .code yX3_isKey cX3_isKey 1 (some .boolean)] ++ wsX30)
def wsX3_swap_r1 : List Cond := [Cond.fieldLink RX3 13 "HomekeysModel" "letters" "[I", Cond.fieldLink RX3 7 "HomekeysModel" "keys" "[I", Cond.fieldLink RX3 16 "HomekeysModel" "way" "[I", Cond.fieldLink RX3 19 "HomekeysModel" "slips" "[I", Cond.methodLink RX3 82 yX3_why, Cond.instanceMethod yX3_why, Cond.selects RX3 yX3_why yX3_why, Cond.initialized RX3, Cond.code yX3_why cX3_why 5 (some .int), Cond.methodLink RX3 76 yX3_isStudent, Cond.instanceMethod yX3_isStudent, Cond.selects RX3 yX3_isStudent yX3_isStudent, Cond.code yX3_isStudent cX3_isStudent 2 (some .boolean), Cond.fieldLink RX3 53 "HomekeysModel" "students" "I", Cond.methodLink RX3 56 yX3_is, Cond.static yX3_is, Cond.code yX3_is cX3_is 3 (some .boolean), Cond.methodLink RX3 79 yX3_isKey, Cond.static yX3_isKey, Cond.code yX3_isKey cX3_isKey 1 (some .boolean), Cond.methodLink RX3 72 yX3_refused, Cond.instanceMethod yX3_refused, Cond.selects RX3 yX3_refused yX3_refused, Cond.code yX3_refused cX3_refused 2 (some .boolean)]
def wsX3_swap_r2 : List Cond := [Cond.fieldLink RX3 49 "HomekeysModel" "refusal" "I", Cond.methodLink RX3 85 yX3_saved, Cond.instanceMethod yX3_saved, Cond.selects RX3 yX3_saved yX3_saved, Cond.code yX3_saved cX3_saved 4 (some .int), Cond.methodLink RX3 68 yX3_timeWith, Cond.instanceMethod yX3_timeWith, Cond.selects RX3 yX3_timeWith yX3_timeWith, Cond.code yX3_timeWith cX3_timeWith 7 (some .int), Cond.fieldLink RX3 31 "HomekeysModel" "kept" "[I", Cond.fieldLink RX3 34 "HomekeysModel" "history" "[I", Cond.methodLink RX3 60 yX3_keyWith, Cond.instanceMethod yX3_keyWith, Cond.selects RX3 yX3_keyWith yX3_keyWith, Cond.code yX3_keyWith cX3_keyWith 6 (some .int), Cond.methodLink RX3 64 yX3_step, Cond.static yX3_step, Cond.code yX3_step cX3_step 2 (some .int)]
def wsX3_swap : List Cond := .code yX3_swap cX3_swap 8 (some .int) :: ((wsX3_swap_r1 ++ wsX3_swap_r2) ++ wsX30)
def wsX3_keyOf : List Cond := .code yX3_keyOf cX3_keyOf 3 (some .int) :: ([.fieldLink RX3 7 "HomekeysModel" "keys" "[I", .methodLink RX3 76 yX3_isStudent, .instanceMethod yX3_isStudent, .selects RX3 yX3_isStudent yX3_isStudent, .initialized RX3, .code yX3_isStudent cX3_isStudent 2 (some .boolean), .fieldLink RX3 53 "HomekeysModel" "students" "I", .methodLink RX3 56 yX3_is, .static yX3_is, .code yX3_is cX3_is 3 (some .boolean), .methodLink RX3 79 yX3_isKey, .static yX3_isKey, .code yX3_isKey cX3_isKey 1 (some .boolean), .methodLink RX3 72 yX3_refused, .instanceMethod yX3_refused, .selects RX3 yX3_refused yX3_refused, .code yX3_refused cX3_refused 2 (some .boolean), .fieldLink RX3 49 "HomekeysModel" "refusal" "I"] ++ wsX30)
def wsX3_letterOn : List Cond := .code yX3_letterOn cX3_letterOn 3 (some .int) :: ([.fieldLink RX3 13 "HomekeysModel" "letters" "[I", .methodLink RX3 76 yX3_isStudent, .instanceMethod yX3_isStudent, .selects RX3 yX3_isStudent yX3_isStudent, .initialized RX3, .code yX3_isStudent cX3_isStudent 2 (some .boolean), .fieldLink RX3 53 "HomekeysModel" "students" "I", .methodLink RX3 56 yX3_is, .static yX3_is, .code yX3_is cX3_is 3 (some .boolean), .methodLink RX3 79 yX3_isKey, .static yX3_isKey, .code yX3_isKey cX3_isKey 1 (some .boolean), .methodLink RX3 72 yX3_refused, .instanceMethod yX3_refused, .selects RX3 yX3_refused yX3_refused, .code yX3_refused cX3_refused 2 (some .boolean), .fieldLink RX3 49 "HomekeysModel" "refusal" "I"] ++ wsX30)
def wsX3_press : List Cond := .code yX3_press cX3_press 7 (some .boolean) :: ([.fieldLink RX3 7 "HomekeysModel" "keys" "[I", .fieldLink RX3 19 "HomekeysModel" "slips" "[I", .fieldLink RX3 28 "HomekeysModel" "last" "[I", .fieldLink RX3 22 "HomekeysModel" "pairs" "[I", .fieldLink RX3 25 "HomekeysModel" "pressed" "[I", .fieldLink RX3 31 "HomekeysModel" "kept" "[I", .fieldLink RX3 34 "HomekeysModel" "history" "[I", .methodLink RX3 76 yX3_isStudent, .instanceMethod yX3_isStudent, .selects RX3 yX3_isStudent yX3_isStudent, .initialized RX3, .code yX3_isStudent cX3_isStudent 2 (some .boolean), .fieldLink RX3 53 "HomekeysModel" "students" "I", .methodLink RX3 56 yX3_is, .static yX3_is, .code yX3_is cX3_is 3 (some .boolean), .methodLink RX3 79 yX3_isKey, .static yX3_isKey, .code yX3_isKey cX3_isKey 1 (some .boolean), .methodLink RX3 72 yX3_refused, .instanceMethod yX3_refused, .selects RX3 yX3_refused yX3_refused, .code yX3_refused cX3_refused 2 (some .boolean), .fieldLink RX3 49 "HomekeysModel" "refusal" "I"] ++ wsX30)
def wsX3_slips : List Cond := .code yX3_slips cX3_slips 8 (some .int) :: ([.fieldLink RX3 19 "HomekeysModel" "slips" "[I", .methodLink RX3 76 yX3_isStudent, .instanceMethod yX3_isStudent, .selects RX3 yX3_isStudent yX3_isStudent, .initialized RX3, .code yX3_isStudent cX3_isStudent 2 (some .boolean), .fieldLink RX3 53 "HomekeysModel" "students" "I", .methodLink RX3 56 yX3_is, .static yX3_is, .code yX3_is cX3_is 3 (some .boolean), .methodLink RX3 72 yX3_refused, .instanceMethod yX3_refused, .selects RX3 yX3_refused yX3_refused, .code yX3_refused cX3_refused 2 (some .boolean), .fieldLink RX3 49 "HomekeysModel" "refusal" "I"] ++ wsX30)
def wsX3_pair : List Cond := .code yX3_pair cX3_pair 5 (some .int) :: ([.fieldLink RX3 22 "HomekeysModel" "pairs" "[I", .methodLink RX3 76 yX3_isStudent, .instanceMethod yX3_isStudent, .selects RX3 yX3_isStudent yX3_isStudent, .initialized RX3, .code yX3_isStudent cX3_isStudent 2 (some .boolean), .fieldLink RX3 53 "HomekeysModel" "students" "I", .methodLink RX3 56 yX3_is, .static yX3_is, .code yX3_is cX3_is 3 (some .boolean), .methodLink RX3 79 yX3_isKey, .static yX3_isKey, .code yX3_isKey cX3_isKey 1 (some .boolean), .methodLink RX3 72 yX3_refused, .instanceMethod yX3_refused, .selects RX3 yX3_refused yX3_refused, .code yX3_refused cX3_refused 2 (some .boolean), .fieldLink RX3 49 "HomekeysModel" "refusal" "I"] ++ wsX30)
def wsX3_pressed : List Cond := .code yX3_pressed cX3_pressed 2 (some .int) :: ([.fieldLink RX3 25 "HomekeysModel" "pressed" "[I", .methodLink RX3 76 yX3_isStudent, .instanceMethod yX3_isStudent, .selects RX3 yX3_isStudent yX3_isStudent, .initialized RX3, .code yX3_isStudent cX3_isStudent 2 (some .boolean), .fieldLink RX3 53 "HomekeysModel" "students" "I", .methodLink RX3 56 yX3_is, .static yX3_is, .code yX3_is cX3_is 3 (some .boolean), .methodLink RX3 72 yX3_refused, .instanceMethod yX3_refused, .selects RX3 yX3_refused yX3_refused, .code yX3_refused cX3_refused 2 (some .boolean), .fieldLink RX3 49 "HomekeysModel" "refusal" "I"] ++ wsX30)
def wsX3_history : List Cond := .code yX3_history cX3_history 3 (some .int) :: ([.fieldLink RX3 31 "HomekeysModel" "kept" "[I", .fieldLink RX3 34 "HomekeysModel" "history" "[I", .methodLink RX3 76 yX3_isStudent, .instanceMethod yX3_isStudent, .selects RX3 yX3_isStudent yX3_isStudent, .initialized RX3, .code yX3_isStudent cX3_isStudent 2 (some .boolean), .fieldLink RX3 53 "HomekeysModel" "students" "I", .methodLink RX3 56 yX3_is, .static yX3_is, .code yX3_is cX3_is 3 (some .boolean), .methodLink RX3 72 yX3_refused, .instanceMethod yX3_refused, .selects RX3 yX3_refused yX3_refused, .code yX3_refused cX3_refused 2 (some .boolean), .fieldLink RX3 49 "HomekeysModel" "refusal" "I"] ++ wsX30)
def wsX3_time_r1 : List Cond := [Cond.methodLink RX3 76 yX3_isStudent, Cond.instanceMethod yX3_isStudent, Cond.selects RX3 yX3_isStudent yX3_isStudent, Cond.initialized RX3, Cond.code yX3_isStudent cX3_isStudent 2 (some .boolean), Cond.fieldLink RX3 53 "HomekeysModel" "students" "I", Cond.methodLink RX3 56 yX3_is, Cond.static yX3_is, Cond.code yX3_is cX3_is 3 (some .boolean), Cond.methodLink RX3 72 yX3_refused, Cond.instanceMethod yX3_refused, Cond.selects RX3 yX3_refused yX3_refused, Cond.code yX3_refused cX3_refused 2 (some .boolean), Cond.fieldLink RX3 49 "HomekeysModel" "refusal" "I", Cond.methodLink RX3 68 yX3_timeWith, Cond.instanceMethod yX3_timeWith, Cond.selects RX3 yX3_timeWith yX3_timeWith, Cond.code yX3_timeWith cX3_timeWith 7 (some .int), Cond.fieldLink RX3 31 "HomekeysModel" "kept" "[I", Cond.fieldLink RX3 34 "HomekeysModel" "history" "[I", Cond.methodLink RX3 60 yX3_keyWith, Cond.instanceMethod yX3_keyWith, Cond.selects RX3 yX3_keyWith yX3_keyWith, Cond.code yX3_keyWith cX3_keyWith 6 (some .int)]
def wsX3_time_r2 : List Cond := [Cond.fieldLink RX3 7 "HomekeysModel" "keys" "[I", Cond.methodLink RX3 64 yX3_step, Cond.static yX3_step, Cond.code yX3_step cX3_step 2 (some .int)]
def wsX3_time : List Cond := .code yX3_time cX3_time 2 (some .int) :: ((wsX3_time_r1 ++ wsX3_time_r2) ++ wsX30)
def wsX3_timeAnew_r1 : List Cond := [Cond.methodLink RX3 88 yX3_time, Cond.instanceMethod yX3_time, Cond.selects RX3 yX3_time yX3_time, Cond.initialized RX3, Cond.code yX3_time cX3_time 2 (some .int), Cond.methodLink RX3 76 yX3_isStudent, Cond.instanceMethod yX3_isStudent, Cond.selects RX3 yX3_isStudent yX3_isStudent, Cond.code yX3_isStudent cX3_isStudent 2 (some .boolean), Cond.fieldLink RX3 53 "HomekeysModel" "students" "I", Cond.methodLink RX3 56 yX3_is, Cond.static yX3_is, Cond.code yX3_is cX3_is 3 (some .boolean), Cond.methodLink RX3 72 yX3_refused, Cond.instanceMethod yX3_refused, Cond.selects RX3 yX3_refused yX3_refused, Cond.code yX3_refused cX3_refused 2 (some .boolean), Cond.fieldLink RX3 49 "HomekeysModel" "refusal" "I", Cond.methodLink RX3 68 yX3_timeWith, Cond.instanceMethod yX3_timeWith, Cond.selects RX3 yX3_timeWith yX3_timeWith, Cond.code yX3_timeWith cX3_timeWith 7 (some .int), Cond.fieldLink RX3 31 "HomekeysModel" "kept" "[I", Cond.fieldLink RX3 34 "HomekeysModel" "history" "[I"]
def wsX3_timeAnew_r2 : List Cond := [Cond.methodLink RX3 60 yX3_keyWith, Cond.instanceMethod yX3_keyWith, Cond.selects RX3 yX3_keyWith yX3_keyWith, Cond.code yX3_keyWith cX3_keyWith 6 (some .int), Cond.fieldLink RX3 7 "HomekeysModel" "keys" "[I", Cond.methodLink RX3 64 yX3_step, Cond.static yX3_step, Cond.code yX3_step cX3_step 2 (some .int)]
def wsX3_timeAnew : List Cond := .code yX3_timeAnew cX3_timeAnew 2 (some .int) :: ((wsX3_timeAnew_r1 ++ wsX3_timeAnew_r2) ++ wsX30)
def wsX3_lesson : List Cond := .code yX3_lesson cX3_lesson 9 (some .int) :: ([.fieldLink RX3 19 "HomekeysModel" "slips" "[I", .fieldLink RX3 7 "HomekeysModel" "keys" "[I", .methodLink RX3 76 yX3_isStudent, .instanceMethod yX3_isStudent, .selects RX3 yX3_isStudent yX3_isStudent, .initialized RX3, .code yX3_isStudent cX3_isStudent 2 (some .boolean), .fieldLink RX3 53 "HomekeysModel" "students" "I", .methodLink RX3 56 yX3_is, .static yX3_is, .code yX3_is cX3_is 3 (some .boolean), .methodLink RX3 72 yX3_refused, .instanceMethod yX3_refused, .selects RX3 yX3_refused yX3_refused, .code yX3_refused cX3_refused 2 (some .boolean), .fieldLink RX3 49 "HomekeysModel" "refusal" "I"] ++ wsX30)
def wsX3_saves_r1 : List Cond := [Cond.methodLink RX3 82 yX3_why, Cond.instanceMethod yX3_why, Cond.selects RX3 yX3_why yX3_why, Cond.initialized RX3, Cond.code yX3_why cX3_why 5 (some .int), Cond.methodLink RX3 76 yX3_isStudent, Cond.instanceMethod yX3_isStudent, Cond.selects RX3 yX3_isStudent yX3_isStudent, Cond.code yX3_isStudent cX3_isStudent 2 (some .boolean), Cond.fieldLink RX3 53 "HomekeysModel" "students" "I", Cond.methodLink RX3 56 yX3_is, Cond.static yX3_is, Cond.code yX3_is cX3_is 3 (some .boolean), Cond.methodLink RX3 79 yX3_isKey, Cond.static yX3_isKey, Cond.code yX3_isKey cX3_isKey 1 (some .boolean), Cond.methodLink RX3 72 yX3_refused, Cond.instanceMethod yX3_refused, Cond.selects RX3 yX3_refused yX3_refused, Cond.code yX3_refused cX3_refused 2 (some .boolean), Cond.fieldLink RX3 49 "HomekeysModel" "refusal" "I", Cond.methodLink RX3 85 yX3_saved, Cond.instanceMethod yX3_saved, Cond.selects RX3 yX3_saved yX3_saved]
def wsX3_saves_r2 : List Cond := [Cond.code yX3_saved cX3_saved 4 (some .int), Cond.methodLink RX3 68 yX3_timeWith, Cond.instanceMethod yX3_timeWith, Cond.selects RX3 yX3_timeWith yX3_timeWith, Cond.code yX3_timeWith cX3_timeWith 7 (some .int), Cond.fieldLink RX3 31 "HomekeysModel" "kept" "[I", Cond.fieldLink RX3 34 "HomekeysModel" "history" "[I", Cond.methodLink RX3 60 yX3_keyWith, Cond.instanceMethod yX3_keyWith, Cond.selects RX3 yX3_keyWith yX3_keyWith, Cond.code yX3_keyWith cX3_keyWith 6 (some .int), Cond.fieldLink RX3 7 "HomekeysModel" "keys" "[I", Cond.methodLink RX3 64 yX3_step, Cond.static yX3_step, Cond.code yX3_step cX3_step 2 (some .int)]
def wsX3_saves : List Cond := .code yX3_saves cX3_saves 4 (some .int) :: ((wsX3_saves_r1 ++ wsX3_saves_r2) ++ wsX30)
def wsX3_best_r1 : List Cond := [Cond.methodLink RX3 76 yX3_isStudent, Cond.instanceMethod yX3_isStudent, Cond.selects RX3 yX3_isStudent yX3_isStudent, Cond.initialized RX3, Cond.code yX3_isStudent cX3_isStudent 2 (some .boolean), Cond.fieldLink RX3 53 "HomekeysModel" "students" "I", Cond.methodLink RX3 56 yX3_is, Cond.static yX3_is, Cond.code yX3_is cX3_is 3 (some .boolean), Cond.methodLink RX3 72 yX3_refused, Cond.instanceMethod yX3_refused, Cond.selects RX3 yX3_refused yX3_refused, Cond.code yX3_refused cX3_refused 2 (some .boolean), Cond.fieldLink RX3 49 "HomekeysModel" "refusal" "I", Cond.methodLink RX3 85 yX3_saved, Cond.instanceMethod yX3_saved, Cond.selects RX3 yX3_saved yX3_saved, Cond.code yX3_saved cX3_saved 4 (some .int), Cond.methodLink RX3 68 yX3_timeWith, Cond.instanceMethod yX3_timeWith, Cond.selects RX3 yX3_timeWith yX3_timeWith, Cond.code yX3_timeWith cX3_timeWith 7 (some .int), Cond.fieldLink RX3 31 "HomekeysModel" "kept" "[I", Cond.fieldLink RX3 34 "HomekeysModel" "history" "[I"]
def wsX3_best_r2 : List Cond := [Cond.methodLink RX3 60 yX3_keyWith, Cond.instanceMethod yX3_keyWith, Cond.selects RX3 yX3_keyWith yX3_keyWith, Cond.code yX3_keyWith cX3_keyWith 6 (some .int), Cond.fieldLink RX3 7 "HomekeysModel" "keys" "[I", Cond.methodLink RX3 64 yX3_step, Cond.static yX3_step, Cond.code yX3_step cX3_step 2 (some .int)]
def wsX3_best : List Cond := .code yX3_best cX3_best 6 (some .int) :: ((wsX3_best_r1 ++ wsX3_best_r2) ++ wsX30)
def wsX3_draft : List Cond := .code yX3_draft cX3_draft 2 (some .int) :: ([.fieldLink RX3 92 "HomekeysModel" "drafted" "I", .fieldLink RX3 37 "HomekeysModel" "draft" "[I", .methodLink RX3 79 yX3_isKey, .static yX3_isKey, .initialized RX3, .code yX3_isKey cX3_isKey 1 (some .boolean), .methodLink RX3 56 yX3_is, .static yX3_is, .code yX3_is cX3_is 3 (some .boolean), .methodLink RX3 72 yX3_refused, .instanceMethod yX3_refused, .selects RX3 yX3_refused yX3_refused, .code yX3_refused cX3_refused 2 (some .boolean), .fieldLink RX3 49 "HomekeysModel" "refusal" "I"] ++ wsX30)
def wsX3_clear : List Cond := .code yX3_clear cX3_clear 2 (some .int) :: ([.fieldLink RX3 49 "HomekeysModel" "refusal" "I", .fieldLink RX3 92 "HomekeysModel" "drafted" "I"] ++ wsX30)
def wsX3_contest : List Cond := .code yX3_contest cX3_contest 5 (some .int) :: ([.fieldLink RX3 92 "HomekeysModel" "drafted" "I", .fieldLink RX3 53 "HomekeysModel" "students" "I", .fieldLink RX3 95 "HomekeysModel" "contests" "I", .fieldLink RX3 40 "HomekeysModel" "within" "[I", .fieldLink RX3 7 "HomekeysModel" "keys" "[I", .fieldLink RX3 37 "HomekeysModel" "draft" "[I", .fieldLink RX3 43 "HomekeysModel" "texts" "[I", .methodLink RX3 72 yX3_refused, .instanceMethod yX3_refused, .selects RX3 yX3_refused yX3_refused, .initialized RX3, .code yX3_refused cX3_refused 2 (some .boolean), .fieldLink RX3 49 "HomekeysModel" "refusal" "I", .methodLink RX3 64 yX3_step, .static yX3_step, .code yX3_step cX3_step 2 (some .int)] ++ wsX30)
def wsX3_isIn : List Cond := .code yX3_isIn cX3_isIn 3 (some .boolean) :: ([.fieldLink RX3 95 "HomekeysModel" "contests" "I", .fieldLink RX3 40 "HomekeysModel" "within" "[I", .methodLink RX3 56 yX3_is, .static yX3_is, .initialized RX3, .code yX3_is cX3_is 3 (some .boolean)] ++ wsX30)
def wsX3_score : List Cond := .code yX3_score cX3_score 2 (some .int) :: ([.fieldLink RX3 46 "HomekeysModel" "ticks" "[I", .fieldLink RX3 43 "HomekeysModel" "texts" "[I"] ++ wsX30)
def wsX3_result : List Cond := .code yX3_result cX3_result 6 (some .int) :: ([.constant RX3 102 (99999), .fieldLink RX3 46 "HomekeysModel" "ticks" "[I", .methodLink RX3 98 yX3_isIn, .instanceMethod yX3_isIn, .selects RX3 yX3_isIn yX3_isIn, .initialized RX3, .code yX3_isIn cX3_isIn 3 (some .boolean), .fieldLink RX3 95 "HomekeysModel" "contests" "I", .fieldLink RX3 40 "HomekeysModel" "within" "[I", .methodLink RX3 56 yX3_is, .static yX3_is, .code yX3_is cX3_is 3 (some .boolean), .methodLink RX3 72 yX3_refused, .instanceMethod yX3_refused, .selects RX3 yX3_refused yX3_refused, .code yX3_refused cX3_refused 2 (some .boolean), .fieldLink RX3 49 "HomekeysModel" "refusal" "I", .methodLink RX3 103 yX3_score, .instanceMethod yX3_score, .selects RX3 yX3_score yX3_score, .code yX3_score cX3_score 2 (some .int), .fieldLink RX3 43 "HomekeysModel" "texts" "[I"] ++ wsX30)
def wsX3_rank : List Cond := .code yX3_rank cX3_rank 7 (some .int) :: ([.fieldLink RX3 40 "HomekeysModel" "within" "[I", .fieldLink RX3 46 "HomekeysModel" "ticks" "[I", .methodLink RX3 103 yX3_score, .instanceMethod yX3_score, .selects RX3 yX3_score yX3_score, .initialized RX3, .code yX3_score cX3_score 2 (some .int), .fieldLink RX3 43 "HomekeysModel" "texts" "[I"] ++ wsX30)
def wsX3_of_r1 : List Cond := [Cond.fieldLink RX3 43 "HomekeysModel" "texts" "[I", Cond.fieldLink RX3 46 "HomekeysModel" "ticks" "[I", Cond.methodLink RX3 98 yX3_isIn, Cond.instanceMethod yX3_isIn, Cond.selects RX3 yX3_isIn yX3_isIn, Cond.initialized RX3, Cond.code yX3_isIn cX3_isIn 3 (some .boolean), Cond.fieldLink RX3 95 "HomekeysModel" "contests" "I", Cond.fieldLink RX3 40 "HomekeysModel" "within" "[I", Cond.methodLink RX3 56 yX3_is, Cond.static yX3_is, Cond.code yX3_is cX3_is 3 (some .boolean), Cond.methodLink RX3 72 yX3_refused, Cond.instanceMethod yX3_refused, Cond.selects RX3 yX3_refused yX3_refused, Cond.code yX3_refused cX3_refused 2 (some .boolean), Cond.fieldLink RX3 49 "HomekeysModel" "refusal" "I", Cond.methodLink RX3 103 yX3_score, Cond.instanceMethod yX3_score, Cond.selects RX3 yX3_score yX3_score, Cond.code yX3_score cX3_score 2 (some .int), Cond.methodLink RX3 106 yX3_rank, Cond.instanceMethod yX3_rank, Cond.selects RX3 yX3_rank yX3_rank]
def wsX3_of_r2 : List Cond := [Cond.code yX3_rank cX3_rank 7 (some .int)]
def wsX3_of : List Cond := .code yX3_of cX3_of 5 (some .int) :: ((wsX3_of_r1 ++ wsX3_of_r2) ++ wsX30)
def wsX3_ranked : List Cond := .code yX3_ranked cX3_ranked 5 (some .int) :: ([.fieldLink RX3 95 "HomekeysModel" "contests" "I", .fieldLink RX3 40 "HomekeysModel" "within" "[I", .fieldLink RX3 46 "HomekeysModel" "ticks" "[I", .methodLink RX3 56 yX3_is, .static yX3_is, .initialized RX3, .code yX3_is cX3_is 3 (some .boolean), .methodLink RX3 72 yX3_refused, .instanceMethod yX3_refused, .selects RX3 yX3_refused yX3_refused, .code yX3_refused cX3_refused 2 (some .boolean), .fieldLink RX3 49 "HomekeysModel" "refusal" "I", .methodLink RX3 106 yX3_rank, .instanceMethod yX3_rank, .selects RX3 yX3_rank yX3_rank, .code yX3_rank cX3_rank 7 (some .int), .methodLink RX3 103 yX3_score, .instanceMethod yX3_score, .selects RX3 yX3_score yX3_score, .code yX3_score cX3_score 2 (some .int), .fieldLink RX3 43 "HomekeysModel" "texts" "[I"] ++ wsX30)
def wsJ9_abs_0f7a4 : List Cond := .code yJ9_abs_0f7a4 cJ9_abs_0f7a4 1 (some .int) :: ([])
def wsL_student_r1 : List Cond := [Cond.classLink RL 13 "java/lang/IllegalStateException", Cond.methodLink RL 7 yX2_student, Cond.instanceMethod yX2_student, Cond.selects RX2 yX2_student yX2_student, Cond.initialized RX2, Cond.code yX2_student cX2_student 2 (some .int), Cond.classLink RX2 33 "java/lang/IllegalStateException", Cond.initialized "java/lang/IllegalStateException", Cond.fieldLink RX2 11 "Homekeys" "students" "[LHomekeys$Student;", Cond.classLink RX2 9 RX1, Cond.instantiable RX1 8, Cond.initialized RX1, Cond.instanceMethod yX1_init, Cond.code yX1_init cX1_init 2 none, Cond.methodLink RX1 3 objectInit, Cond.instanceMethod objectInit, Cond.code objectInit ⟨#[0xb1]⟩ 1 none, Cond.arrayClass .int, Cond.fieldLink RX1 9 "Homekeys$Student" "keys" "[I", Cond.fieldLink RX1 15 "Homekeys$Student" "letters" "[I", Cond.fieldLink RX1 18 "Homekeys$Student" "way" "I", Cond.fieldLink RX1 22 "Homekeys$Student" "keySlips" "[I", Cond.fieldLink RX1 25 "Homekeys$Student" "pairSlips" "[I", Cond.fieldLink RX1 28 "Homekeys$Student" "typed" "[I"]
def wsL_student_r2 : List Cond := [Cond.fieldLink RX1 31 "Homekeys$Student" "kept" "I", Cond.fieldLink RX1 34 "Homekeys$Student" "presses" "I", Cond.static yX2_put, Cond.code yX2_put cX2_put 3 none]
def wsL_student : List Cond := .codeWith yL_student cL_student 3 (some .int) [(0, 8, 11, 13)] :: ((wsL_student_r1 ++ wsL_student_r2) ++ wsX20 ++ wsX10 ++ (vx_atS RX2 37 "java/lang/IllegalStateException" ["java/lang/RuntimeException", "java/lang/Exception"]).filter goodWord)
def wsL_carry : List Cond := .codeWith yL_carry cL_carry 5 (some .int) [(0, 10, 13, 19), (0, 10, 17, 21)] :: ([.classLink RL 19 "java/lang/IndexOutOfBoundsException", .classLink RL 21 "java/lang/IllegalArgumentException", .methodLink RL 15 yX2_carry, .instanceMethod yX2_carry, .selects RX2 yX2_carry yX2_carry, .initialized RX2, .code yX2_carry cX2_carry 5 (some .int), .classLink RX2 44 "java/lang/IllegalArgumentException", .initialized "java/lang/IllegalArgumentException", .methodLink RX2 40 yX2_studentAt, .instanceMethod yX2_studentAt, .selects RX2 yX2_studentAt yX2_studentAt, .code yX2_studentAt cX2_studentAt 3 (some (.object "Homekeys$Student")), .classLink RX2 102 "java/lang/IndexOutOfBoundsException", .initialized "java/lang/IndexOutOfBoundsException", .fieldLink RX2 11 "Homekeys" "students" "[LHomekeys$Student;"] ++ wsX10 ++ wsX20 ++ (vx_atS RX2 48 "java/lang/IllegalArgumentException" ["java/lang/RuntimeException", "java/lang/Exception"]).filter goodWord ++ (vx_atS RX2 106 "java/lang/IndexOutOfBoundsException" ["java/lang/RuntimeException", "java/lang/Exception"]).filter goodWord)
def wsL_swap_r1 : List Cond := [Cond.classLink RL 19 "java/lang/IndexOutOfBoundsException", Cond.classLink RL 21 "java/lang/IllegalArgumentException", Cond.methodLink RL 23 yX2_swap, Cond.instanceMethod yX2_swap, Cond.selects RX2 yX2_swap yX2_swap, Cond.initialized RX2, Cond.code yX2_swap cX2_swap 6 (some .int), Cond.methodLink RX2 40 yX2_studentAt, Cond.instanceMethod yX2_studentAt, Cond.selects RX2 yX2_studentAt yX2_studentAt, Cond.code yX2_studentAt cX2_studentAt 3 (some (.object "Homekeys$Student")), Cond.classLink RX2 102 "java/lang/IndexOutOfBoundsException", Cond.initialized "java/lang/IndexOutOfBoundsException", Cond.fieldLink RX2 11 "Homekeys" "students" "[LHomekeys$Student;", Cond.methodLink RX2 52 yX2_needTwoKeys, Cond.static yX2_needTwoKeys, Cond.code yX2_needTwoKeys cX2_needTwoKeys 2 none, Cond.classLink RX2 44 "java/lang/IllegalArgumentException", Cond.initialized "java/lang/IllegalArgumentException", Cond.methodLink RX2 74 yX2_needKey, Cond.static yX2_needKey, Cond.code yX2_needKey cX2_needKey 1 none, Cond.instanceMethod yX1_savedBy, Cond.initialized RX1]
def wsL_swap_r2 : List Cond := [Cond.selects RX1 yX1_savedBy yX1_savedBy, Cond.code yX1_savedBy cX1_savedBy 3 (some .int), Cond.methodLink RX1 70 yX1_timeWith, Cond.instanceMethod yX1_timeWith, Cond.selects RX1 yX1_timeWith yX1_timeWith, Cond.code yX1_timeWith cX1_timeWith 3 (some .int), Cond.fieldLink RX1 28 "Homekeys$Student" "typed" "[I", Cond.fieldLink RX1 31 "Homekeys$Student" "kept" "I", Cond.fieldLink RX1 9 "Homekeys$Student" "keys" "[I", Cond.static yX2_textTime, Cond.code yX2_textTime cX2_textTime 9 (some .int), Cond.methodLink RX2 70 yX2_at, Cond.static yX2_at, Cond.code yX2_at cX2_at 2 (some .int), Cond.methodLink RX2 212 yX2_swapped, Cond.static yX2_swapped, Cond.code yX2_swapped cX2_swapped 3 (some .int), Cond.methodLink RX2 216 yX2_stepTime, Cond.static yX2_stepTime, Cond.code yX2_stepTime cX2_stepTime 2 (some .int), Cond.methodLink RX2 204 Lib.Math.abs.name, Cond.static Lib.Math.abs.name, Cond.initialized "java/lang/Math", Cond.code Lib.Math.abs.name Lib.Math.abs.code 1 (some .int)]
def wsL_swap_r3 : List Cond := [Cond.methodLink RX2 198 yX2_fingerOf, Cond.static yX2_fingerOf, Cond.code yX2_fingerOf cX2_fingerOf 1 (some .int), Cond.methodLink RX2 201 yX2_rowOf, Cond.static yX2_rowOf, Cond.code yX2_rowOf cX2_rowOf 1 (some .int), Cond.methodLink RX2 209 yX2_handOf, Cond.static yX2_handOf, Cond.code yX2_handOf cX2_handOf 1 (some .int), Cond.instanceMethod yX1_exchange, Cond.selects RX1 yX1_exchange yX1_exchange, Cond.code yX1_exchange cX1_exchange 6 none, Cond.fieldLink RX1 15 "Homekeys$Student" "letters" "[I", Cond.fieldLink RX1 18 "Homekeys$Student" "way" "I", Cond.fieldLink RX1 22 "Homekeys$Student" "keySlips" "[I", Cond.static yX2_put, Cond.code yX2_put cX2_put 3 none]
def wsL_swap : List Cond := .codeWith yL_swap cL_swap 6 (some .int) [(0, 12, 15, 19), (0, 12, 19, 21)] :: ((wsL_swap_r1 ++ (wsL_swap_r2 ++ wsL_swap_r3)) ++ wsX20 ++ wsX10 ++ (vx_atS RX2 106 "java/lang/IndexOutOfBoundsException" ["java/lang/RuntimeException", "java/lang/Exception"]).filter goodWord ++ (vx_atS RX2 48 "java/lang/IllegalArgumentException" ["java/lang/RuntimeException", "java/lang/Exception"]).filter goodWord)
def wsL_keyOf : List Cond := .codeWith yL_keyOf cL_keyOf 5 (some .int) [(0, 10, 13, 19)] :: ([.classLink RL 19 "java/lang/IndexOutOfBoundsException", .methodLink RL 27 yX2_keyOf, .instanceMethod yX2_keyOf, .selects RX2 yX2_keyOf yX2_keyOf, .initialized RX2, .code yX2_keyOf cX2_keyOf 4 (some .int), .methodLink RX2 40 yX2_studentAt, .instanceMethod yX2_studentAt, .selects RX2 yX2_studentAt yX2_studentAt, .code yX2_studentAt cX2_studentAt 3 (some (.object "Homekeys$Student")), .classLink RX2 102 "java/lang/IndexOutOfBoundsException", .initialized "java/lang/IndexOutOfBoundsException", .fieldLink RX2 11 "Homekeys" "students" "[LHomekeys$Student;", .methodLink RX2 63 yX2_needLetter, .static yX2_needLetter, .code yX2_needLetter cX2_needLetter 1 none, .methodLink RX2 70 yX2_at, .static yX2_at, .code yX2_at cX2_at 2 (some .int)] ++ wsX10 ++ wsX20 ++ (vx_atS RX2 106 "java/lang/IndexOutOfBoundsException" ["java/lang/RuntimeException", "java/lang/Exception"]).filter goodWord)
def wsL_letterOn : List Cond := .codeWith yL_letterOn cL_letterOn 5 (some .int) [(0, 10, 13, 19)] :: ([.classLink RL 19 "java/lang/IndexOutOfBoundsException", .methodLink RL 30 yX2_letterOn, .instanceMethod yX2_letterOn, .selects RX2 yX2_letterOn yX2_letterOn, .initialized RX2, .code yX2_letterOn cX2_letterOn 4 (some .int), .methodLink RX2 40 yX2_studentAt, .instanceMethod yX2_studentAt, .selects RX2 yX2_studentAt yX2_studentAt, .code yX2_studentAt cX2_studentAt 3 (some (.object "Homekeys$Student")), .classLink RX2 102 "java/lang/IndexOutOfBoundsException", .initialized "java/lang/IndexOutOfBoundsException", .fieldLink RX2 11 "Homekeys" "students" "[LHomekeys$Student;", .methodLink RX2 74 yX2_needKey, .static yX2_needKey, .code yX2_needKey cX2_needKey 1 none, .methodLink RX2 70 yX2_at, .static yX2_at, .code yX2_at cX2_at 2 (some .int)] ++ wsX10 ++ wsX20 ++ (vx_atS RX2 106 "java/lang/IndexOutOfBoundsException" ["java/lang/RuntimeException", "java/lang/Exception"]).filter goodWord)
def wsL_press_r1 : List Cond := [Cond.classLink RL 19 "java/lang/IndexOutOfBoundsException", Cond.methodLink RL 33 yX2_press, Cond.instanceMethod yX2_press, Cond.selects RX2 yX2_press yX2_press, Cond.initialized RX2, Cond.code yX2_press cX2_press 5 (some .boolean), Cond.methodLink RX2 40 yX2_studentAt, Cond.instanceMethod yX2_studentAt, Cond.selects RX2 yX2_studentAt yX2_studentAt, Cond.code yX2_studentAt cX2_studentAt 3 (some (.object "Homekeys$Student")), Cond.classLink RX2 102 "java/lang/IndexOutOfBoundsException", Cond.initialized "java/lang/IndexOutOfBoundsException", Cond.fieldLink RX2 11 "Homekeys" "students" "[LHomekeys$Student;", Cond.methodLink RX2 63 yX2_needLetter, Cond.static yX2_needLetter, Cond.code yX2_needLetter cX2_needLetter 1 none, Cond.methodLink RX2 74 yX2_needKey, Cond.static yX2_needKey, Cond.code yX2_needKey cX2_needKey 1 none, Cond.instanceMethod yX1_type, Cond.initialized RX1, Cond.selects RX1 yX1_type yX1_type, Cond.code yX1_type cX1_type 5 (some .boolean), Cond.fieldLink RX1 9 "Homekeys$Student" "keys" "[I"]
def wsL_press_r2 : List Cond := [Cond.fieldLink RX1 22 "Homekeys$Student" "keySlips" "[I", Cond.fieldLink RX1 31 "Homekeys$Student" "kept" "I", Cond.fieldLink RX1 25 "Homekeys$Student" "pairSlips" "[I", Cond.fieldLink RX1 28 "Homekeys$Student" "typed" "[I", Cond.fieldLink RX1 34 "Homekeys$Student" "presses" "I", Cond.static yX2_at, Cond.code yX2_at cX2_at 2 (some .int), Cond.static yX2_count, Cond.code yX2_count cX2_count 2 none, Cond.methodLink RX2 70 yX2_at, Cond.methodLink RX2 131 yX2_put, Cond.static yX2_put, Cond.code yX2_put cX2_put 3 none, Cond.static yX2_pairPlace, Cond.code yX2_pairPlace cX2_pairPlace 2 (some .int), Cond.methodLink RX1 53 yX1_keep, Cond.instanceMethod yX1_keep, Cond.selects RX1 yX1_keep yX1_keep, Cond.code yX1_keep cX1_keep 2 none, Cond.methodLink RX1 57 arraycopyName, Cond.native arraycopyName, Cond.static arraycopyName, Cond.initialized "java/lang/System"]
def wsL_press : List Cond := .codeWith yL_press cL_press 6 (some .int) [(0, 19, 22, 19)] :: ((wsL_press_r1 ++ wsL_press_r2) ++ wsX20 ++ wsX10 ++ (vx_atS RX2 106 "java/lang/IndexOutOfBoundsException" ["java/lang/RuntimeException", "java/lang/Exception"]).filter goodWord)
def wsL_slips_r1 : List Cond := [Cond.classLink RL 19 "java/lang/IndexOutOfBoundsException", Cond.classLink RL 21 "java/lang/IllegalArgumentException", Cond.methodLink RL 37 yX2_slips, Cond.instanceMethod yX2_slips, Cond.selects RX2 yX2_slips yX2_slips, Cond.initialized RX2, Cond.code yX2_slips cX2_slips 5 (some .int), Cond.classLink RX2 44 "java/lang/IllegalArgumentException", Cond.initialized "java/lang/IllegalArgumentException", Cond.methodLink RX2 40 yX2_studentAt, Cond.instanceMethod yX2_studentAt, Cond.selects RX2 yX2_studentAt yX2_studentAt, Cond.code yX2_studentAt cX2_studentAt 3 (some (.object "Homekeys$Student")), Cond.classLink RX2 102 "java/lang/IndexOutOfBoundsException", Cond.initialized "java/lang/IndexOutOfBoundsException", Cond.fieldLink RX2 11 "Homekeys" "students" "[LHomekeys$Student;", Cond.methodLink RX2 84 yX2_groups, Cond.static yX2_groups, Cond.code yX2_groups cX2_groups 1 (some .int), Cond.instanceMethod yX1_slipsOf, Cond.initialized RX1, Cond.selects RX1 yX1_slipsOf yX1_slipsOf, Cond.code yX1_slipsOf cX1_slipsOf 5 (some .int), Cond.fieldLink RX1 22 "Homekeys$Student" "keySlips" "[I"]
def wsL_slips_r2 : List Cond := [Cond.static yX2_groupOf, Cond.code yX2_groupOf cX2_groupOf 2 (some .int), Cond.methodLink RX2 198 yX2_fingerOf, Cond.static yX2_fingerOf, Cond.code yX2_fingerOf cX2_fingerOf 1 (some .int), Cond.methodLink RX2 209 yX2_handOf, Cond.static yX2_handOf, Cond.code yX2_handOf cX2_handOf 1 (some .int), Cond.static yX2_at, Cond.code yX2_at cX2_at 2 (some .int)]
def wsL_slips : List Cond := .codeWith yL_slips cL_slips 6 (some .int) [(0, 12, 15, 19), (0, 12, 19, 21)] :: ((wsL_slips_r1 ++ wsL_slips_r2) ++ wsX20 ++ wsX10 ++ (vx_atS RX2 48 "java/lang/IllegalArgumentException" ["java/lang/RuntimeException", "java/lang/Exception"]).filter goodWord ++ (vx_atS RX2 106 "java/lang/IndexOutOfBoundsException" ["java/lang/RuntimeException", "java/lang/Exception"]).filter goodWord)
def wsL_pair : List Cond := .codeWith yL_pair cL_pair 6 (some .int) [(0, 12, 15, 19)] :: ([.classLink RL 19 "java/lang/IndexOutOfBoundsException", .methodLink RL 40 yX2_pair, .instanceMethod yX2_pair, .selects RX2 yX2_pair yX2_pair, .initialized RX2, .code yX2_pair cX2_pair 5 (some .int), .methodLink RX2 40 yX2_studentAt, .instanceMethod yX2_studentAt, .selects RX2 yX2_studentAt yX2_studentAt, .code yX2_studentAt cX2_studentAt 3 (some (.object "Homekeys$Student")), .classLink RX2 102 "java/lang/IndexOutOfBoundsException", .initialized "java/lang/IndexOutOfBoundsException", .fieldLink RX2 11 "Homekeys" "students" "[LHomekeys$Student;", .methodLink RX2 63 yX2_needLetter, .static yX2_needLetter, .code yX2_needLetter cX2_needLetter 1 none, .methodLink RX2 96 yX2_pairPlace, .static yX2_pairPlace, .code yX2_pairPlace cX2_pairPlace 2 (some .int), .methodLink RX2 70 yX2_at, .static yX2_at, .code yX2_at cX2_at 2 (some .int)] ++ wsX10 ++ wsX20 ++ (vx_atS RX2 106 "java/lang/IndexOutOfBoundsException" ["java/lang/RuntimeException", "java/lang/Exception"]).filter goodWord)
def wsL_pressed : List Cond := .codeWith yL_pressed cL_pressed 4 (some .int) [(0, 9, 12, 19)] :: ([.classLink RL 19 "java/lang/IndexOutOfBoundsException", .methodLink RL 43 yX2_pressed, .instanceMethod yX2_pressed, .selects RX2 yX2_pressed yX2_pressed, .initialized RX2, .code yX2_pressed cX2_pressed 2 (some .int), .methodLink RX2 40 yX2_studentAt, .instanceMethod yX2_studentAt, .selects RX2 yX2_studentAt yX2_studentAt, .code yX2_studentAt cX2_studentAt 3 (some (.object "Homekeys$Student")), .classLink RX2 102 "java/lang/IndexOutOfBoundsException", .initialized "java/lang/IndexOutOfBoundsException", .fieldLink RX2 11 "Homekeys" "students" "[LHomekeys$Student;"] ++ wsX10 ++ wsX20 ++ (vx_atS RX2 106 "java/lang/IndexOutOfBoundsException" ["java/lang/RuntimeException", "java/lang/Exception"]).filter goodWord)
def wsL_history : List Cond := .codeWith yL_history cL_history 5 (some .int) [(0, 10, 13, 19)] :: ([.classLink RL 19 "java/lang/IndexOutOfBoundsException", .methodLink RL 47 yX2_history, .instanceMethod yX2_history, .selects RX2 yX2_history yX2_history, .initialized RX2, .code yX2_history cX2_history 4 (some .int), .classLink RX2 102 "java/lang/IndexOutOfBoundsException", .initialized "java/lang/IndexOutOfBoundsException", .methodLink RX2 40 yX2_studentAt, .instanceMethod yX2_studentAt, .selects RX2 yX2_studentAt yX2_studentAt, .code yX2_studentAt cX2_studentAt 3 (some (.object "Homekeys$Student")), .fieldLink RX2 11 "Homekeys" "students" "[LHomekeys$Student;", .methodLink RX2 70 yX2_at, .static yX2_at, .code yX2_at cX2_at 2 (some .int)] ++ wsX10 ++ wsX20 ++ (vx_atS RX2 106 "java/lang/IndexOutOfBoundsException" ["java/lang/RuntimeException", "java/lang/Exception"]).filter goodWord)
def wsL_time_r1 : List Cond := [Cond.classLink RL 19 "java/lang/IndexOutOfBoundsException", Cond.methodLink RL 50 yX2_time, Cond.instanceMethod yX2_time, Cond.selects RX2 yX2_time yX2_time, Cond.initialized RX2, Cond.code yX2_time cX2_time 2 (some .int), Cond.methodLink RX2 40 yX2_studentAt, Cond.instanceMethod yX2_studentAt, Cond.selects RX2 yX2_studentAt yX2_studentAt, Cond.code yX2_studentAt cX2_studentAt 3 (some (.object "Homekeys$Student")), Cond.classLink RX2 102 "java/lang/IndexOutOfBoundsException", Cond.initialized "java/lang/IndexOutOfBoundsException", Cond.fieldLink RX2 11 "Homekeys" "students" "[LHomekeys$Student;", Cond.instanceMethod yX1_timeWith, Cond.initialized RX1, Cond.selects RX1 yX1_timeWith yX1_timeWith, Cond.code yX1_timeWith cX1_timeWith 3 (some .int), Cond.fieldLink RX1 28 "Homekeys$Student" "typed" "[I", Cond.fieldLink RX1 31 "Homekeys$Student" "kept" "I", Cond.fieldLink RX1 9 "Homekeys$Student" "keys" "[I", Cond.static yX2_textTime, Cond.code yX2_textTime cX2_textTime 9 (some .int), Cond.methodLink RX2 70 yX2_at, Cond.static yX2_at]
def wsL_time_r2 : List Cond := [Cond.code yX2_at cX2_at 2 (some .int), Cond.methodLink RX2 212 yX2_swapped, Cond.static yX2_swapped, Cond.code yX2_swapped cX2_swapped 3 (some .int), Cond.methodLink RX2 216 yX2_stepTime, Cond.static yX2_stepTime, Cond.code yX2_stepTime cX2_stepTime 2 (some .int), Cond.methodLink RX2 204 Lib.Math.abs.name, Cond.static Lib.Math.abs.name, Cond.initialized "java/lang/Math", Cond.code Lib.Math.abs.name Lib.Math.abs.code 1 (some .int), Cond.methodLink RX2 198 yX2_fingerOf, Cond.static yX2_fingerOf, Cond.code yX2_fingerOf cX2_fingerOf 1 (some .int), Cond.methodLink RX2 201 yX2_rowOf, Cond.static yX2_rowOf, Cond.code yX2_rowOf cX2_rowOf 1 (some .int), Cond.methodLink RX2 209 yX2_handOf, Cond.static yX2_handOf, Cond.code yX2_handOf cX2_handOf 1 (some .int)]
def wsL_time : List Cond := .codeWith yL_time cL_time 4 (some .int) [(0, 9, 12, 19)] :: ((wsL_time_r1 ++ wsL_time_r2) ++ wsX20 ++ wsX10 ++ (vx_atS RX2 106 "java/lang/IndexOutOfBoundsException" ["java/lang/RuntimeException", "java/lang/Exception"]).filter goodWord)
def wsL_timeAnew_r1 : List Cond := [Cond.classLink RL 19 "java/lang/IndexOutOfBoundsException", Cond.methodLink RL 53 yX2_timeAnew, Cond.instanceMethod yX2_timeAnew, Cond.selects RX2 yX2_timeAnew yX2_timeAnew, Cond.initialized RX2, Cond.code yX2_timeAnew cX2_timeAnew 2 (some .int), Cond.fieldLink RX2 29 "Homekeys" "follows" "[I", Cond.methodLink RX2 40 yX2_studentAt, Cond.instanceMethod yX2_studentAt, Cond.selects RX2 yX2_studentAt yX2_studentAt, Cond.code yX2_studentAt cX2_studentAt 3 (some (.object "Homekeys$Student")), Cond.classLink RX2 102 "java/lang/IndexOutOfBoundsException", Cond.initialized "java/lang/IndexOutOfBoundsException", Cond.fieldLink RX2 11 "Homekeys" "students" "[LHomekeys$Student;", Cond.instanceMethod yX1_timeByCounts, Cond.initialized RX1, Cond.selects RX1 yX1_timeByCounts yX1_timeByCounts, Cond.code yX1_timeByCounts cX1_timeByCounts 6 (some .int), Cond.fieldLink RX1 31 "Homekeys$Student" "kept" "I", Cond.fieldLink RX1 28 "Homekeys$Student" "typed" "[I", Cond.fieldLink RX1 9 "Homekeys$Student" "keys" "[I", Cond.methodLink RX1 73 yJ7_fill_53178, Cond.static yJ7_fill_53178, Cond.initialized RJ7]
def wsL_timeAnew_r2 : List Cond := [Cond.code yJ7_fill_53178 cJ7_fill_53178 4 none, Cond.static yX2_at, Cond.code yX2_at cX2_at 2 (some .int), Cond.static yX2_pairPlace, Cond.code yX2_pairPlace cX2_pairPlace 2 (some .int), Cond.static yX2_count, Cond.code yX2_count cX2_count 2 none, Cond.methodLink RX2 70 yX2_at, Cond.methodLink RX2 131 yX2_put, Cond.static yX2_put, Cond.code yX2_put cX2_put 3 none, Cond.static yX2_stepTime, Cond.code yX2_stepTime cX2_stepTime 2 (some .int), Cond.methodLink RX2 204 Lib.Math.abs.name, Cond.static Lib.Math.abs.name, Cond.initialized "java/lang/Math", Cond.code Lib.Math.abs.name Lib.Math.abs.code 1 (some .int), Cond.methodLink RX2 198 yX2_fingerOf, Cond.static yX2_fingerOf, Cond.code yX2_fingerOf cX2_fingerOf 1 (some .int), Cond.methodLink RX2 201 yX2_rowOf, Cond.static yX2_rowOf, Cond.code yX2_rowOf cX2_rowOf 1 (some .int), Cond.methodLink RX2 209 yX2_handOf]
def wsL_timeAnew_r3 : List Cond := [Cond.static yX2_handOf, Cond.code yX2_handOf cX2_handOf 1 (some .int)]
def wsL_timeAnew : List Cond := .codeWith yL_timeAnew cL_timeAnew 4 (some .int) [(0, 9, 12, 19)] :: ((wsL_timeAnew_r1 ++ (wsL_timeAnew_r2 ++ wsL_timeAnew_r3)) ++ wsX20 ++ wsX10 ++ (vx_atS RX2 106 "java/lang/IndexOutOfBoundsException" ["java/lang/RuntimeException", "java/lang/Exception"]).filter goodWord)
def wsL_lesson_r1 : List Cond := [Cond.classLink RL 19 "java/lang/IndexOutOfBoundsException", Cond.methodLink RL 56 yX2_lesson, Cond.instanceMethod yX2_lesson, Cond.selects RX2 yX2_lesson yX2_lesson, Cond.initialized RX2, Cond.code yX2_lesson cX2_lesson 4 (some .int), Cond.classLink RX2 102 "java/lang/IndexOutOfBoundsException", Cond.initialized "java/lang/IndexOutOfBoundsException", Cond.methodLink RX2 40 yX2_studentAt, Cond.instanceMethod yX2_studentAt, Cond.selects RX2 yX2_studentAt yX2_studentAt, Cond.code yX2_studentAt cX2_studentAt 3 (some (.object "Homekeys$Student")), Cond.fieldLink RX2 11 "Homekeys" "students" "[LHomekeys$Student;", Cond.instanceMethod yX1_slippingLetter, Cond.initialized RX1, Cond.selects RX1 yX1_slippingLetter yX1_slippingLetter, Cond.code yX1_slippingLetter cX1_slippingLetter 4 (some .int), Cond.methodLink RX1 81 yX1_lettersAhead, Cond.instanceMethod yX1_lettersAhead, Cond.selects RX1 yX1_lettersAhead yX1_lettersAhead, Cond.code yX1_lettersAhead cX1_lettersAhead 6 (some .int), Cond.methodLink RX1 85 yX1_letterSlips, Cond.instanceMethod yX1_letterSlips, Cond.selects RX1 yX1_letterSlips yX1_letterSlips]
def wsL_lesson_r2 : List Cond := [Cond.code yX1_letterSlips cX1_letterSlips 2 (some .int), Cond.fieldLink RX1 22 "Homekeys$Student" "keySlips" "[I", Cond.fieldLink RX1 9 "Homekeys$Student" "keys" "[I", Cond.static yX2_at, Cond.code yX2_at cX2_at 2 (some .int)]
def wsL_lesson : List Cond := .codeWith yL_lesson cL_lesson 5 (some .int) [(0, 10, 13, 19)] :: ((wsL_lesson_r1 ++ wsL_lesson_r2) ++ wsX20 ++ wsX10 ++ (vx_atS RX2 106 "java/lang/IndexOutOfBoundsException" ["java/lang/RuntimeException", "java/lang/Exception"]).filter goodWord)
def wsL_saves_r1 : List Cond := [Cond.classLink RL 19 "java/lang/IndexOutOfBoundsException", Cond.classLink RL 21 "java/lang/IllegalArgumentException", Cond.methodLink RL 59 yX2_saves, Cond.instanceMethod yX2_saves, Cond.selects RX2 yX2_saves yX2_saves, Cond.initialized RX2, Cond.code yX2_saves cX2_saves 5 (some .int), Cond.methodLink RX2 40 yX2_studentAt, Cond.instanceMethod yX2_studentAt, Cond.selects RX2 yX2_studentAt yX2_studentAt, Cond.code yX2_studentAt cX2_studentAt 3 (some (.object "Homekeys$Student")), Cond.classLink RX2 102 "java/lang/IndexOutOfBoundsException", Cond.initialized "java/lang/IndexOutOfBoundsException", Cond.fieldLink RX2 11 "Homekeys" "students" "[LHomekeys$Student;", Cond.methodLink RX2 52 yX2_needTwoKeys, Cond.static yX2_needTwoKeys, Cond.code yX2_needTwoKeys cX2_needTwoKeys 2 none, Cond.classLink RX2 44 "java/lang/IllegalArgumentException", Cond.initialized "java/lang/IllegalArgumentException", Cond.methodLink RX2 74 yX2_needKey, Cond.static yX2_needKey, Cond.code yX2_needKey cX2_needKey 1 none, Cond.instanceMethod yX1_savedBy, Cond.initialized RX1]
def wsL_saves_r2 : List Cond := [Cond.selects RX1 yX1_savedBy yX1_savedBy, Cond.code yX1_savedBy cX1_savedBy 3 (some .int), Cond.methodLink RX1 70 yX1_timeWith, Cond.instanceMethod yX1_timeWith, Cond.selects RX1 yX1_timeWith yX1_timeWith, Cond.code yX1_timeWith cX1_timeWith 3 (some .int), Cond.fieldLink RX1 28 "Homekeys$Student" "typed" "[I", Cond.fieldLink RX1 31 "Homekeys$Student" "kept" "I", Cond.fieldLink RX1 9 "Homekeys$Student" "keys" "[I", Cond.static yX2_textTime, Cond.code yX2_textTime cX2_textTime 9 (some .int), Cond.methodLink RX2 70 yX2_at, Cond.static yX2_at, Cond.code yX2_at cX2_at 2 (some .int), Cond.methodLink RX2 212 yX2_swapped, Cond.static yX2_swapped, Cond.code yX2_swapped cX2_swapped 3 (some .int), Cond.methodLink RX2 216 yX2_stepTime, Cond.static yX2_stepTime, Cond.code yX2_stepTime cX2_stepTime 2 (some .int), Cond.methodLink RX2 204 Lib.Math.abs.name, Cond.static Lib.Math.abs.name, Cond.initialized "java/lang/Math", Cond.code Lib.Math.abs.name Lib.Math.abs.code 1 (some .int)]
def wsL_saves_r3 : List Cond := [Cond.methodLink RX2 198 yX2_fingerOf, Cond.static yX2_fingerOf, Cond.code yX2_fingerOf cX2_fingerOf 1 (some .int), Cond.methodLink RX2 201 yX2_rowOf, Cond.static yX2_rowOf, Cond.code yX2_rowOf cX2_rowOf 1 (some .int), Cond.methodLink RX2 209 yX2_handOf, Cond.static yX2_handOf, Cond.code yX2_handOf cX2_handOf 1 (some .int)]
def wsL_saves : List Cond := .codeWith yL_saves cL_saves 6 (some .int) [(0, 12, 15, 19), (0, 12, 19, 21)] :: ((wsL_saves_r1 ++ (wsL_saves_r2 ++ wsL_saves_r3)) ++ wsX20 ++ wsX10 ++ (vx_atS RX2 106 "java/lang/IndexOutOfBoundsException" ["java/lang/RuntimeException", "java/lang/Exception"]).filter goodWord ++ (vx_atS RX2 48 "java/lang/IllegalArgumentException" ["java/lang/RuntimeException", "java/lang/Exception"]).filter goodWord)
def wsL_best_r1 : List Cond := [Cond.classLink RL 19 "java/lang/IndexOutOfBoundsException", Cond.methodLink RL 62 yX2_best, Cond.instanceMethod yX2_best, Cond.selects RX2 yX2_best yX2_best, Cond.initialized RX2, Cond.code yX2_best cX2_best 2 (some .int), Cond.methodLink RX2 40 yX2_studentAt, Cond.instanceMethod yX2_studentAt, Cond.selects RX2 yX2_studentAt yX2_studentAt, Cond.code yX2_studentAt cX2_studentAt 3 (some (.object "Homekeys$Student")), Cond.classLink RX2 102 "java/lang/IndexOutOfBoundsException", Cond.initialized "java/lang/IndexOutOfBoundsException", Cond.fieldLink RX2 11 "Homekeys" "students" "[LHomekeys$Student;", Cond.instanceMethod yX1_bestExchange, Cond.initialized RX1, Cond.selects RX1 yX1_bestExchange yX1_bestExchange, Cond.code yX1_bestExchange cX1_bestExchange 7 (some .int), Cond.methodLink RX1 70 yX1_timeWith, Cond.instanceMethod yX1_timeWith, Cond.selects RX1 yX1_timeWith yX1_timeWith, Cond.code yX1_timeWith cX1_timeWith 3 (some .int), Cond.fieldLink RX1 28 "Homekeys$Student" "typed" "[I", Cond.fieldLink RX1 31 "Homekeys$Student" "kept" "I", Cond.fieldLink RX1 9 "Homekeys$Student" "keys" "[I"]
def wsL_best_r2 : List Cond := [Cond.static yX2_textTime, Cond.code yX2_textTime cX2_textTime 9 (some .int), Cond.methodLink RX2 70 yX2_at, Cond.static yX2_at, Cond.code yX2_at cX2_at 2 (some .int), Cond.methodLink RX2 212 yX2_swapped, Cond.static yX2_swapped, Cond.code yX2_swapped cX2_swapped 3 (some .int), Cond.methodLink RX2 216 yX2_stepTime, Cond.static yX2_stepTime, Cond.code yX2_stepTime cX2_stepTime 2 (some .int), Cond.methodLink RX2 204 Lib.Math.abs.name, Cond.static Lib.Math.abs.name, Cond.initialized "java/lang/Math", Cond.code Lib.Math.abs.name Lib.Math.abs.code 1 (some .int), Cond.methodLink RX2 198 yX2_fingerOf, Cond.static yX2_fingerOf, Cond.code yX2_fingerOf cX2_fingerOf 1 (some .int), Cond.methodLink RX2 201 yX2_rowOf, Cond.static yX2_rowOf, Cond.code yX2_rowOf cX2_rowOf 1 (some .int), Cond.methodLink RX2 209 yX2_handOf, Cond.static yX2_handOf, Cond.code yX2_handOf cX2_handOf 1 (some .int)]
def wsL_best : List Cond := .codeWith yL_best cL_best 4 (some .int) [(0, 9, 12, 19)] :: ((wsL_best_r1 ++ wsL_best_r2) ++ wsX20 ++ wsX10 ++ (vx_atS RX2 106 "java/lang/IndexOutOfBoundsException" ["java/lang/RuntimeException", "java/lang/Exception"]).filter goodWord)
def wsL_draft : List Cond := .codeWith yL_draft cL_draft 4 (some .int) [(0, 9, 12, 19), (0, 9, 15, 13)] :: ([.classLink RL 19 "java/lang/IndexOutOfBoundsException", .classLink RL 13 "java/lang/IllegalStateException", .methodLink RL 65 yX2_draft, .instanceMethod yX2_draft, .selects RX2 yX2_draft yX2_draft, .initialized RX2, .code yX2_draft cX2_draft 2 (some .int), .classLink RX2 33 "java/lang/IllegalStateException", .initialized "java/lang/IllegalStateException", .fieldLink RX2 25 "Homekeys" "drafted" "I", .fieldLink RX2 21 "Homekeys" "draft" "[I", .methodLink RX2 63 yX2_needLetter, .static yX2_needLetter, .code yX2_needLetter cX2_needLetter 1 none, .classLink RX2 102 "java/lang/IndexOutOfBoundsException", .initialized "java/lang/IndexOutOfBoundsException", .methodLink RX2 131 yX2_put, .static yX2_put, .code yX2_put cX2_put 3 none] ++ wsX20 ++ (vx_atS RX2 37 "java/lang/IllegalStateException" ["java/lang/RuntimeException", "java/lang/Exception"]).filter goodWord ++ (vx_atS RX2 106 "java/lang/IndexOutOfBoundsException" ["java/lang/RuntimeException", "java/lang/Exception"]).filter goodWord)
def wsL_contest_r1 : List Cond := [Cond.classLink RL 13 "java/lang/IllegalStateException", Cond.methodLink RL 68 yX2_contest, Cond.instanceMethod yX2_contest, Cond.selects RX2 yX2_contest yX2_contest, Cond.initialized RX2, Cond.code yX2_contest cX2_contest 2 (some .int), Cond.classLink RX2 33 "java/lang/IllegalStateException", Cond.initialized "java/lang/IllegalStateException", Cond.fieldLink RX2 25 "Homekeys" "drafted" "I", Cond.fieldLink RX2 11 "Homekeys" "students" "[LHomekeys$Student;", Cond.fieldLink RX2 17 "Homekeys" "contests" "[LHomekeys$Contest;", Cond.methodLink RX2 139 yX2_contestOfDraft, Cond.instanceMethod yX2_contestOfDraft, Cond.selects RX2 yX2_contestOfDraft yX2_contestOfDraft, Cond.code yX2_contestOfDraft cX2_contestOfDraft 4 (some (.object "Homekeys$Contest")), Cond.classLink RX2 15 RX0, Cond.instantiable RX0 3, Cond.initialized RX0, Cond.fieldLink RX2 21 "Homekeys" "draft" "[I", Cond.instanceMethod yX0_init, Cond.code yX0_init cX0_init 1 none, Cond.methodLink RX0 3 objectInit, Cond.instanceMethod objectInit, Cond.code objectInit ⟨#[0xb1]⟩ 1 none]
def wsL_contest_r2 : List Cond := [Cond.arrayClass .int, Cond.fieldLink RX0 9 "Homekeys$Contest" "times" "[I", Cond.fieldLink RX0 15 "Homekeys$Contest" "ticks" "[I", Cond.fieldLink RX0 18 "Homekeys$Contest" "scores" "[I", Cond.methodLink RX2 194 yX2_textTime, Cond.static yX2_textTime, Cond.code yX2_textTime cX2_textTime 9 (some .int), Cond.methodLink RX2 70 yX2_at, Cond.static yX2_at, Cond.code yX2_at cX2_at 2 (some .int), Cond.methodLink RX2 212 yX2_swapped, Cond.static yX2_swapped, Cond.code yX2_swapped cX2_swapped 3 (some .int), Cond.methodLink RX2 216 yX2_stepTime, Cond.static yX2_stepTime, Cond.code yX2_stepTime cX2_stepTime 2 (some .int), Cond.methodLink RX2 204 Lib.Math.abs.name, Cond.static Lib.Math.abs.name, Cond.initialized "java/lang/Math", Cond.code Lib.Math.abs.name Lib.Math.abs.code 1 (some .int), Cond.methodLink RX2 198 yX2_fingerOf, Cond.static yX2_fingerOf, Cond.code yX2_fingerOf cX2_fingerOf 1 (some .int), Cond.methodLink RX2 201 yX2_rowOf]
def wsL_contest_r3 : List Cond := [Cond.static yX2_rowOf, Cond.code yX2_rowOf cX2_rowOf 1 (some .int), Cond.methodLink RX2 209 yX2_handOf, Cond.static yX2_handOf, Cond.code yX2_handOf cX2_handOf 1 (some .int), Cond.methodLink RX2 131 yX2_put, Cond.static yX2_put, Cond.code yX2_put cX2_put 3 none]
def wsL_contest : List Cond := .codeWith yL_contest cL_contest 3 (some .int) [(0, 8, 11, 13)] :: ((wsL_contest_r1 ++ (wsL_contest_r2 ++ wsL_contest_r3)) ++ wsX20 ++ wsX00 ++ wsX10 ++ (vx_atS RX2 37 "java/lang/IllegalStateException" ["java/lang/RuntimeException", "java/lang/Exception"]).filter goodWord)
def wsL_result_r1 : List Cond := [Cond.classLink RL 19 "java/lang/IndexOutOfBoundsException", Cond.classLink RL 21 "java/lang/IllegalArgumentException", Cond.classLink RL 13 "java/lang/IllegalStateException", Cond.methodLink RL 71 yX2_result, Cond.instanceMethod yX2_result, Cond.selects RX2 yX2_result yX2_result, Cond.initialized RX2, Cond.code yX2_result cX2_result 7 (some .int), Cond.classLink RX2 44 "java/lang/IllegalArgumentException", Cond.initialized "java/lang/IllegalArgumentException", Cond.classLink RX2 33 "java/lang/IllegalStateException", Cond.initialized "java/lang/IllegalStateException", Cond.constant RX2 153 (99999), Cond.methodLink RX2 145 yX2_contestAt, Cond.instanceMethod yX2_contestAt, Cond.selects RX2 yX2_contestAt yX2_contestAt, Cond.code yX2_contestAt cX2_contestAt 3 (some (.object "Homekeys$Contest")), Cond.classLink RX2 102 "java/lang/IndexOutOfBoundsException", Cond.initialized "java/lang/IndexOutOfBoundsException", Cond.fieldLink RX2 17 "Homekeys" "contests" "[LHomekeys$Contest;", Cond.methodLink RX2 149 yX2_entrantTime, Cond.static yX2_entrantTime, Cond.code yX2_entrantTime cX2_entrantTime 3 (some .int), Cond.methodLink RX2 70 yX2_at]
def wsL_result_r2 : List Cond := [Cond.static yX2_at, Cond.code yX2_at cX2_at 2 (some .int), Cond.instanceMethod yX0_hasResult, Cond.initialized RX0, Cond.selects RX0 yX0_hasResult yX0_hasResult, Cond.code yX0_hasResult cX0_hasResult 2 (some .boolean), Cond.fieldLink RX0 15 "Homekeys$Contest" "ticks" "[I", Cond.methodLink RX2 131 yX2_put, Cond.static yX2_put, Cond.code yX2_put cX2_put 3 none]
def wsL_result : List Cond := .codeWith yL_result cL_result 6 (some .int) [(0, 12, 15, 19), (0, 12, 19, 21), (0, 12, 23, 13)] :: ((wsL_result_r1 ++ wsL_result_r2) ++ wsX00 ++ wsX20 ++ (vx_atS RX2 48 "java/lang/IllegalArgumentException" ["java/lang/RuntimeException", "java/lang/Exception"]).filter goodWord ++ (vx_atS RX2 37 "java/lang/IllegalStateException" ["java/lang/RuntimeException", "java/lang/Exception"]).filter goodWord ++ (vx_atS RX2 106 "java/lang/IndexOutOfBoundsException" ["java/lang/RuntimeException", "java/lang/Exception"]).filter goodWord)
def wsL_of_r1 : List Cond := [Cond.classLink RL 19 "java/lang/IndexOutOfBoundsException", Cond.classLink RL 21 "java/lang/IllegalArgumentException", Cond.methodLink RL 74 yX2_of, Cond.instanceMethod yX2_of, Cond.selects RX2 yX2_of yX2_of, Cond.initialized RX2, Cond.code yX2_of cX2_of 6 (some .int), Cond.classLink RX2 44 "java/lang/IllegalArgumentException", Cond.initialized "java/lang/IllegalArgumentException", Cond.methodLink RX2 145 yX2_contestAt, Cond.instanceMethod yX2_contestAt, Cond.selects RX2 yX2_contestAt yX2_contestAt, Cond.code yX2_contestAt cX2_contestAt 3 (some (.object "Homekeys$Contest")), Cond.classLink RX2 102 "java/lang/IndexOutOfBoundsException", Cond.initialized "java/lang/IndexOutOfBoundsException", Cond.fieldLink RX2 17 "Homekeys" "contests" "[LHomekeys$Contest;", Cond.methodLink RX2 149 yX2_entrantTime, Cond.static yX2_entrantTime, Cond.code yX2_entrantTime cX2_entrantTime 3 (some .int), Cond.methodLink RX2 70 yX2_at, Cond.static yX2_at, Cond.code yX2_at cX2_at 2 (some .int), Cond.instanceMethod yX0_hasResult, Cond.initialized RX0]
def wsL_of_r2 : List Cond := [Cond.selects RX0 yX0_hasResult yX0_hasResult, Cond.code yX0_hasResult cX0_hasResult 2 (some .boolean), Cond.fieldLink RX0 15 "Homekeys$Contest" "ticks" "[I", Cond.instanceMethod yX0_told, Cond.selects RX0 yX0_told yX0_told, Cond.code yX0_told cX0_told 3 (some .int), Cond.fieldLink RX0 18 "Homekeys$Contest" "scores" "[I", Cond.methodLink RX0 25 yX0_rankOf, Cond.instanceMethod yX0_rankOf, Cond.selects RX0 yX0_rankOf yX0_rankOf, Cond.code yX0_rankOf cX0_rankOf 6 (some .int), Cond.methodLink RX0 29 yX0_hasResult]
def wsL_of : List Cond := .codeWith yL_of cL_of 6 (some .int) [(0, 12, 15, 19), (0, 12, 19, 21)] :: ((wsL_of_r1 ++ wsL_of_r2) ++ wsX20 ++ wsX00 ++ (vx_atS RX2 48 "java/lang/IllegalArgumentException" ["java/lang/RuntimeException", "java/lang/Exception"]).filter goodWord ++ (vx_atS RX2 106 "java/lang/IndexOutOfBoundsException" ["java/lang/RuntimeException", "java/lang/Exception"]).filter goodWord)
def wsL_ranked_r1 : List Cond := [Cond.classLink RL 19 "java/lang/IndexOutOfBoundsException", Cond.methodLink RL 77 yX2_ranked, Cond.instanceMethod yX2_ranked, Cond.selects RX2 yX2_ranked yX2_ranked, Cond.initialized RX2, Cond.code yX2_ranked cX2_ranked 4 (some .int), Cond.classLink RX2 102 "java/lang/IndexOutOfBoundsException", Cond.initialized "java/lang/IndexOutOfBoundsException", Cond.methodLink RX2 145 yX2_contestAt, Cond.instanceMethod yX2_contestAt, Cond.selects RX2 yX2_contestAt yX2_contestAt, Cond.code yX2_contestAt cX2_contestAt 3 (some (.object "Homekeys$Contest")), Cond.fieldLink RX2 17 "Homekeys" "contests" "[LHomekeys$Contest;", Cond.instanceMethod yX0_holderOf, Cond.initialized RX0, Cond.selects RX0 yX0_holderOf yX0_holderOf, Cond.code yX0_holderOf cX0_holderOf 3 (some .int), Cond.methodLink RX0 29 yX0_hasResult, Cond.instanceMethod yX0_hasResult, Cond.selects RX0 yX0_hasResult yX0_hasResult, Cond.code yX0_hasResult cX0_hasResult 2 (some .boolean), Cond.fieldLink RX0 15 "Homekeys$Contest" "ticks" "[I", Cond.static yX2_at, Cond.code yX2_at cX2_at 2 (some .int)]
def wsL_ranked_r2 : List Cond := [Cond.methodLink RX0 25 yX0_rankOf, Cond.instanceMethod yX0_rankOf, Cond.selects RX0 yX0_rankOf yX0_rankOf, Cond.code yX0_rankOf cX0_rankOf 6 (some .int), Cond.fieldLink RX0 18 "Homekeys$Contest" "scores" "[I"]
def wsL_ranked : List Cond := .codeWith yL_ranked cL_ranked 5 (some .int) [(0, 10, 13, 19)] :: ((wsL_ranked_r1 ++ wsL_ranked_r2) ++ wsX20 ++ wsX00 ++ (vx_atS RX2 106 "java/lang/IndexOutOfBoundsException" ["java/lang/RuntimeException", "java/lang/Exception"]).filter goodWord)
def wsL_law0_r1 : List Cond := [Cond.classLink RL 8 RX2, Cond.instantiable RX2 5, Cond.initialized RX2, Cond.classLink RL 81 RX3, Cond.instantiable RX3 17, Cond.initialized RX3, Cond.arrayClass .long, Cond.methodLink RL 80 yX2_init, Cond.instanceMethod yX2_init, Cond.code yX2_init cX2_init 1 none, Cond.methodLink RX2 1 objectInit, Cond.instanceMethod objectInit, Cond.code objectInit ⟨#[0xb1]⟩ 1 none, Cond.classLink RX2 9 RX1, Cond.fieldLink RX2 11 "Homekeys" "students" "[LHomekeys$Student;", Cond.classLink RX2 15 RX0, Cond.fieldLink RX2 17 "Homekeys" "contests" "[LHomekeys$Contest;", Cond.arrayClass .int, Cond.fieldLink RX2 21 "Homekeys" "draft" "[I", Cond.fieldLink RX2 25 "Homekeys" "drafted" "I", Cond.fieldLink RX2 29 "Homekeys" "follows" "[I", Cond.methodLink RL 83 yX3_init, Cond.instanceMethod yX3_init, Cond.code yX3_init cX3_init 2 none]
def wsL_law0_r2 : List Cond := [Cond.methodLink RX3 1 objectInit, Cond.fieldLink RX3 7 "HomekeysModel" "keys" "[I", Cond.fieldLink RX3 13 "HomekeysModel" "letters" "[I", Cond.fieldLink RX3 16 "HomekeysModel" "way" "[I", Cond.fieldLink RX3 19 "HomekeysModel" "slips" "[I", Cond.fieldLink RX3 22 "HomekeysModel" "pairs" "[I", Cond.fieldLink RX3 25 "HomekeysModel" "pressed" "[I", Cond.fieldLink RX3 28 "HomekeysModel" "last" "[I", Cond.fieldLink RX3 31 "HomekeysModel" "kept" "[I", Cond.fieldLink RX3 34 "HomekeysModel" "history" "[I", Cond.fieldLink RX3 37 "HomekeysModel" "draft" "[I", Cond.fieldLink RX3 40 "HomekeysModel" "within" "[I", Cond.fieldLink RX3 43 "HomekeysModel" "texts" "[I", Cond.fieldLink RX3 46 "HomekeysModel" "ticks" "[I", Cond.methodLink RL 84 yL_student, Cond.static yL_student, Cond.initialized RL, Cond.codeWith yL_student cL_student 3 (some .int) [(0, 8, 11, 13)], Cond.classLink RL 13 "java/lang/IllegalStateException", Cond.methodLink RL 7 yX2_student, Cond.instanceMethod yX2_student, Cond.selects RX2 yX2_student yX2_student, Cond.code yX2_student cX2_student 2 (some .int), Cond.classLink RX2 33 "java/lang/IllegalStateException"]
def wsL_law0_r3 : List Cond := [Cond.initialized "java/lang/IllegalStateException", Cond.instantiable RX1 8, Cond.initialized RX1, Cond.instanceMethod yX1_init, Cond.code yX1_init cX1_init 2 none, Cond.methodLink RX1 3 objectInit, Cond.fieldLink RX1 9 "Homekeys$Student" "keys" "[I", Cond.fieldLink RX1 15 "Homekeys$Student" "letters" "[I", Cond.fieldLink RX1 18 "Homekeys$Student" "way" "I", Cond.fieldLink RX1 22 "Homekeys$Student" "keySlips" "[I", Cond.fieldLink RX1 25 "Homekeys$Student" "pairSlips" "[I", Cond.fieldLink RX1 28 "Homekeys$Student" "typed" "[I", Cond.fieldLink RX1 31 "Homekeys$Student" "kept" "I", Cond.fieldLink RX1 34 "Homekeys$Student" "presses" "I", Cond.static yX2_put, Cond.code yX2_put cX2_put 3 none, Cond.methodLink RL 89 yX3_student, Cond.instanceMethod yX3_student, Cond.selects RX3 yX3_student yX3_student, Cond.code yX3_student cX3_student 1 (some .int), Cond.fieldLink RX3 53 "HomekeysModel" "students" "I", Cond.methodLink RX3 72 yX3_refused, Cond.instanceMethod yX3_refused, Cond.selects RX3 yX3_refused yX3_refused]
def wsL_law0_r4 : List Cond := [Cond.code yX3_refused cX3_refused 2 (some .boolean), Cond.fieldLink RX3 49 "HomekeysModel" "refusal" "I", Cond.methodLink RL 90 yX3_thrown, Cond.instanceMethod yX3_thrown, Cond.selects RX3 yX3_thrown yX3_thrown, Cond.code yX3_thrown cX3_thrown 1 (some .int), Cond.methodLink RL 93 yL_carry, Cond.static yL_carry, Cond.codeWith yL_carry cL_carry 5 (some .int) [(0, 10, 13, 19), (0, 10, 17, 21)], Cond.classLink RL 19 "java/lang/IndexOutOfBoundsException", Cond.classLink RL 21 "java/lang/IllegalArgumentException", Cond.methodLink RL 15 yX2_carry, Cond.instanceMethod yX2_carry, Cond.selects RX2 yX2_carry yX2_carry, Cond.code yX2_carry cX2_carry 5 (some .int), Cond.classLink RX2 44 "java/lang/IllegalArgumentException", Cond.initialized "java/lang/IllegalArgumentException", Cond.methodLink RX2 40 yX2_studentAt, Cond.instanceMethod yX2_studentAt, Cond.selects RX2 yX2_studentAt yX2_studentAt, Cond.code yX2_studentAt cX2_studentAt 3 (some (.object "Homekeys$Student")), Cond.classLink RX2 102 "java/lang/IndexOutOfBoundsException", Cond.initialized "java/lang/IndexOutOfBoundsException", Cond.methodLink RL 96 yX3_carry]
def wsL_law0_r5 : List Cond := [Cond.instanceMethod yX3_carry, Cond.selects RX3 yX3_carry yX3_carry, Cond.code yX3_carry cX3_carry 4 (some .int), Cond.methodLink RX3 76 yX3_isStudent, Cond.instanceMethod yX3_isStudent, Cond.selects RX3 yX3_isStudent yX3_isStudent, Cond.code yX3_isStudent cX3_isStudent 2 (some .boolean), Cond.methodLink RX3 56 yX3_is, Cond.static yX3_is, Cond.code yX3_is cX3_is 3 (some .boolean), Cond.methodLink RL 97 yL_swap, Cond.static yL_swap, Cond.codeWith yL_swap cL_swap 6 (some .int) [(0, 12, 15, 19), (0, 12, 19, 21)], Cond.methodLink RL 23 yX2_swap, Cond.instanceMethod yX2_swap, Cond.selects RX2 yX2_swap yX2_swap, Cond.code yX2_swap cX2_swap 6 (some .int), Cond.methodLink RX2 52 yX2_needTwoKeys, Cond.static yX2_needTwoKeys, Cond.code yX2_needTwoKeys cX2_needTwoKeys 2 none, Cond.methodLink RX2 74 yX2_needKey, Cond.static yX2_needKey, Cond.code yX2_needKey cX2_needKey 1 none, Cond.instanceMethod yX1_savedBy]
def wsL_law0_r6 : List Cond := [Cond.selects RX1 yX1_savedBy yX1_savedBy, Cond.code yX1_savedBy cX1_savedBy 3 (some .int), Cond.methodLink RX1 70 yX1_timeWith, Cond.instanceMethod yX1_timeWith, Cond.selects RX1 yX1_timeWith yX1_timeWith, Cond.code yX1_timeWith cX1_timeWith 3 (some .int), Cond.static yX2_textTime, Cond.code yX2_textTime cX2_textTime 9 (some .int), Cond.methodLink RX2 70 yX2_at, Cond.static yX2_at, Cond.code yX2_at cX2_at 2 (some .int), Cond.methodLink RX2 212 yX2_swapped, Cond.static yX2_swapped, Cond.code yX2_swapped cX2_swapped 3 (some .int), Cond.methodLink RX2 216 yX2_stepTime, Cond.static yX2_stepTime, Cond.code yX2_stepTime cX2_stepTime 2 (some .int), Cond.methodLink RX2 204 Lib.Math.abs.name, Cond.static Lib.Math.abs.name, Cond.initialized "java/lang/Math", Cond.code Lib.Math.abs.name Lib.Math.abs.code 1 (some .int), Cond.methodLink RX2 198 yX2_fingerOf, Cond.static yX2_fingerOf, Cond.code yX2_fingerOf cX2_fingerOf 1 (some .int)]
def wsL_law0_r7 : List Cond := [Cond.methodLink RX2 201 yX2_rowOf, Cond.static yX2_rowOf, Cond.code yX2_rowOf cX2_rowOf 1 (some .int), Cond.methodLink RX2 209 yX2_handOf, Cond.static yX2_handOf, Cond.code yX2_handOf cX2_handOf 1 (some .int), Cond.instanceMethod yX1_exchange, Cond.selects RX1 yX1_exchange yX1_exchange, Cond.code yX1_exchange cX1_exchange 6 none, Cond.methodLink RL 100 yX3_swap, Cond.instanceMethod yX3_swap, Cond.selects RX3 yX3_swap yX3_swap, Cond.code yX3_swap cX3_swap 8 (some .int), Cond.methodLink RX3 82 yX3_why, Cond.instanceMethod yX3_why, Cond.selects RX3 yX3_why yX3_why, Cond.code yX3_why cX3_why 5 (some .int), Cond.methodLink RX3 79 yX3_isKey, Cond.static yX3_isKey, Cond.code yX3_isKey cX3_isKey 1 (some .boolean), Cond.methodLink RX3 85 yX3_saved, Cond.instanceMethod yX3_saved, Cond.selects RX3 yX3_saved yX3_saved, Cond.code yX3_saved cX3_saved 4 (some .int)]
def wsL_law0_r8 : List Cond := [Cond.methodLink RX3 68 yX3_timeWith, Cond.instanceMethod yX3_timeWith, Cond.selects RX3 yX3_timeWith yX3_timeWith, Cond.code yX3_timeWith cX3_timeWith 7 (some .int), Cond.methodLink RX3 60 yX3_keyWith, Cond.instanceMethod yX3_keyWith, Cond.selects RX3 yX3_keyWith yX3_keyWith, Cond.code yX3_keyWith cX3_keyWith 6 (some .int), Cond.methodLink RX3 64 yX3_step, Cond.static yX3_step, Cond.code yX3_step cX3_step 2 (some .int), Cond.methodLink RL 101 yL_keyOf, Cond.static yL_keyOf, Cond.codeWith yL_keyOf cL_keyOf 5 (some .int) [(0, 10, 13, 19)], Cond.methodLink RL 27 yX2_keyOf, Cond.instanceMethod yX2_keyOf, Cond.selects RX2 yX2_keyOf yX2_keyOf, Cond.code yX2_keyOf cX2_keyOf 4 (some .int), Cond.methodLink RX2 63 yX2_needLetter, Cond.static yX2_needLetter, Cond.code yX2_needLetter cX2_needLetter 1 none, Cond.methodLink RL 103 yX3_keyOf, Cond.instanceMethod yX3_keyOf, Cond.selects RX3 yX3_keyOf yX3_keyOf]
def wsL_law0_r9 : List Cond := [Cond.code yX3_keyOf cX3_keyOf 3 (some .int), Cond.methodLink RL 104 yL_letterOn, Cond.static yL_letterOn, Cond.codeWith yL_letterOn cL_letterOn 5 (some .int) [(0, 10, 13, 19)], Cond.methodLink RL 30 yX2_letterOn, Cond.instanceMethod yX2_letterOn, Cond.selects RX2 yX2_letterOn yX2_letterOn, Cond.code yX2_letterOn cX2_letterOn 4 (some .int), Cond.methodLink RL 106 yX3_letterOn, Cond.instanceMethod yX3_letterOn, Cond.selects RX3 yX3_letterOn yX3_letterOn, Cond.code yX3_letterOn cX3_letterOn 3 (some .int), Cond.methodLink RL 107 yL_press, Cond.static yL_press, Cond.codeWith yL_press cL_press 6 (some .int) [(0, 19, 22, 19)], Cond.methodLink RL 33 yX2_press, Cond.instanceMethod yX2_press, Cond.selects RX2 yX2_press yX2_press, Cond.code yX2_press cX2_press 5 (some .boolean), Cond.instanceMethod yX1_type, Cond.selects RX1 yX1_type yX1_type, Cond.code yX1_type cX1_type 5 (some .boolean), Cond.static yX2_count, Cond.code yX2_count cX2_count 2 none]
def wsL_law0_r10 : List Cond := [Cond.methodLink RX2 131 yX2_put, Cond.static yX2_pairPlace, Cond.code yX2_pairPlace cX2_pairPlace 2 (some .int), Cond.methodLink RX1 53 yX1_keep, Cond.instanceMethod yX1_keep, Cond.selects RX1 yX1_keep yX1_keep, Cond.code yX1_keep cX1_keep 2 none, Cond.methodLink RX1 57 arraycopyName, Cond.native arraycopyName, Cond.static arraycopyName, Cond.initialized "java/lang/System", Cond.methodLink RL 109 yX3_press, Cond.instanceMethod yX3_press, Cond.selects RX3 yX3_press yX3_press, Cond.code yX3_press cX3_press 7 (some .boolean), Cond.methodLink RL 110 yL_slips, Cond.static yL_slips, Cond.codeWith yL_slips cL_slips 6 (some .int) [(0, 12, 15, 19), (0, 12, 19, 21)], Cond.methodLink RL 37 yX2_slips, Cond.instanceMethod yX2_slips, Cond.selects RX2 yX2_slips yX2_slips, Cond.code yX2_slips cX2_slips 5 (some .int), Cond.methodLink RX2 84 yX2_groups, Cond.static yX2_groups]
def wsL_law0_r11 : List Cond := [Cond.code yX2_groups cX2_groups 1 (some .int), Cond.instanceMethod yX1_slipsOf, Cond.selects RX1 yX1_slipsOf yX1_slipsOf, Cond.code yX1_slipsOf cX1_slipsOf 5 (some .int), Cond.static yX2_groupOf, Cond.code yX2_groupOf cX2_groupOf 2 (some .int), Cond.methodLink RL 112 yX3_slips, Cond.instanceMethod yX3_slips, Cond.selects RX3 yX3_slips yX3_slips, Cond.code yX3_slips cX3_slips 8 (some .int), Cond.methodLink RL 113 yL_pair, Cond.static yL_pair, Cond.codeWith yL_pair cL_pair 6 (some .int) [(0, 12, 15, 19)], Cond.methodLink RL 40 yX2_pair, Cond.instanceMethod yX2_pair, Cond.selects RX2 yX2_pair yX2_pair, Cond.code yX2_pair cX2_pair 5 (some .int), Cond.methodLink RX2 96 yX2_pairPlace, Cond.methodLink RL 115 yX3_pair, Cond.instanceMethod yX3_pair, Cond.selects RX3 yX3_pair yX3_pair, Cond.code yX3_pair cX3_pair 5 (some .int), Cond.methodLink RL 116 yL_pressed, Cond.static yL_pressed]
def wsL_law0_r12 : List Cond := [Cond.codeWith yL_pressed cL_pressed 4 (some .int) [(0, 9, 12, 19)], Cond.methodLink RL 43 yX2_pressed, Cond.instanceMethod yX2_pressed, Cond.selects RX2 yX2_pressed yX2_pressed, Cond.code yX2_pressed cX2_pressed 2 (some .int), Cond.methodLink RL 119 yX3_pressed, Cond.instanceMethod yX3_pressed, Cond.selects RX3 yX3_pressed yX3_pressed, Cond.code yX3_pressed cX3_pressed 2 (some .int), Cond.methodLink RL 120 yL_history, Cond.static yL_history, Cond.codeWith yL_history cL_history 5 (some .int) [(0, 10, 13, 19)], Cond.methodLink RL 47 yX2_history, Cond.instanceMethod yX2_history, Cond.selects RX2 yX2_history yX2_history, Cond.code yX2_history cX2_history 4 (some .int), Cond.methodLink RL 122 yX3_history, Cond.instanceMethod yX3_history, Cond.selects RX3 yX3_history yX3_history, Cond.code yX3_history cX3_history 3 (some .int), Cond.methodLink RL 123 yL_time, Cond.static yL_time, Cond.codeWith yL_time cL_time 4 (some .int) [(0, 9, 12, 19)], Cond.methodLink RL 50 yX2_time]
def wsL_law0_r13 : List Cond := [Cond.instanceMethod yX2_time, Cond.selects RX2 yX2_time yX2_time, Cond.code yX2_time cX2_time 2 (some .int), Cond.methodLink RL 125 yX3_time, Cond.instanceMethod yX3_time, Cond.selects RX3 yX3_time yX3_time, Cond.code yX3_time cX3_time 2 (some .int), Cond.methodLink RL 126 yL_timeAnew, Cond.static yL_timeAnew, Cond.codeWith yL_timeAnew cL_timeAnew 4 (some .int) [(0, 9, 12, 19)], Cond.methodLink RL 53 yX2_timeAnew, Cond.instanceMethod yX2_timeAnew, Cond.selects RX2 yX2_timeAnew yX2_timeAnew, Cond.code yX2_timeAnew cX2_timeAnew 2 (some .int), Cond.instanceMethod yX1_timeByCounts, Cond.selects RX1 yX1_timeByCounts yX1_timeByCounts, Cond.code yX1_timeByCounts cX1_timeByCounts 6 (some .int), Cond.methodLink RX1 73 yJ7_fill_53178, Cond.static yJ7_fill_53178, Cond.initialized RJ7, Cond.code yJ7_fill_53178 cJ7_fill_53178 4 none, Cond.methodLink RL 128 yX3_timeAnew, Cond.instanceMethod yX3_timeAnew, Cond.selects RX3 yX3_timeAnew yX3_timeAnew]
def wsL_law0_r14 : List Cond := [Cond.code yX3_timeAnew cX3_timeAnew 2 (some .int), Cond.methodLink RX3 88 yX3_time, Cond.methodLink RL 129 yL_lesson, Cond.static yL_lesson, Cond.codeWith yL_lesson cL_lesson 5 (some .int) [(0, 10, 13, 19)], Cond.methodLink RL 56 yX2_lesson, Cond.instanceMethod yX2_lesson, Cond.selects RX2 yX2_lesson yX2_lesson, Cond.code yX2_lesson cX2_lesson 4 (some .int), Cond.instanceMethod yX1_slippingLetter, Cond.selects RX1 yX1_slippingLetter yX1_slippingLetter, Cond.code yX1_slippingLetter cX1_slippingLetter 4 (some .int), Cond.methodLink RX1 81 yX1_lettersAhead, Cond.instanceMethod yX1_lettersAhead, Cond.selects RX1 yX1_lettersAhead yX1_lettersAhead, Cond.code yX1_lettersAhead cX1_lettersAhead 6 (some .int), Cond.methodLink RX1 85 yX1_letterSlips, Cond.instanceMethod yX1_letterSlips, Cond.selects RX1 yX1_letterSlips yX1_letterSlips, Cond.code yX1_letterSlips cX1_letterSlips 2 (some .int), Cond.methodLink RL 131 yX3_lesson, Cond.instanceMethod yX3_lesson, Cond.selects RX3 yX3_lesson yX3_lesson, Cond.code yX3_lesson cX3_lesson 9 (some .int)]
def wsL_law0_r15 : List Cond := [Cond.methodLink RL 132 yL_saves, Cond.static yL_saves, Cond.codeWith yL_saves cL_saves 6 (some .int) [(0, 12, 15, 19), (0, 12, 19, 21)], Cond.methodLink RL 59 yX2_saves, Cond.instanceMethod yX2_saves, Cond.selects RX2 yX2_saves yX2_saves, Cond.code yX2_saves cX2_saves 5 (some .int), Cond.methodLink RL 134 yX3_saves, Cond.instanceMethod yX3_saves, Cond.selects RX3 yX3_saves yX3_saves, Cond.code yX3_saves cX3_saves 4 (some .int), Cond.methodLink RL 135 yL_best, Cond.static yL_best, Cond.codeWith yL_best cL_best 4 (some .int) [(0, 9, 12, 19)], Cond.methodLink RL 62 yX2_best, Cond.instanceMethod yX2_best, Cond.selects RX2 yX2_best yX2_best, Cond.code yX2_best cX2_best 2 (some .int), Cond.instanceMethod yX1_bestExchange, Cond.selects RX1 yX1_bestExchange yX1_bestExchange, Cond.code yX1_bestExchange cX1_bestExchange 7 (some .int), Cond.methodLink RL 137 yX3_best, Cond.instanceMethod yX3_best, Cond.selects RX3 yX3_best yX3_best]
def wsL_law0_r16 : List Cond := [Cond.code yX3_best cX3_best 6 (some .int), Cond.methodLink RL 138 yL_draft, Cond.static yL_draft, Cond.codeWith yL_draft cL_draft 4 (some .int) [(0, 9, 12, 19), (0, 9, 15, 13)], Cond.methodLink RL 65 yX2_draft, Cond.instanceMethod yX2_draft, Cond.selects RX2 yX2_draft yX2_draft, Cond.code yX2_draft cX2_draft 2 (some .int), Cond.methodLink RL 140 yX3_draft, Cond.instanceMethod yX3_draft, Cond.selects RX3 yX3_draft yX3_draft, Cond.code yX3_draft cX3_draft 2 (some .int), Cond.fieldLink RX3 92 "HomekeysModel" "drafted" "I", Cond.methodLink RL 141 yX2_clear, Cond.instanceMethod yX2_clear, Cond.selects RX2 yX2_clear yX2_clear, Cond.code yX2_clear cX2_clear 2 (some .int), Cond.methodLink RL 144 yX3_clear, Cond.instanceMethod yX3_clear, Cond.selects RX3 yX3_clear yX3_clear, Cond.code yX3_clear cX3_clear 2 (some .int), Cond.methodLink RL 145 yL_contest, Cond.static yL_contest, Cond.codeWith yL_contest cL_contest 3 (some .int) [(0, 8, 11, 13)]]
def wsL_law0_r17 : List Cond := [Cond.methodLink RL 68 yX2_contest, Cond.instanceMethod yX2_contest, Cond.selects RX2 yX2_contest yX2_contest, Cond.code yX2_contest cX2_contest 2 (some .int), Cond.methodLink RX2 139 yX2_contestOfDraft, Cond.instanceMethod yX2_contestOfDraft, Cond.selects RX2 yX2_contestOfDraft yX2_contestOfDraft, Cond.code yX2_contestOfDraft cX2_contestOfDraft 4 (some (.object "Homekeys$Contest")), Cond.instantiable RX0 3, Cond.initialized RX0, Cond.instanceMethod yX0_init, Cond.code yX0_init cX0_init 1 none, Cond.methodLink RX0 3 objectInit, Cond.fieldLink RX0 9 "Homekeys$Contest" "times" "[I", Cond.fieldLink RX0 15 "Homekeys$Contest" "ticks" "[I", Cond.fieldLink RX0 18 "Homekeys$Contest" "scores" "[I", Cond.methodLink RX2 194 yX2_textTime, Cond.methodLink RL 147 yX3_contest, Cond.instanceMethod yX3_contest, Cond.selects RX3 yX3_contest yX3_contest, Cond.code yX3_contest cX3_contest 5 (some .int), Cond.fieldLink RX3 95 "HomekeysModel" "contests" "I", Cond.methodLink RL 148 yL_result, Cond.static yL_result]
def wsL_law0_r18 : List Cond := [Cond.codeWith yL_result cL_result 6 (some .int) [(0, 12, 15, 19), (0, 12, 19, 21), (0, 12, 23, 13)], Cond.methodLink RL 71 yX2_result, Cond.instanceMethod yX2_result, Cond.selects RX2 yX2_result yX2_result, Cond.code yX2_result cX2_result 7 (some .int), Cond.constant RX2 153 (99999), Cond.methodLink RX2 145 yX2_contestAt, Cond.instanceMethod yX2_contestAt, Cond.selects RX2 yX2_contestAt yX2_contestAt, Cond.code yX2_contestAt cX2_contestAt 3 (some (.object "Homekeys$Contest")), Cond.methodLink RX2 149 yX2_entrantTime, Cond.static yX2_entrantTime, Cond.code yX2_entrantTime cX2_entrantTime 3 (some .int), Cond.instanceMethod yX0_hasResult, Cond.selects RX0 yX0_hasResult yX0_hasResult, Cond.code yX0_hasResult cX0_hasResult 2 (some .boolean), Cond.methodLink RL 150 yX3_result, Cond.instanceMethod yX3_result, Cond.selects RX3 yX3_result yX3_result, Cond.code yX3_result cX3_result 6 (some .int), Cond.constant RX3 102 (99999), Cond.methodLink RX3 98 yX3_isIn, Cond.instanceMethod yX3_isIn, Cond.selects RX3 yX3_isIn yX3_isIn]
def wsL_law0_r19 : List Cond := [Cond.code yX3_isIn cX3_isIn 3 (some .boolean), Cond.methodLink RX3 103 yX3_score, Cond.instanceMethod yX3_score, Cond.selects RX3 yX3_score yX3_score, Cond.code yX3_score cX3_score 2 (some .int), Cond.methodLink RL 151 yL_of, Cond.static yL_of, Cond.codeWith yL_of cL_of 6 (some .int) [(0, 12, 15, 19), (0, 12, 19, 21)], Cond.methodLink RL 74 yX2_of, Cond.instanceMethod yX2_of, Cond.selects RX2 yX2_of yX2_of, Cond.code yX2_of cX2_of 6 (some .int), Cond.instanceMethod yX0_told, Cond.selects RX0 yX0_told yX0_told, Cond.code yX0_told cX0_told 3 (some .int), Cond.methodLink RX0 25 yX0_rankOf, Cond.instanceMethod yX0_rankOf, Cond.selects RX0 yX0_rankOf yX0_rankOf, Cond.code yX0_rankOf cX0_rankOf 6 (some .int), Cond.methodLink RX0 29 yX0_hasResult, Cond.methodLink RL 153 yX3_of, Cond.instanceMethod yX3_of, Cond.selects RX3 yX3_of yX3_of, Cond.code yX3_of cX3_of 5 (some .int)]
def wsL_law0_r20 : List Cond := [Cond.methodLink RX3 106 yX3_rank, Cond.instanceMethod yX3_rank, Cond.selects RX3 yX3_rank yX3_rank, Cond.code yX3_rank cX3_rank 7 (some .int), Cond.methodLink RL 154 yL_ranked, Cond.static yL_ranked, Cond.codeWith yL_ranked cL_ranked 5 (some .int) [(0, 10, 13, 19)], Cond.methodLink RL 77 yX2_ranked, Cond.instanceMethod yX2_ranked, Cond.selects RX2 yX2_ranked yX2_ranked, Cond.code yX2_ranked cX2_ranked 4 (some .int), Cond.instanceMethod yX0_holderOf, Cond.selects RX0 yX0_holderOf yX0_holderOf, Cond.code yX0_holderOf cX0_holderOf 3 (some .int), Cond.methodLink RL 156 yX3_ranked, Cond.instanceMethod yX3_ranked, Cond.selects RX3 yX3_ranked yX3_ranked, Cond.code yX3_ranked cX3_ranked 5 (some .int)]
def wsL_law0 : List Cond := (wsL_law0_r1 ++ (wsL_law0_r2 ++ (wsL_law0_r3 ++ (wsL_law0_r4 ++ (wsL_law0_r5 ++ (wsL_law0_r6 ++ (wsL_law0_r7 ++ (wsL_law0_r8 ++ (wsL_law0_r9 ++ (wsL_law0_r10 ++ (wsL_law0_r11 ++ (wsL_law0_r12 ++ (wsL_law0_r13 ++ (wsL_law0_r14 ++ (wsL_law0_r15 ++ (wsL_law0_r16 ++ (wsL_law0_r17 ++ (wsL_law0_r18 ++ (wsL_law0_r19 ++ wsL_law0_r20))))))))))))))))))) ++ wsX20 ++ wsX30 ++ wsX10 ++ wsX00 ++ ([] : List Cond)
def wsL_law : List Cond := wsL_law0 ++ (vx_atS RX2 37 "java/lang/IllegalStateException" ["java/lang/RuntimeException", "java/lang/Exception"]).filter goodWord ++ (vx_atS RX2 48 "java/lang/IllegalArgumentException" ["java/lang/RuntimeException", "java/lang/Exception"]).filter goodWord ++ (vx_atS RX2 106 "java/lang/IndexOutOfBoundsException" ["java/lang/RuntimeException", "java/lang/Exception"]).filter goodWord
abbrev vwCl : List vw_C := [(RX0, TX0, 3), (RX1, TX1, 8), (RX2, TX2, 5), (RX3, TX3, 17)]
end
section
set_option maxRecDepth 20000 in
theorem wsL_law0_r1_in : ∀ w ∈ wsL_law0_r1, w ∈ lw_tbl := fun w h => (goodIn_p wsL_law0_r1 [46, 49, 531] (by decide +kernel) (by decide +kernel) w h).1
set_option maxRecDepth 20000 in
theorem wsL_law0_r2_in : ∀ w ∈ wsL_law0_r2, w ∈ lw_tbl := fun w h => (goodIn_p wsL_law0_r2 [82] (by decide +kernel) (by decide +kernel) w h).1
set_option maxRecDepth 20000 in
theorem wsL_law0_r3_in : ∀ w ∈ wsL_law0_r3, w ∈ lw_tbl := fun w h => (goodIn_p wsL_law0_r3 [86, 90, 592] (by decide +kernel) (by decide +kernel) w h).1
set_option maxRecDepth 20000 in
theorem wsL_law0_r4_in : ∀ w ∈ wsL_law0_r4, w ∈ lw_tbl := fun w h => (goodIn_p wsL_law0_r4 [596, 588, 199, 203] (by decide +kernel) (by decide +kernel) w h).1
set_option maxRecDepth 20000 in
theorem wsL_law0_r5_in : ∀ w ∈ wsL_law0_r5, w ∈ lw_tbl := fun w h => (goodIn_p wsL_law0_r5 [600, 604, 607, 242, 245, 248] (by decide +kernel) (by decide +kernel) w h).1
set_option maxRecDepth 20000 in
theorem wsL_law0_r6_in : ∀ w ∈ wsL_law0_r6, w ∈ lw_tbl := fun w h => (goodIn_p wsL_law0_r6 [254, 258, 261, 264, 267, 270, 279, 273] (by decide +kernel) (by decide +kernel) w h).1
set_option maxRecDepth 20000 in
theorem wsL_law0_r7_in : ∀ w ∈ wsL_law0_r7, w ∈ lw_tbl := fun w h => (goodIn_p wsL_law0_r7 [276, 282, 286, 611, 615, 618, 622] (by decide +kernel) (by decide +kernel) w h).1
set_option maxRecDepth 20000 in
theorem wsL_law0_r8_in : ∀ w ∈ wsL_law0_r8, w ∈ lw_tbl := fun w h => (goodIn_p wsL_law0_r8 [626, 630, 633, 294, 297] (by decide +kernel) (by decide +kernel) w h).1
set_option maxRecDepth 20000 in
theorem wsL_law0_r9_in : ∀ w ∈ wsL_law0_r9, w ∈ lw_tbl := fun w h => (goodIn_p wsL_law0_r9 [637, 305, 641, 312, 316, 319] (by decide +kernel) (by decide +kernel) w h).1
set_option maxRecDepth 20000 in
theorem wsL_law0_r10_in : ∀ w ∈ wsL_law0_r10, w ∈ lw_tbl := fun w h => (goodIn_p wsL_law0_r10 [323, 327, 645, 337] (by decide +kernel) (by decide +kernel) w h).1
set_option maxRecDepth 20000 in
theorem wsL_law0_r11_in : ∀ w ∈ wsL_law0_r11, w ∈ lw_tbl := fun w h => (goodIn_p wsL_law0_r11 [340, 345, 348, 649, 355, 653] (by decide +kernel) (by decide +kernel) w h).1
set_option maxRecDepth 20000 in
theorem wsL_law0_r12_in : ∀ w ∈ wsL_law0_r12, w ∈ lw_tbl := fun w h => (goodIn_p wsL_law0_r12 [363, 657, 370, 661] (by decide +kernel) (by decide +kernel) w h).1
set_option maxRecDepth 20000 in
theorem wsL_law0_r13_in : ∀ w ∈ wsL_law0_r13, w ∈ lw_tbl := fun w h => (goodIn_p wsL_law0_r13 [378, 665, 386, 390, 393] (by decide +kernel) (by decide +kernel) w h).1
set_option maxRecDepth 20000 in
theorem wsL_law0_r14_in : ∀ w ∈ wsL_law0_r14, w ∈ lw_tbl := fun w h => (goodIn_p wsL_law0_r14 [669, 401, 406, 410, 414, 674] (by decide +kernel) (by decide +kernel) w h).1
set_option maxRecDepth 20000 in
theorem wsL_law0_r15_in : ∀ w ∈ wsL_law0_r15, w ∈ lw_tbl := fun w h => (goodIn_p wsL_law0_r15 [421, 678, 428, 432] (by decide +kernel) (by decide +kernel) w h).1
set_option maxRecDepth 20000 in
theorem wsL_law0_r16_in : ∀ w ∈ wsL_law0_r16, w ∈ lw_tbl := fun w h => (goodIn_p wsL_law0_r16 [682, 439, 686, 74, 690] (by decide +kernel) (by decide +kernel) w h).1
set_option maxRecDepth 20000 in
theorem wsL_law0_r17_in : ∀ w ∈ wsL_law0_r17, w ∈ lw_tbl := fun w h => (goodIn_p wsL_law0_r17 [447, 453, 457, 694] (by decide +kernel) (by decide +kernel) w h).1
set_option maxRecDepth 20000 in
theorem wsL_law0_r18_in : ∀ w ∈ wsL_law0_r18, w ∈ lw_tbl := fun w h => (goodIn_p wsL_law0_r18 [480, 484, 488, 495, 698] (by decide +kernel) (by decide +kernel) w h).1
set_option maxRecDepth 20000 in
theorem wsL_law0_r19_in : ∀ w ∈ wsL_law0_r19, w ∈ lw_tbl := fun w h => (goodIn_p wsL_law0_r19 [702, 707, 504, 509, 513, 711] (by decide +kernel) (by decide +kernel) w h).1
set_option maxRecDepth 20000 in
theorem wsL_law0_r20_in : ∀ w ∈ wsL_law0_r20, w ∈ lw_tbl := fun w h => (goodIn_p wsL_law0_r20 [715, 521, 526, 719] (by decide +kernel) (by decide +kernel) w h).1
theorem wsX20_inT : ∀ w ∈ wsX20, w ∈ lw_tbl := by decide +kernel
theorem wsX30_inT : ∀ w ∈ wsX30, w ∈ lw_tbl := by decide +kernel
theorem wsX10_inT : ∀ w ∈ wsX10, w ∈ lw_tbl := by decide +kernel
theorem wsX00_inT : ∀ w ∈ wsX00, w ∈ lw_tbl := by decide +kernel
theorem wsL_law_in0 : ∀ w ∈ wsL_law0, w ∈ lw_tbl := fun w h => (List.mem_append.mp h).elim (fun h => (List.mem_append.mp h).elim (fun h => (List.mem_append.mp h).elim (fun h => (List.mem_append.mp h).elim (fun h => (List.mem_append.mp h).elim (fun h => (List.mem_append.mp h).elim (fun h => wsL_law0_r1_in w h) (fun h => (List.mem_append.mp h).elim (fun h => wsL_law0_r2_in w h) (fun h => (List.mem_append.mp h).elim (fun h => wsL_law0_r3_in w h) (fun h => (List.mem_append.mp h).elim (fun h => wsL_law0_r4_in w h) (fun h => (List.mem_append.mp h).elim (fun h => wsL_law0_r5_in w h) (fun h => (List.mem_append.mp h).elim (fun h => wsL_law0_r6_in w h) (fun h => (List.mem_append.mp h).elim (fun h => wsL_law0_r7_in w h) (fun h => (List.mem_append.mp h).elim (fun h => wsL_law0_r8_in w h) (fun h => (List.mem_append.mp h).elim (fun h => wsL_law0_r9_in w h) (fun h => (List.mem_append.mp h).elim (fun h => wsL_law0_r10_in w h) (fun h => (List.mem_append.mp h).elim (fun h => wsL_law0_r11_in w h) (fun h => (List.mem_append.mp h).elim (fun h => wsL_law0_r12_in w h) (fun h => (List.mem_append.mp h).elim (fun h => wsL_law0_r13_in w h) (fun h => (List.mem_append.mp h).elim (fun h => wsL_law0_r14_in w h) (fun h => (List.mem_append.mp h).elim (fun h => wsL_law0_r15_in w h) (fun h => (List.mem_append.mp h).elim (fun h => wsL_law0_r16_in w h) (fun h => (List.mem_append.mp h).elim (fun h => wsL_law0_r17_in w h) (fun h => (List.mem_append.mp h).elim (fun h => wsL_law0_r18_in w h) (fun h => (List.mem_append.mp h).elim (fun h => wsL_law0_r19_in w h) (fun h => wsL_law0_r20_in w h)))))))))))))))))))) (fun h => wsX20_inT w h)) (fun h => wsX30_inT w h)) (fun h => wsX10_inT w h)) (fun h => wsX00_inT w h)) (fun h => nomatch h)
theorem wsL_law_x0 : ∀ w ∈ (vx_atS RX2 37 "java/lang/IllegalStateException" ["java/lang/RuntimeException", "java/lang/Exception"]).filter goodWord, w ∈ lw_tbl := by decide +kernel
theorem wsL_law_x1 : ∀ w ∈ (vx_atS RX2 48 "java/lang/IllegalArgumentException" ["java/lang/RuntimeException", "java/lang/Exception"]).filter goodWord, w ∈ lw_tbl := by decide +kernel
theorem wsL_law_x2 : ∀ w ∈ (vx_atS RX2 106 "java/lang/IndexOutOfBoundsException" ["java/lang/RuntimeException", "java/lang/Exception"]).filter goodWord, w ∈ lw_tbl := by decide +kernel
theorem wsL_law_in : ∀ w ∈ wsL_law, w ∈ lw_tbl := fun w h => (List.mem_append.mp h).elim (fun h => (List.mem_append.mp h).elim (fun h => (List.mem_append.mp h).elim (fun h => wsL_law_in0 w h) (fun h => wsL_law_x0 w h)) (fun h => wsL_law_x1 w h)) (fun h => wsL_law_x2 w h)
theorem inlX0 : ∀ w ∈ wsX00, w ∈ wsL_law := fun _ h => List.mem_append_left _ (List.mem_append_left _ (List.mem_append_left _ (List.mem_append_left _ (List.mem_append_right _ h))))
theorem inX0 : ∀ w ∈ wsX00, w ∈ lw_tbl := fun w h => wsL_law_in w (inlX0 w h)
theorem inlX1 : ∀ w ∈ wsX10, w ∈ wsL_law := fun _ h => List.mem_append_left _ (List.mem_append_left _ (List.mem_append_left _ (List.mem_append_left _ (List.mem_append_left _ (List.mem_append_right _ h)))))
theorem inX1 : ∀ w ∈ wsX10, w ∈ lw_tbl := fun w h => wsL_law_in w (inlX1 w h)
theorem inlX2 : ∀ w ∈ wsX20, w ∈ wsL_law := fun _ h => List.mem_append_left _ (List.mem_append_left _ (List.mem_append_left _ (List.mem_append_left _ (List.mem_append_left _ (List.mem_append_left _ (List.mem_append_left _ (List.mem_append_right _ h)))))))
theorem inX2 : ∀ w ∈ wsX20, w ∈ lw_tbl := fun w h => wsL_law_in w (inlX2 w h)
theorem inlX3 : ∀ w ∈ wsX30, w ∈ wsL_law := fun _ h => List.mem_append_left _ (List.mem_append_left _ (List.mem_append_left _ (List.mem_append_left _ (List.mem_append_left _ (List.mem_append_left _ (List.mem_append_right _ h))))))
theorem inX3 : ∀ w ∈ wsX30, w ∈ lw_tbl := fun w h => wsL_law_in w (inlX3 w h)
theorem inJx145de : ∀ w ∈ wsJx145de0, w ∈ lw_tbl := by decide +kernel
theorem inJ9 : ∀ w ∈ wsJ90, w ∈ lw_tbl := by decide +kernel
theorem inJ0 : ∀ w ∈ wsJ00, w ∈ lw_tbl := by decide +kernel
theorem inJ10 : ∀ w ∈ wsJ100, w ∈ lw_tbl := by decide +kernel
theorem inJ7 : ∀ w ∈ wsJ70, w ∈ lw_tbl := by decide +kernel
end
section
theorem dX0_init_0 : decode cX0_init 0 = .ok (.aload_n 0, 1) := by decide +kernel
theorem dX0_init_1 : decode cX0_init 1 = .ok (.invokespecial 3, 3) := by decide +kernel
theorem dX0_init_4 : decode cX0_init 4 = .ok (.aload_n 0, 1) := by decide +kernel
theorem dX0_init_5 : decode cX0_init 5 = .ok (.iconst 5, 1) := by decide +kernel
theorem dX0_init_6 : decode cX0_init 6 = .ok (.newarray .int, 2) := by decide +kernel
theorem dX0_init_8 : decode cX0_init 8 = .ok (.putfield 9, 3) := by decide +kernel
theorem dX0_init_11 : decode cX0_init 11 = .ok (.aload_n 0, 1) := by decide +kernel
theorem dX0_init_12 : decode cX0_init 12 = .ok (.iconst 5, 1) := by decide +kernel
theorem dX0_init_13 : decode cX0_init 13 = .ok (.newarray .int, 2) := by decide +kernel
theorem dX0_init_15 : decode cX0_init 15 = .ok (.putfield 15, 3) := by decide +kernel
theorem dX0_init_18 : decode cX0_init 18 = .ok (.aload_n 0, 1) := by decide +kernel
theorem dX0_init_19 : decode cX0_init 19 = .ok (.iconst 5, 1) := by decide +kernel
theorem dX0_init_20 : decode cX0_init 20 = .ok (.newarray .int, 2) := by decide +kernel
theorem dX0_init_22 : decode cX0_init 22 = .ok (.putfield 18, 3) := by decide +kernel
theorem dX0_init_25 : decode cX0_init 25 = .ok (.return_, 1) := by decide +kernel
set_option maxRecDepth 20000 in
theorem ggX0_hasResult_X2_at : GoodIn wsX0_hasResult wsX2_at := goodIn_r _ [4] (by decide +kernel) (by decide +kernel)
set_option maxRecDepth 20000 in
theorem gX0_hasResult_X2_at_n21 : GoodIn wsX0_hasResult (wsX2_at) := ggX0_hasResult_X2_at
theorem dX0_hasResult_0 : decode cX0_hasResult 0 = .ok (.aload_n 0, 1) := by decide +kernel
theorem dX0_hasResult_1 : decode cX0_hasResult 1 = .ok (.getfield 15, 3) := by decide +kernel
theorem dX0_hasResult_4 : decode cX0_hasResult 4 = .ok (.iload_n 1, 1) := by decide +kernel
theorem dX0_hasResult_5 : decode cX0_hasResult 5 = .ok (.invokestatic 21, 3) := by decide +kernel
theorem dX0_hasResult_8 : decode cX0_hasResult 8 = .ok (.ifCond .le 7, 3) := by decide +kernel
theorem dX0_hasResult_11 : decode cX0_hasResult 11 = .ok (.iconst 1, 1) := by decide +kernel
theorem dX0_hasResult_12 : decode cX0_hasResult 12 = .ok (.goto 4, 3) := by decide +kernel
theorem dX0_hasResult_15 : decode cX0_hasResult 15 = .ok (.iconst 0, 1) := by decide +kernel
theorem dX0_hasResult_16 : decode cX0_hasResult 16 = .ok (.ireturn, 1) := by decide +kernel
set_option maxRecDepth 20000 in
theorem ggX0_told_X2_at : GoodIn wsX0_told wsX2_at := goodIn_r _ [5] (by decide +kernel) (by decide +kernel)
set_option maxRecDepth 20000 in
theorem gX0_told_X2_at_n21 : GoodIn wsX0_told (wsX2_at) := ggX0_told_X2_at
set_option maxRecDepth 20000 in
theorem ggX0_told_X0_rankOf : GoodIn wsX0_told wsX0_rankOf := goodIn_r _ [10, 2, 3, 4, 5, 11, 12, 13, 9, 14, 1, 15, 16, 17] (by decide +kernel) (by decide +kernel)
set_option maxRecDepth 20000 in
theorem gX0_told_X0_rankOf : GoodIn wsX0_told (wsV RX0 25 RX0 yX0_rankOf wsX0_rankOf) := goodIn_app (goodIn_of _ (by decide +kernel)) ggX0_told_X0_rankOf
theorem dX0_told_0 : decode cX0_told 0 = .ok (.iload_n 2, 1) := by decide +kernel
theorem dX0_told_1 : decode cX0_told 1 = .ok (.lookupswitch 45 #[(1, 27), (2, 36)], 27) := by decide +kernel
theorem dX0_told_28 : decode cX0_told 28 = .ok (.aload_n 0, 1) := by decide +kernel
theorem dX0_told_29 : decode cX0_told 29 = .ok (.getfield 15, 3) := by decide +kernel
theorem dX0_told_32 : decode cX0_told 32 = .ok (.iload_n 1, 1) := by decide +kernel
theorem dX0_told_33 : decode cX0_told 33 = .ok (.invokestatic 21, 3) := by decide +kernel
theorem dX0_told_36 : decode cX0_told 36 = .ok (.ireturn, 1) := by decide +kernel
theorem dX0_told_37 : decode cX0_told 37 = .ok (.aload_n 0, 1) := by decide +kernel
theorem dX0_told_38 : decode cX0_told 38 = .ok (.getfield 18, 3) := by decide +kernel
theorem dX0_told_41 : decode cX0_told 41 = .ok (.iload_n 1, 1) := by decide +kernel
theorem dX0_told_42 : decode cX0_told 42 = .ok (.invokestatic 21, 3) := by decide +kernel
theorem dX0_told_45 : decode cX0_told 45 = .ok (.ireturn, 1) := by decide +kernel
theorem dX0_told_46 : decode cX0_told 46 = .ok (.aload_n 0, 1) := by decide +kernel
theorem dX0_told_47 : decode cX0_told 47 = .ok (.iload_n 1, 1) := by decide +kernel
theorem dX0_told_48 : decode cX0_told 48 = .ok (.invokevirtual 25, 3) := by decide +kernel
theorem dX0_told_51 : decode cX0_told 51 = .ok (.ireturn, 1) := by decide +kernel
set_option maxRecDepth 20000 in
theorem ggX0_rankOf_X2_at : GoodIn wsX0_rankOf wsX2_at := goodIn_r _ [4] (by decide +kernel) (by decide +kernel)
set_option maxRecDepth 20000 in
theorem gX0_rankOf_X2_at_n21 : GoodIn wsX0_rankOf (wsX2_at) := ggX0_rankOf_X2_at
set_option maxRecDepth 20000 in
theorem ggX0_rankOf_X0_hasResult : GoodIn wsX0_rankOf wsX0_hasResult := goodIn_r _ [9, 10, 2, 3, 4, 11, 12, 13] (by decide +kernel) (by decide +kernel)
set_option maxRecDepth 20000 in
theorem gX0_rankOf_X0_hasResult : GoodIn wsX0_rankOf (wsV RX0 29 RX0 yX0_hasResult wsX0_hasResult) := goodIn_app (goodIn_of _ (by decide +kernel)) ggX0_rankOf_X0_hasResult
theorem dX0_rankOf_0 : decode cX0_rankOf 0 = .ok (.aload_n 0, 1) := by decide +kernel
theorem dX0_rankOf_1 : decode cX0_rankOf 1 = .ok (.getfield 18, 3) := by decide +kernel
theorem dX0_rankOf_4 : decode cX0_rankOf 4 = .ok (.iload_n 1, 1) := by decide +kernel
theorem dX0_rankOf_5 : decode cX0_rankOf 5 = .ok (.invokestatic 21, 3) := by decide +kernel
theorem dX0_rankOf_8 : decode cX0_rankOf 8 = .ok (.istore_n 2, 1) := by decide +kernel
theorem dX0_rankOf_9 : decode cX0_rankOf 9 = .ok (.iconst 0, 1) := by decide +kernel
theorem dX0_rankOf_10 : decode cX0_rankOf 10 = .ok (.istore_n 3, 1) := by decide +kernel
theorem dX0_rankOf_11 : decode cX0_rankOf 11 = .ok (.iconst 0, 1) := by decide +kernel
theorem dX0_rankOf_12 : decode cX0_rankOf 12 = .ok (.istore 4, 2) := by decide +kernel
theorem dX0_rankOf_14 : decode cX0_rankOf 14 = .ok (.iload 4, 2) := by decide +kernel
theorem dX0_rankOf_16 : decode cX0_rankOf 16 = .ok (.iconst 5, 1) := by decide +kernel
theorem dX0_rankOf_17 : decode cX0_rankOf 17 = .ok (.if_icmp .ge 50, 3) := by decide +kernel
theorem dX0_rankOf_20 : decode cX0_rankOf 20 = .ok (.aload_n 0, 1) := by decide +kernel
theorem dX0_rankOf_21 : decode cX0_rankOf 21 = .ok (.getfield 18, 3) := by decide +kernel
theorem dX0_rankOf_24 : decode cX0_rankOf 24 = .ok (.iload 4, 2) := by decide +kernel
theorem dX0_rankOf_26 : decode cX0_rankOf 26 = .ok (.invokestatic 21, 3) := by decide +kernel
theorem dX0_rankOf_29 : decode cX0_rankOf 29 = .ok (.istore 5, 2) := by decide +kernel
theorem dX0_rankOf_31 : decode cX0_rankOf 31 = .ok (.aload_n 0, 1) := by decide +kernel
theorem dX0_rankOf_32 : decode cX0_rankOf 32 = .ok (.iload 4, 2) := by decide +kernel
theorem dX0_rankOf_34 : decode cX0_rankOf 34 = .ok (.invokevirtual 29, 3) := by decide +kernel
theorem dX0_rankOf_37 : decode cX0_rankOf 37 = .ok (.ifCond .eq 24, 3) := by decide +kernel
theorem dX0_rankOf_40 : decode cX0_rankOf 40 = .ok (.iload 5, 2) := by decide +kernel
theorem dX0_rankOf_42 : decode cX0_rankOf 42 = .ok (.iload_n 2, 1) := by decide +kernel
theorem dX0_rankOf_43 : decode cX0_rankOf 43 = .ok (.if_icmp .lt 15, 3) := by decide +kernel
theorem dX0_rankOf_46 : decode cX0_rankOf 46 = .ok (.iload 5, 2) := by decide +kernel
theorem dX0_rankOf_48 : decode cX0_rankOf 48 = .ok (.iload_n 2, 1) := by decide +kernel
theorem dX0_rankOf_49 : decode cX0_rankOf 49 = .ok (.if_icmp .ne 12, 3) := by decide +kernel
theorem dX0_rankOf_52 : decode cX0_rankOf 52 = .ok (.iload 4, 2) := by decide +kernel
theorem dX0_rankOf_54 : decode cX0_rankOf 54 = .ok (.iload_n 1, 1) := by decide +kernel
theorem dX0_rankOf_55 : decode cX0_rankOf 55 = .ok (.if_icmp .ge 6, 3) := by decide +kernel
theorem dX0_rankOf_58 : decode cX0_rankOf 58 = .ok (.iinc 3 1, 3) := by decide +kernel
theorem dX0_rankOf_61 : decode cX0_rankOf 61 = .ok (.iinc 4 1, 3) := by decide +kernel
theorem dX0_rankOf_64 : decode cX0_rankOf 64 = .ok (.goto (-50), 3) := by decide +kernel
theorem dX0_rankOf_67 : decode cX0_rankOf 67 = .ok (.iload_n 3, 1) := by decide +kernel
theorem dX0_rankOf_68 : decode cX0_rankOf 68 = .ok (.ireturn, 1) := by decide +kernel
set_option maxRecDepth 20000 in
theorem ggX0_holderOf_X0_hasResult : GoodIn wsX0_holderOf wsX0_hasResult := goodIn_r _ [5, 6, 7, 8, 9, 15, 16, 17] (by decide +kernel) (by decide +kernel)
set_option maxRecDepth 20000 in
theorem gX0_holderOf_X0_hasResult : GoodIn wsX0_holderOf (wsV RX0 29 RX0 yX0_hasResult wsX0_hasResult) := goodIn_app (goodIn_of _ (by decide +kernel)) ggX0_holderOf_X0_hasResult
set_option maxRecDepth 20000 in
theorem ggX0_holderOf_X0_rankOf : GoodIn wsX0_holderOf wsX0_rankOf := goodIn_r _ [13, 14, 7, 8, 9, 1, 2, 3, 4, 5, 6, 15, 16, 17] (by decide +kernel) (by decide +kernel)
set_option maxRecDepth 20000 in
theorem gX0_holderOf_X0_rankOf : GoodIn wsX0_holderOf (wsV RX0 25 RX0 yX0_rankOf wsX0_rankOf) := goodIn_app (goodIn_of _ (by decide +kernel)) ggX0_holderOf_X0_rankOf
theorem dX0_holderOf_0 : decode cX0_holderOf 0 = .ok (.iconst 0, 1) := by decide +kernel
theorem dX0_holderOf_1 : decode cX0_holderOf 1 = .ok (.istore_n 2, 1) := by decide +kernel
theorem dX0_holderOf_2 : decode cX0_holderOf 2 = .ok (.iload_n 2, 1) := by decide +kernel
theorem dX0_holderOf_3 : decode cX0_holderOf 3 = .ok (.iconst 5, 1) := by decide +kernel
theorem dX0_holderOf_4 : decode cX0_holderOf 4 = .ok (.if_icmp .ge 28, 3) := by decide +kernel
theorem dX0_holderOf_7 : decode cX0_holderOf 7 = .ok (.aload_n 0, 1) := by decide +kernel
theorem dX0_holderOf_8 : decode cX0_holderOf 8 = .ok (.iload_n 2, 1) := by decide +kernel
theorem dX0_holderOf_9 : decode cX0_holderOf 9 = .ok (.invokevirtual 29, 3) := by decide +kernel
theorem dX0_holderOf_12 : decode cX0_holderOf 12 = .ok (.ifCond .eq 14, 3) := by decide +kernel
theorem dX0_holderOf_15 : decode cX0_holderOf 15 = .ok (.aload_n 0, 1) := by decide +kernel
theorem dX0_holderOf_16 : decode cX0_holderOf 16 = .ok (.iload_n 2, 1) := by decide +kernel
theorem dX0_holderOf_17 : decode cX0_holderOf 17 = .ok (.invokevirtual 25, 3) := by decide +kernel
theorem dX0_holderOf_20 : decode cX0_holderOf 20 = .ok (.iload_n 1, 1) := by decide +kernel
theorem dX0_holderOf_21 : decode cX0_holderOf 21 = .ok (.if_icmp .ne 5, 3) := by decide +kernel
theorem dX0_holderOf_24 : decode cX0_holderOf 24 = .ok (.iload_n 2, 1) := by decide +kernel
theorem dX0_holderOf_25 : decode cX0_holderOf 25 = .ok (.ireturn, 1) := by decide +kernel
theorem dX0_holderOf_26 : decode cX0_holderOf 26 = .ok (.iinc 2 1, 3) := by decide +kernel
theorem dX0_holderOf_29 : decode cX0_holderOf 29 = .ok (.goto (-27), 3) := by decide +kernel
theorem dX0_holderOf_32 : decode cX0_holderOf 32 = .ok (.iconst (-1), 1) := by decide +kernel
theorem dX0_holderOf_33 : decode cX0_holderOf 33 = .ok (.ireturn, 1) := by decide +kernel
set_option maxRecDepth 20000 in
theorem ggX1_init_X2_put : GoodIn wsX1_init wsX2_put := goodIn_r _ [15] (by decide +kernel) (by decide +kernel)
set_option maxRecDepth 20000 in
theorem gX1_init_X2_put_n37 : GoodIn wsX1_init (wsX2_put) := ggX1_init_X2_put
theorem dX1_init_0 : decode cX1_init 0 = .ok (.aload_n 0, 1) := by decide +kernel
theorem dX1_init_1 : decode cX1_init 1 = .ok (.invokespecial 3, 3) := by decide +kernel
theorem dX1_init_4 : decode cX1_init 4 = .ok (.aload_n 0, 1) := by decide +kernel
theorem dX1_init_5 : decode cX1_init 5 = .ok (.bipush 12, 2) := by decide +kernel
theorem dX1_init_7 : decode cX1_init 7 = .ok (.newarray .int, 2) := by decide +kernel
theorem dX1_init_9 : decode cX1_init 9 = .ok (.putfield 9, 3) := by decide +kernel
theorem dX1_init_12 : decode cX1_init 12 = .ok (.aload_n 0, 1) := by decide +kernel
theorem dX1_init_13 : decode cX1_init 13 = .ok (.bipush 12, 2) := by decide +kernel
theorem dX1_init_15 : decode cX1_init 15 = .ok (.newarray .int, 2) := by decide +kernel
theorem dX1_init_17 : decode cX1_init 17 = .ok (.putfield 15, 3) := by decide +kernel
theorem dX1_init_20 : decode cX1_init 20 = .ok (.aload_n 0, 1) := by decide +kernel
theorem dX1_init_21 : decode cX1_init 21 = .ok (.iconst 0, 1) := by decide +kernel
theorem dX1_init_22 : decode cX1_init 22 = .ok (.putfield 18, 3) := by decide +kernel
theorem dX1_init_25 : decode cX1_init 25 = .ok (.aload_n 0, 1) := by decide +kernel
theorem dX1_init_26 : decode cX1_init 26 = .ok (.bipush 12, 2) := by decide +kernel
theorem dX1_init_28 : decode cX1_init 28 = .ok (.newarray .int, 2) := by decide +kernel
theorem dX1_init_30 : decode cX1_init 30 = .ok (.putfield 22, 3) := by decide +kernel
theorem dX1_init_33 : decode cX1_init 33 = .ok (.aload_n 0, 1) := by decide +kernel
theorem dX1_init_34 : decode cX1_init 34 = .ok (.sipush 144, 3) := by decide +kernel
theorem dX1_init_37 : decode cX1_init 37 = .ok (.newarray .int, 2) := by decide +kernel
theorem dX1_init_39 : decode cX1_init 39 = .ok (.putfield 25, 3) := by decide +kernel
theorem dX1_init_42 : decode cX1_init 42 = .ok (.aload_n 0, 1) := by decide +kernel
theorem dX1_init_43 : decode cX1_init 43 = .ok (.bipush 30, 2) := by decide +kernel
theorem dX1_init_45 : decode cX1_init 45 = .ok (.newarray .int, 2) := by decide +kernel
theorem dX1_init_47 : decode cX1_init 47 = .ok (.putfield 28, 3) := by decide +kernel
theorem dX1_init_50 : decode cX1_init 50 = .ok (.aload_n 0, 1) := by decide +kernel
theorem dX1_init_51 : decode cX1_init 51 = .ok (.iconst 0, 1) := by decide +kernel
theorem dX1_init_52 : decode cX1_init 52 = .ok (.putfield 31, 3) := by decide +kernel
theorem dX1_init_55 : decode cX1_init 55 = .ok (.aload_n 0, 1) := by decide +kernel
theorem dX1_init_56 : decode cX1_init 56 = .ok (.iconst 0, 1) := by decide +kernel
theorem dX1_init_57 : decode cX1_init 57 = .ok (.putfield 34, 3) := by decide +kernel
theorem dX1_init_60 : decode cX1_init 60 = .ok (.iconst 0, 1) := by decide +kernel
theorem dX1_init_61 : decode cX1_init 61 = .ok (.istore_n 1, 1) := by decide +kernel
theorem dX1_init_62 : decode cX1_init 62 = .ok (.iload_n 1, 1) := by decide +kernel
theorem dX1_init_63 : decode cX1_init 63 = .ok (.bipush 12, 2) := by decide +kernel
theorem dX1_init_65 : decode cX1_init 65 = .ok (.if_icmp .ge 27, 3) := by decide +kernel
theorem dX1_init_68 : decode cX1_init 68 = .ok (.aload_n 0, 1) := by decide +kernel
theorem dX1_init_69 : decode cX1_init 69 = .ok (.getfield 9, 3) := by decide +kernel
theorem dX1_init_72 : decode cX1_init 72 = .ok (.iload_n 1, 1) := by decide +kernel
theorem dX1_init_73 : decode cX1_init 73 = .ok (.iload_n 1, 1) := by decide +kernel
theorem dX1_init_74 : decode cX1_init 74 = .ok (.invokestatic 37, 3) := by decide +kernel
theorem dX1_init_77 : decode cX1_init 77 = .ok (.aload_n 0, 1) := by decide +kernel
theorem dX1_init_78 : decode cX1_init 78 = .ok (.getfield 15, 3) := by decide +kernel
theorem dX1_init_81 : decode cX1_init 81 = .ok (.iload_n 1, 1) := by decide +kernel
theorem dX1_init_82 : decode cX1_init 82 = .ok (.iload_n 1, 1) := by decide +kernel
theorem dX1_init_83 : decode cX1_init 83 = .ok (.invokestatic 37, 3) := by decide +kernel
theorem dX1_init_86 : decode cX1_init 86 = .ok (.iinc 1 1, 3) := by decide +kernel
theorem dX1_init_89 : decode cX1_init 89 = .ok (.goto (-27), 3) := by decide +kernel
theorem dX1_init_92 : decode cX1_init 92 = .ok (.return_, 1) := by decide +kernel
set_option maxRecDepth 20000 in
theorem ggX1_type_X2_at : GoodIn wsX1_type wsX2_at := goodIn_r _ [9] (by decide +kernel) (by decide +kernel)
set_option maxRecDepth 20000 in
theorem gX1_type_X2_at_n41 : GoodIn wsX1_type (wsX2_at) := ggX1_type_X2_at
set_option maxRecDepth 20000 in
theorem ggX1_type_X2_count : GoodIn wsX1_type wsX2_count := goodIn_r _ [11, 12, 7, 8, 9, 13, 14, 15] (by decide +kernel) (by decide +kernel)
set_option maxRecDepth 20000 in
theorem gX1_type_X2_count_n45 : GoodIn wsX1_type (wsX2_count) := ggX1_type_X2_count
set_option maxRecDepth 20000 in
theorem ggX1_type_X2_pairPlace : GoodIn wsX1_type wsX2_pairPlace := goodIn_r _ [17] (by decide +kernel) (by decide +kernel)
set_option maxRecDepth 20000 in
theorem gX1_type_X2_pairPlace_n49 : GoodIn wsX1_type (wsX2_pairPlace) := ggX1_type_X2_pairPlace
set_option maxRecDepth 20000 in
theorem ggX1_type_X1_keep : GoodIn wsX1_type wsX1_keep := goodIn_r _ [22, 3, 5, 23, 24, 25, 26, 14, 8, 15, 27, 28, 29, 30, 31, 32, 33, 34] (by decide +kernel) (by decide +kernel)
set_option maxRecDepth 20000 in
theorem gX1_type_X1_keep : GoodIn wsX1_type (wsV RX1 53 RX1 yX1_keep wsX1_keep) := goodIn_app (goodIn_of _ (by decide +kernel)) ggX1_type_X1_keep
theorem dX1_type_0 : decode cX1_type 0 = .ok (.aload_n 0, 1) := by decide +kernel
theorem dX1_type_1 : decode cX1_type 1 = .ok (.getfield 9, 3) := by decide +kernel
theorem dX1_type_4 : decode cX1_type 4 = .ok (.iload_n 1, 1) := by decide +kernel
theorem dX1_type_5 : decode cX1_type 5 = .ok (.invokestatic 41, 3) := by decide +kernel
theorem dX1_type_8 : decode cX1_type 8 = .ok (.istore_n 3, 1) := by decide +kernel
theorem dX1_type_9 : decode cX1_type 9 = .ok (.iload_n 3, 1) := by decide +kernel
theorem dX1_type_10 : decode cX1_type 10 = .ok (.iload_n 2, 1) := by decide +kernel
theorem dX1_type_11 : decode cX1_type 11 = .ok (.if_icmp .eq 7, 3) := by decide +kernel
theorem dX1_type_14 : decode cX1_type 14 = .ok (.iconst 1, 1) := by decide +kernel
theorem dX1_type_15 : decode cX1_type 15 = .ok (.goto 4, 3) := by decide +kernel
theorem dX1_type_18 : decode cX1_type 18 = .ok (.iconst 0, 1) := by decide +kernel
theorem dX1_type_19 : decode cX1_type 19 = .ok (.istore 4, 2) := by decide +kernel
theorem dX1_type_21 : decode cX1_type 21 = .ok (.iload 4, 2) := by decide +kernel
theorem dX1_type_23 : decode cX1_type 23 = .ok (.ifCond .eq 42, 3) := by decide +kernel
theorem dX1_type_26 : decode cX1_type 26 = .ok (.aload_n 0, 1) := by decide +kernel
theorem dX1_type_27 : decode cX1_type 27 = .ok (.getfield 22, 3) := by decide +kernel
theorem dX1_type_30 : decode cX1_type 30 = .ok (.iload_n 3, 1) := by decide +kernel
theorem dX1_type_31 : decode cX1_type 31 = .ok (.invokestatic 45, 3) := by decide +kernel
theorem dX1_type_34 : decode cX1_type 34 = .ok (.aload_n 0, 1) := by decide +kernel
theorem dX1_type_35 : decode cX1_type 35 = .ok (.getfield 31, 3) := by decide +kernel
theorem dX1_type_38 : decode cX1_type 38 = .ok (.ifCond .le 27, 3) := by decide +kernel
theorem dX1_type_41 : decode cX1_type 41 = .ok (.aload_n 0, 1) := by decide +kernel
theorem dX1_type_42 : decode cX1_type 42 = .ok (.getfield 25, 3) := by decide +kernel
theorem dX1_type_45 : decode cX1_type 45 = .ok (.aload_n 0, 1) := by decide +kernel
theorem dX1_type_46 : decode cX1_type 46 = .ok (.getfield 28, 3) := by decide +kernel
theorem dX1_type_49 : decode cX1_type 49 = .ok (.aload_n 0, 1) := by decide +kernel
theorem dX1_type_50 : decode cX1_type 50 = .ok (.getfield 31, 3) := by decide +kernel
theorem dX1_type_53 : decode cX1_type 53 = .ok (.iconst 1, 1) := by decide +kernel
theorem dX1_type_54 : decode cX1_type 54 = .ok (.isub, 1) := by decide +kernel
theorem dX1_type_55 : decode cX1_type 55 = .ok (.invokestatic 41, 3) := by decide +kernel
theorem dX1_type_58 : decode cX1_type 58 = .ok (.iload_n 1, 1) := by decide +kernel
theorem dX1_type_59 : decode cX1_type 59 = .ok (.invokestatic 49, 3) := by decide +kernel
theorem dX1_type_62 : decode cX1_type 62 = .ok (.invokestatic 45, 3) := by decide +kernel
theorem dX1_type_65 : decode cX1_type 65 = .ok (.aload_n 0, 1) := by decide +kernel
theorem dX1_type_66 : decode cX1_type 66 = .ok (.iload_n 1, 1) := by decide +kernel
theorem dX1_type_67 : decode cX1_type 67 = .ok (.invokevirtual 53, 3) := by decide +kernel
theorem dX1_type_70 : decode cX1_type 70 = .ok (.aload_n 0, 1) := by decide +kernel
theorem dX1_type_71 : decode cX1_type 71 = .ok (.dup, 1) := by decide +kernel
theorem dX1_type_72 : decode cX1_type 72 = .ok (.getfield 34, 3) := by decide +kernel
theorem dX1_type_75 : decode cX1_type 75 = .ok (.iconst 1, 1) := by decide +kernel
theorem dX1_type_76 : decode cX1_type 76 = .ok (.iadd, 1) := by decide +kernel
theorem dX1_type_77 : decode cX1_type 77 = .ok (.putfield 34, 3) := by decide +kernel
theorem dX1_type_80 : decode cX1_type 80 = .ok (.iload 4, 2) := by decide +kernel
theorem dX1_type_82 : decode cX1_type 82 = .ok (.ireturn, 1) := by decide +kernel
set_option maxRecDepth 20000 in
theorem ggX1_keep_X2_put : GoodIn wsX1_keep wsX2_put := goodIn_r _ [9] (by decide +kernel) (by decide +kernel)
set_option maxRecDepth 20000 in
theorem gX1_keep_X2_put_n37 : GoodIn wsX1_keep (wsX2_put) := ggX1_keep_X2_put
theorem dX1_keep_0 : decode cX1_keep 0 = .ok (.aload_n 0, 1) := by decide +kernel
theorem dX1_keep_1 : decode cX1_keep 1 = .ok (.getfield 31, 3) := by decide +kernel
theorem dX1_keep_4 : decode cX1_keep 4 = .ok (.bipush 30, 2) := by decide +kernel
theorem dX1_keep_6 : decode cX1_keep 6 = .ok (.if_icmp .ne 28, 3) := by decide +kernel
theorem dX1_keep_9 : decode cX1_keep 9 = .ok (.aload_n 0, 1) := by decide +kernel
theorem dX1_keep_10 : decode cX1_keep 10 = .ok (.getfield 28, 3) := by decide +kernel
theorem dX1_keep_13 : decode cX1_keep 13 = .ok (.iconst 1, 1) := by decide +kernel
theorem dX1_keep_14 : decode cX1_keep 14 = .ok (.aload_n 0, 1) := by decide +kernel
theorem dX1_keep_15 : decode cX1_keep 15 = .ok (.getfield 28, 3) := by decide +kernel
theorem dX1_keep_18 : decode cX1_keep 18 = .ok (.iconst 0, 1) := by decide +kernel
theorem dX1_keep_19 : decode cX1_keep 19 = .ok (.bipush 29, 2) := by decide +kernel
theorem dX1_keep_21 : decode cX1_keep 21 = .ok (.invokestatic 57, 3) := by decide +kernel
theorem dX1_keep_24 : decode cX1_keep 24 = .ok (.aload_n 0, 1) := by decide +kernel
theorem dX1_keep_25 : decode cX1_keep 25 = .ok (.dup, 1) := by decide +kernel
theorem dX1_keep_26 : decode cX1_keep 26 = .ok (.getfield 31, 3) := by decide +kernel
theorem dX1_keep_29 : decode cX1_keep 29 = .ok (.iconst 1, 1) := by decide +kernel
theorem dX1_keep_30 : decode cX1_keep 30 = .ok (.isub, 1) := by decide +kernel
theorem dX1_keep_31 : decode cX1_keep 31 = .ok (.putfield 31, 3) := by decide +kernel
theorem dX1_keep_34 : decode cX1_keep 34 = .ok (.aload_n 0, 1) := by decide +kernel
theorem dX1_keep_35 : decode cX1_keep 35 = .ok (.getfield 28, 3) := by decide +kernel
theorem dX1_keep_38 : decode cX1_keep 38 = .ok (.aload_n 0, 1) := by decide +kernel
theorem dX1_keep_39 : decode cX1_keep 39 = .ok (.getfield 31, 3) := by decide +kernel
theorem dX1_keep_42 : decode cX1_keep 42 = .ok (.iload_n 1, 1) := by decide +kernel
theorem dX1_keep_43 : decode cX1_keep 43 = .ok (.invokestatic 37, 3) := by decide +kernel
theorem dX1_keep_46 : decode cX1_keep 46 = .ok (.aload_n 0, 1) := by decide +kernel
theorem dX1_keep_47 : decode cX1_keep 47 = .ok (.dup, 1) := by decide +kernel
theorem dX1_keep_48 : decode cX1_keep 48 = .ok (.getfield 31, 3) := by decide +kernel
theorem dX1_keep_51 : decode cX1_keep 51 = .ok (.iconst 1, 1) := by decide +kernel
theorem dX1_keep_52 : decode cX1_keep 52 = .ok (.iadd, 1) := by decide +kernel
theorem dX1_keep_53 : decode cX1_keep 53 = .ok (.putfield 31, 3) := by decide +kernel
theorem dX1_keep_56 : decode cX1_keep 56 = .ok (.return_, 1) := by decide +kernel
set_option maxRecDepth 20000 in
theorem ggX1_exchange_X2_at : GoodIn wsX1_exchange wsX2_at := goodIn_r _ [7] (by decide +kernel) (by decide +kernel)
set_option maxRecDepth 20000 in
theorem gX1_exchange_X2_at_n41 : GoodIn wsX1_exchange (wsX2_at) := ggX1_exchange_X2_at
set_option maxRecDepth 20000 in
theorem ggX1_exchange_X2_put : GoodIn wsX1_exchange wsX2_put := goodIn_r _ [9] (by decide +kernel) (by decide +kernel)
set_option maxRecDepth 20000 in
theorem gX1_exchange_X2_put_n37 : GoodIn wsX1_exchange (wsX2_put) := ggX1_exchange_X2_put
theorem dX1_exchange_0 : decode cX1_exchange 0 = .ok (.aload_n 0, 1) := by decide +kernel
theorem dX1_exchange_1 : decode cX1_exchange 1 = .ok (.getfield 15, 3) := by decide +kernel
theorem dX1_exchange_4 : decode cX1_exchange 4 = .ok (.iload_n 1, 1) := by decide +kernel
theorem dX1_exchange_5 : decode cX1_exchange 5 = .ok (.invokestatic 41, 3) := by decide +kernel
theorem dX1_exchange_8 : decode cX1_exchange 8 = .ok (.istore_n 3, 1) := by decide +kernel
theorem dX1_exchange_9 : decode cX1_exchange 9 = .ok (.aload_n 0, 1) := by decide +kernel
theorem dX1_exchange_10 : decode cX1_exchange 10 = .ok (.getfield 15, 3) := by decide +kernel
theorem dX1_exchange_13 : decode cX1_exchange 13 = .ok (.iload_n 2, 1) := by decide +kernel
theorem dX1_exchange_14 : decode cX1_exchange 14 = .ok (.invokestatic 41, 3) := by decide +kernel
theorem dX1_exchange_17 : decode cX1_exchange 17 = .ok (.istore 4, 2) := by decide +kernel
theorem dX1_exchange_19 : decode cX1_exchange 19 = .ok (.aload_n 0, 1) := by decide +kernel
theorem dX1_exchange_20 : decode cX1_exchange 20 = .ok (.getfield 15, 3) := by decide +kernel
theorem dX1_exchange_23 : decode cX1_exchange 23 = .ok (.iload_n 1, 1) := by decide +kernel
theorem dX1_exchange_24 : decode cX1_exchange 24 = .ok (.iload 4, 2) := by decide +kernel
theorem dX1_exchange_26 : decode cX1_exchange 26 = .ok (.invokestatic 37, 3) := by decide +kernel
theorem dX1_exchange_29 : decode cX1_exchange 29 = .ok (.aload_n 0, 1) := by decide +kernel
theorem dX1_exchange_30 : decode cX1_exchange 30 = .ok (.getfield 15, 3) := by decide +kernel
theorem dX1_exchange_33 : decode cX1_exchange 33 = .ok (.iload_n 2, 1) := by decide +kernel
theorem dX1_exchange_34 : decode cX1_exchange 34 = .ok (.iload_n 3, 1) := by decide +kernel
theorem dX1_exchange_35 : decode cX1_exchange 35 = .ok (.invokestatic 37, 3) := by decide +kernel
theorem dX1_exchange_38 : decode cX1_exchange 38 = .ok (.aload_n 0, 1) := by decide +kernel
theorem dX1_exchange_39 : decode cX1_exchange 39 = .ok (.getfield 9, 3) := by decide +kernel
theorem dX1_exchange_42 : decode cX1_exchange 42 = .ok (.iload_n 3, 1) := by decide +kernel
theorem dX1_exchange_43 : decode cX1_exchange 43 = .ok (.iload_n 2, 1) := by decide +kernel
theorem dX1_exchange_44 : decode cX1_exchange 44 = .ok (.invokestatic 37, 3) := by decide +kernel
theorem dX1_exchange_47 : decode cX1_exchange 47 = .ok (.aload_n 0, 1) := by decide +kernel
theorem dX1_exchange_48 : decode cX1_exchange 48 = .ok (.getfield 9, 3) := by decide +kernel
theorem dX1_exchange_51 : decode cX1_exchange 51 = .ok (.iload 4, 2) := by decide +kernel
theorem dX1_exchange_53 : decode cX1_exchange 53 = .ok (.iload_n 1, 1) := by decide +kernel
theorem dX1_exchange_54 : decode cX1_exchange 54 = .ok (.invokestatic 37, 3) := by decide +kernel
theorem dX1_exchange_57 : decode cX1_exchange 57 = .ok (.aload_n 0, 1) := by decide +kernel
theorem dX1_exchange_58 : decode cX1_exchange 58 = .ok (.getfield 18, 3) := by decide +kernel
theorem dX1_exchange_61 : decode cX1_exchange 61 = .ok (.iconst 1, 1) := by decide +kernel
theorem dX1_exchange_62 : decode cX1_exchange 62 = .ok (.if_icmp .ne 39, 3) := by decide +kernel
theorem dX1_exchange_65 : decode cX1_exchange 65 = .ok (.aload_n 0, 1) := by decide +kernel
theorem dX1_exchange_66 : decode cX1_exchange 66 = .ok (.getfield 22, 3) := by decide +kernel
theorem dX1_exchange_69 : decode cX1_exchange 69 = .ok (.iload_n 1, 1) := by decide +kernel
theorem dX1_exchange_70 : decode cX1_exchange 70 = .ok (.invokestatic 41, 3) := by decide +kernel
theorem dX1_exchange_73 : decode cX1_exchange 73 = .ok (.istore 5, 2) := by decide +kernel
theorem dX1_exchange_75 : decode cX1_exchange 75 = .ok (.aload_n 0, 1) := by decide +kernel
theorem dX1_exchange_76 : decode cX1_exchange 76 = .ok (.getfield 22, 3) := by decide +kernel
theorem dX1_exchange_79 : decode cX1_exchange 79 = .ok (.iload_n 1, 1) := by decide +kernel
theorem dX1_exchange_80 : decode cX1_exchange 80 = .ok (.aload_n 0, 1) := by decide +kernel
theorem dX1_exchange_81 : decode cX1_exchange 81 = .ok (.getfield 22, 3) := by decide +kernel
theorem dX1_exchange_84 : decode cX1_exchange 84 = .ok (.iload_n 2, 1) := by decide +kernel
theorem dX1_exchange_85 : decode cX1_exchange 85 = .ok (.invokestatic 41, 3) := by decide +kernel
theorem dX1_exchange_88 : decode cX1_exchange 88 = .ok (.invokestatic 37, 3) := by decide +kernel
theorem dX1_exchange_91 : decode cX1_exchange 91 = .ok (.aload_n 0, 1) := by decide +kernel
theorem dX1_exchange_92 : decode cX1_exchange 92 = .ok (.getfield 22, 3) := by decide +kernel
theorem dX1_exchange_95 : decode cX1_exchange 95 = .ok (.iload_n 2, 1) := by decide +kernel
theorem dX1_exchange_96 : decode cX1_exchange 96 = .ok (.iload 5, 2) := by decide +kernel
theorem dX1_exchange_98 : decode cX1_exchange 98 = .ok (.invokestatic 37, 3) := by decide +kernel
theorem dX1_exchange_101 : decode cX1_exchange 101 = .ok (.return_, 1) := by decide +kernel
set_option maxRecDepth 20000 in
theorem ggX1_slipsOf_X2_groupOf : GoodIn wsX1_slipsOf wsX2_groupOf := goodIn_r _ [4, 5, 6, 3, 7, 8, 9, 10] (by decide +kernel) (by decide +kernel)
set_option maxRecDepth 20000 in
theorem gX1_slipsOf_X2_groupOf_n63 : GoodIn wsX1_slipsOf (wsX2_groupOf) := ggX1_slipsOf_X2_groupOf
set_option maxRecDepth 20000 in
theorem ggX1_slipsOf_X2_at : GoodIn wsX1_slipsOf wsX2_at := goodIn_r _ [12] (by decide +kernel) (by decide +kernel)
set_option maxRecDepth 20000 in
theorem gX1_slipsOf_X2_at_n41 : GoodIn wsX1_slipsOf (wsX2_at) := ggX1_slipsOf_X2_at
theorem dX1_slipsOf_0 : decode cX1_slipsOf 0 = .ok (.iconst 0, 1) := by decide +kernel
theorem dX1_slipsOf_1 : decode cX1_slipsOf 1 = .ok (.istore_n 3, 1) := by decide +kernel
theorem dX1_slipsOf_2 : decode cX1_slipsOf 2 = .ok (.iconst 0, 1) := by decide +kernel
theorem dX1_slipsOf_3 : decode cX1_slipsOf 3 = .ok (.istore 4, 2) := by decide +kernel
theorem dX1_slipsOf_5 : decode cX1_slipsOf 5 = .ok (.iload 4, 2) := by decide +kernel
theorem dX1_slipsOf_7 : decode cX1_slipsOf 7 = .ok (.bipush 12, 2) := by decide +kernel
theorem dX1_slipsOf_9 : decode cX1_slipsOf 9 = .ok (.if_icmp .ge 31, 3) := by decide +kernel
theorem dX1_slipsOf_12 : decode cX1_slipsOf 12 = .ok (.iload_n 1, 1) := by decide +kernel
theorem dX1_slipsOf_13 : decode cX1_slipsOf 13 = .ok (.iload 4, 2) := by decide +kernel
theorem dX1_slipsOf_15 : decode cX1_slipsOf 15 = .ok (.invokestatic 63, 3) := by decide +kernel
theorem dX1_slipsOf_18 : decode cX1_slipsOf 18 = .ok (.iload_n 2, 1) := by decide +kernel
theorem dX1_slipsOf_19 : decode cX1_slipsOf 19 = .ok (.if_icmp .ne 15, 3) := by decide +kernel
theorem dX1_slipsOf_22 : decode cX1_slipsOf 22 = .ok (.iload_n 3, 1) := by decide +kernel
theorem dX1_slipsOf_23 : decode cX1_slipsOf 23 = .ok (.aload_n 0, 1) := by decide +kernel
theorem dX1_slipsOf_24 : decode cX1_slipsOf 24 = .ok (.getfield 22, 3) := by decide +kernel
theorem dX1_slipsOf_27 : decode cX1_slipsOf 27 = .ok (.iload 4, 2) := by decide +kernel
theorem dX1_slipsOf_29 : decode cX1_slipsOf 29 = .ok (.invokestatic 41, 3) := by decide +kernel
theorem dX1_slipsOf_32 : decode cX1_slipsOf 32 = .ok (.iadd, 1) := by decide +kernel
theorem dX1_slipsOf_33 : decode cX1_slipsOf 33 = .ok (.istore_n 3, 1) := by decide +kernel
theorem dX1_slipsOf_34 : decode cX1_slipsOf 34 = .ok (.iinc 4 1, 3) := by decide +kernel
theorem dX1_slipsOf_37 : decode cX1_slipsOf 37 = .ok (.goto (-32), 3) := by decide +kernel
theorem dX1_slipsOf_40 : decode cX1_slipsOf 40 = .ok (.iload_n 3, 1) := by decide +kernel
theorem dX1_slipsOf_41 : decode cX1_slipsOf 41 = .ok (.ireturn, 1) := by decide +kernel
set_option maxRecDepth 20000 in
theorem ggX1_timeWith_X2_textTime : GoodIn wsX1_timeWith wsX2_textTime := goodIn_r _ [6, 7, 8, 5, 9, 10, 11, 12, 13, 14, 15, 16, 17, 18, 19, 20, 21, 22, 23, 24, 25, 26, 27, 28] (by decide +kernel) (by decide +kernel)
set_option maxRecDepth 20000 in
theorem gX1_timeWith_X2_textTime_n66 : GoodIn wsX1_timeWith (wsX2_textTime) := ggX1_timeWith_X2_textTime
theorem dX1_timeWith_0 : decode cX1_timeWith 0 = .ok (.aload_n 0, 1) := by decide +kernel
theorem dX1_timeWith_1 : decode cX1_timeWith 1 = .ok (.getfield 28, 3) := by decide +kernel
theorem dX1_timeWith_4 : decode cX1_timeWith 4 = .ok (.aload_n 0, 1) := by decide +kernel
theorem dX1_timeWith_5 : decode cX1_timeWith 5 = .ok (.getfield 31, 3) := by decide +kernel
theorem dX1_timeWith_8 : decode cX1_timeWith 8 = .ok (.aload_n 0, 1) := by decide +kernel
theorem dX1_timeWith_9 : decode cX1_timeWith 9 = .ok (.getfield 9, 3) := by decide +kernel
theorem dX1_timeWith_12 : decode cX1_timeWith 12 = .ok (.iload_n 1, 1) := by decide +kernel
theorem dX1_timeWith_13 : decode cX1_timeWith 13 = .ok (.iload_n 2, 1) := by decide +kernel
theorem dX1_timeWith_14 : decode cX1_timeWith 14 = .ok (.invokestatic 66, 3) := by decide +kernel
theorem dX1_timeWith_17 : decode cX1_timeWith 17 = .ok (.ireturn, 1) := by decide +kernel
set_option maxRecDepth 20000 in
theorem ggX1_savedBy_X1_timeWith : GoodIn wsX1_savedBy wsX1_timeWith := goodIn_r _ [5, 6, 7, 8, 9, 10, 11, 12, 13, 14, 15, 16, 17, 18, 19, 20, 21, 22, 23, 24, 25, 26, 27, 28, 29, 30, 31, 32, 33, 34, 35, 36, 37, 38, 39, 40, 41] (by decide +kernel) (by decide +kernel)
set_option maxRecDepth 20000 in
theorem gX1_savedBy_X1_timeWith : GoodIn wsX1_savedBy (wsV RX1 70 RX1 yX1_timeWith wsX1_timeWith) := goodIn_app (goodIn_of _ (by decide +kernel)) ggX1_savedBy_X1_timeWith
theorem dX1_savedBy_0 : decode cX1_savedBy 0 = .ok (.aload_n 0, 1) := by decide +kernel
theorem dX1_savedBy_1 : decode cX1_savedBy 1 = .ok (.iconst (-1), 1) := by decide +kernel
theorem dX1_savedBy_2 : decode cX1_savedBy 2 = .ok (.iconst (-1), 1) := by decide +kernel
theorem dX1_savedBy_3 : decode cX1_savedBy 3 = .ok (.invokevirtual 70, 3) := by decide +kernel
theorem dX1_savedBy_6 : decode cX1_savedBy 6 = .ok (.aload_n 0, 1) := by decide +kernel
theorem dX1_savedBy_7 : decode cX1_savedBy 7 = .ok (.iload_n 1, 1) := by decide +kernel
theorem dX1_savedBy_8 : decode cX1_savedBy 8 = .ok (.iload_n 2, 1) := by decide +kernel
theorem dX1_savedBy_9 : decode cX1_savedBy 9 = .ok (.invokevirtual 70, 3) := by decide +kernel
theorem dX1_savedBy_12 : decode cX1_savedBy 12 = .ok (.isub, 1) := by decide +kernel
theorem dX1_savedBy_13 : decode cX1_savedBy 13 = .ok (.ireturn, 1) := by decide +kernel
set_option maxRecDepth 20000 in
theorem ggX1_timeByCounts_J7_fill_53178 : GoodIn wsX1_timeByCounts wsJ7_fill_53178 := goodIn_r _ [7] (by decide +kernel) (by decide +kernel)
set_option maxRecDepth 20000 in
theorem gX1_timeByCounts_J7_fill_53178 : GoodIn wsX1_timeByCounts (va_wsS RX1 73 yJ7_fill_53178 wsJ7_fill_53178) := goodIn_app (goodIn_of _ (by decide +kernel)) ggX1_timeByCounts_J7_fill_53178
set_option maxRecDepth 20000 in
theorem ggX1_timeByCounts_X2_at : GoodIn wsX1_timeByCounts wsX2_at := goodIn_r _ [10] (by decide +kernel) (by decide +kernel)
set_option maxRecDepth 20000 in
theorem gX1_timeByCounts_X2_at_n41 : GoodIn wsX1_timeByCounts (wsX2_at) := ggX1_timeByCounts_X2_at
set_option maxRecDepth 20000 in
theorem ggX1_timeByCounts_X2_pairPlace : GoodIn wsX1_timeByCounts wsX2_pairPlace := goodIn_r _ [12] (by decide +kernel) (by decide +kernel)
set_option maxRecDepth 20000 in
theorem gX1_timeByCounts_X2_pairPlace_n49 : GoodIn wsX1_timeByCounts (wsX2_pairPlace) := ggX1_timeByCounts_X2_pairPlace
set_option maxRecDepth 20000 in
theorem ggX1_timeByCounts_X2_count : GoodIn wsX1_timeByCounts wsX2_count := goodIn_r _ [14, 15, 8, 9, 10, 16, 17, 18] (by decide +kernel) (by decide +kernel)
set_option maxRecDepth 20000 in
theorem gX1_timeByCounts_X2_count_n45 : GoodIn wsX1_timeByCounts (wsX2_count) := ggX1_timeByCounts_X2_count
set_option maxRecDepth 20000 in
theorem ggX1_timeByCounts_X2_stepTime : GoodIn wsX1_timeByCounts wsX2_stepTime := goodIn_r _ [20, 21, 22, 23, 24, 25, 26, 9, 27, 28, 29, 30, 31, 32, 33] (by decide +kernel) (by decide +kernel)
set_option maxRecDepth 20000 in
theorem gX1_timeByCounts_X2_stepTime_n78 : GoodIn wsX1_timeByCounts (wsX2_stepTime) := ggX1_timeByCounts_X2_stepTime
theorem dX1_timeByCounts_0 : decode cX1_timeByCounts 0 = .ok (.aload_n 1, 1) := by decide +kernel
theorem dX1_timeByCounts_1 : decode cX1_timeByCounts 1 = .ok (.iconst 0, 1) := by decide +kernel
theorem dX1_timeByCounts_2 : decode cX1_timeByCounts 2 = .ok (.invokestatic 73, 3) := by decide +kernel
theorem dX1_timeByCounts_5 : decode cX1_timeByCounts 5 = .ok (.iconst 1, 1) := by decide +kernel
theorem dX1_timeByCounts_6 : decode cX1_timeByCounts 6 = .ok (.istore_n 2, 1) := by decide +kernel
theorem dX1_timeByCounts_7 : decode cX1_timeByCounts 7 = .ok (.iload_n 2, 1) := by decide +kernel
theorem dX1_timeByCounts_8 : decode cX1_timeByCounts 8 = .ok (.aload_n 0, 1) := by decide +kernel
theorem dX1_timeByCounts_9 : decode cX1_timeByCounts 9 = .ok (.getfield 31, 3) := by decide +kernel
theorem dX1_timeByCounts_12 : decode cX1_timeByCounts 12 = .ok (.if_icmp .ge 34, 3) := by decide +kernel
theorem dX1_timeByCounts_15 : decode cX1_timeByCounts 15 = .ok (.aload_n 1, 1) := by decide +kernel
theorem dX1_timeByCounts_16 : decode cX1_timeByCounts 16 = .ok (.aload_n 0, 1) := by decide +kernel
theorem dX1_timeByCounts_17 : decode cX1_timeByCounts 17 = .ok (.getfield 28, 3) := by decide +kernel
theorem dX1_timeByCounts_20 : decode cX1_timeByCounts 20 = .ok (.iload_n 2, 1) := by decide +kernel
theorem dX1_timeByCounts_21 : decode cX1_timeByCounts 21 = .ok (.iconst 1, 1) := by decide +kernel
theorem dX1_timeByCounts_22 : decode cX1_timeByCounts 22 = .ok (.isub, 1) := by decide +kernel
theorem dX1_timeByCounts_23 : decode cX1_timeByCounts 23 = .ok (.invokestatic 41, 3) := by decide +kernel
theorem dX1_timeByCounts_26 : decode cX1_timeByCounts 26 = .ok (.aload_n 0, 1) := by decide +kernel
theorem dX1_timeByCounts_27 : decode cX1_timeByCounts 27 = .ok (.getfield 28, 3) := by decide +kernel
theorem dX1_timeByCounts_30 : decode cX1_timeByCounts 30 = .ok (.iload_n 2, 1) := by decide +kernel
theorem dX1_timeByCounts_31 : decode cX1_timeByCounts 31 = .ok (.invokestatic 41, 3) := by decide +kernel
theorem dX1_timeByCounts_34 : decode cX1_timeByCounts 34 = .ok (.invokestatic 49, 3) := by decide +kernel
theorem dX1_timeByCounts_37 : decode cX1_timeByCounts 37 = .ok (.invokestatic 45, 3) := by decide +kernel
theorem dX1_timeByCounts_40 : decode cX1_timeByCounts 40 = .ok (.iinc 2 1, 3) := by decide +kernel
theorem dX1_timeByCounts_43 : decode cX1_timeByCounts 43 = .ok (.goto (-36), 3) := by decide +kernel
theorem dX1_timeByCounts_46 : decode cX1_timeByCounts 46 = .ok (.aload_n 0, 1) := by decide +kernel
theorem dX1_timeByCounts_47 : decode cX1_timeByCounts 47 = .ok (.getfield 31, 3) := by decide +kernel
theorem dX1_timeByCounts_50 : decode cX1_timeByCounts 50 = .ok (.ifCond .le 7, 3) := by decide +kernel
theorem dX1_timeByCounts_53 : decode cX1_timeByCounts 53 = .ok (.iconst 2, 1) := by decide +kernel
theorem dX1_timeByCounts_54 : decode cX1_timeByCounts 54 = .ok (.goto 4, 3) := by decide +kernel
theorem dX1_timeByCounts_57 : decode cX1_timeByCounts 57 = .ok (.iconst 0, 1) := by decide +kernel
theorem dX1_timeByCounts_58 : decode cX1_timeByCounts 58 = .ok (.istore_n 2, 1) := by decide +kernel
theorem dX1_timeByCounts_59 : decode cX1_timeByCounts 59 = .ok (.iconst 0, 1) := by decide +kernel
theorem dX1_timeByCounts_60 : decode cX1_timeByCounts 60 = .ok (.istore_n 3, 1) := by decide +kernel
theorem dX1_timeByCounts_61 : decode cX1_timeByCounts 61 = .ok (.iload_n 3, 1) := by decide +kernel
theorem dX1_timeByCounts_62 : decode cX1_timeByCounts 62 = .ok (.bipush 12, 2) := by decide +kernel
theorem dX1_timeByCounts_64 : decode cX1_timeByCounts 64 = .ok (.if_icmp .ge 63, 3) := by decide +kernel
theorem dX1_timeByCounts_67 : decode cX1_timeByCounts 67 = .ok (.iconst 0, 1) := by decide +kernel
theorem dX1_timeByCounts_68 : decode cX1_timeByCounts 68 = .ok (.istore 4, 2) := by decide +kernel
theorem dX1_timeByCounts_70 : decode cX1_timeByCounts 70 = .ok (.iload 4, 2) := by decide +kernel
theorem dX1_timeByCounts_72 : decode cX1_timeByCounts 72 = .ok (.bipush 12, 2) := by decide +kernel
theorem dX1_timeByCounts_74 : decode cX1_timeByCounts 74 = .ok (.if_icmp .ge 47, 3) := by decide +kernel
theorem dX1_timeByCounts_77 : decode cX1_timeByCounts 77 = .ok (.aload_n 0, 1) := by decide +kernel
theorem dX1_timeByCounts_78 : decode cX1_timeByCounts 78 = .ok (.getfield 9, 3) := by decide +kernel
theorem dX1_timeByCounts_81 : decode cX1_timeByCounts 81 = .ok (.iload_n 3, 1) := by decide +kernel
theorem dX1_timeByCounts_82 : decode cX1_timeByCounts 82 = .ok (.invokestatic 41, 3) := by decide +kernel
theorem dX1_timeByCounts_85 : decode cX1_timeByCounts 85 = .ok (.aload_n 0, 1) := by decide +kernel
theorem dX1_timeByCounts_86 : decode cX1_timeByCounts 86 = .ok (.getfield 9, 3) := by decide +kernel
theorem dX1_timeByCounts_89 : decode cX1_timeByCounts 89 = .ok (.iload 4, 2) := by decide +kernel
theorem dX1_timeByCounts_91 : decode cX1_timeByCounts 91 = .ok (.invokestatic 41, 3) := by decide +kernel
theorem dX1_timeByCounts_94 : decode cX1_timeByCounts 94 = .ok (.invokestatic 78, 3) := by decide +kernel
theorem dX1_timeByCounts_97 : decode cX1_timeByCounts 97 = .ok (.istore 5, 2) := by decide +kernel
theorem dX1_timeByCounts_99 : decode cX1_timeByCounts 99 = .ok (.iload_n 2, 1) := by decide +kernel
theorem dX1_timeByCounts_100 : decode cX1_timeByCounts 100 = .ok (.aload_n 1, 1) := by decide +kernel
theorem dX1_timeByCounts_101 : decode cX1_timeByCounts 101 = .ok (.iload_n 3, 1) := by decide +kernel
theorem dX1_timeByCounts_102 : decode cX1_timeByCounts 102 = .ok (.iload 4, 2) := by decide +kernel
theorem dX1_timeByCounts_104 : decode cX1_timeByCounts 104 = .ok (.invokestatic 49, 3) := by decide +kernel
theorem dX1_timeByCounts_107 : decode cX1_timeByCounts 107 = .ok (.invokestatic 41, 3) := by decide +kernel
theorem dX1_timeByCounts_110 : decode cX1_timeByCounts 110 = .ok (.iload 5, 2) := by decide +kernel
theorem dX1_timeByCounts_112 : decode cX1_timeByCounts 112 = .ok (.imul, 1) := by decide +kernel
theorem dX1_timeByCounts_113 : decode cX1_timeByCounts 113 = .ok (.iadd, 1) := by decide +kernel
theorem dX1_timeByCounts_114 : decode cX1_timeByCounts 114 = .ok (.istore_n 2, 1) := by decide +kernel
theorem dX1_timeByCounts_115 : decode cX1_timeByCounts 115 = .ok (.iinc 4 1, 3) := by decide +kernel
theorem dX1_timeByCounts_118 : decode cX1_timeByCounts 118 = .ok (.goto (-48), 3) := by decide +kernel
theorem dX1_timeByCounts_121 : decode cX1_timeByCounts 121 = .ok (.iinc 3 1, 3) := by decide +kernel
theorem dX1_timeByCounts_124 : decode cX1_timeByCounts 124 = .ok (.goto (-63), 3) := by decide +kernel
theorem dX1_timeByCounts_127 : decode cX1_timeByCounts 127 = .ok (.iload_n 2, 1) := by decide +kernel
theorem dX1_timeByCounts_128 : decode cX1_timeByCounts 128 = .ok (.ireturn, 1) := by decide +kernel
set_option maxRecDepth 20000 in
theorem ggX1_bestExchange_X1_timeWith : GoodIn wsX1_bestExchange wsX1_timeWith := goodIn_r _ [5, 6, 7, 8, 9, 10, 11, 12, 13, 14, 15, 16, 17, 18, 19, 20, 21, 22, 23, 24, 25, 26, 27, 28, 29, 30, 31, 32, 33, 34, 35, 36, 37, 38, 39, 40, 41] (by decide +kernel) (by decide +kernel)
set_option maxRecDepth 20000 in
theorem gX1_bestExchange_X1_timeWith : GoodIn wsX1_bestExchange (wsV RX1 70 RX1 yX1_timeWith wsX1_timeWith) := goodIn_app (goodIn_of _ (by decide +kernel)) ggX1_bestExchange_X1_timeWith
theorem dX1_bestExchange_0 : decode cX1_bestExchange 0 = .ok (.aload_n 0, 1) := by decide +kernel
theorem dX1_bestExchange_1 : decode cX1_bestExchange 1 = .ok (.iconst (-1), 1) := by decide +kernel
theorem dX1_bestExchange_2 : decode cX1_bestExchange 2 = .ok (.iconst (-1), 1) := by decide +kernel
theorem dX1_bestExchange_3 : decode cX1_bestExchange 3 = .ok (.invokevirtual 70, 3) := by decide +kernel
theorem dX1_bestExchange_6 : decode cX1_bestExchange 6 = .ok (.istore_n 1, 1) := by decide +kernel
theorem dX1_bestExchange_7 : decode cX1_bestExchange 7 = .ok (.iconst 0, 1) := by decide +kernel
theorem dX1_bestExchange_8 : decode cX1_bestExchange 8 = .ok (.istore_n 2, 1) := by decide +kernel
theorem dX1_bestExchange_9 : decode cX1_bestExchange 9 = .ok (.iconst (-1), 1) := by decide +kernel
theorem dX1_bestExchange_10 : decode cX1_bestExchange 10 = .ok (.istore_n 3, 1) := by decide +kernel
theorem dX1_bestExchange_11 : decode cX1_bestExchange 11 = .ok (.iconst 0, 1) := by decide +kernel
theorem dX1_bestExchange_12 : decode cX1_bestExchange 12 = .ok (.istore 4, 2) := by decide +kernel
theorem dX1_bestExchange_14 : decode cX1_bestExchange 14 = .ok (.iload 4, 2) := by decide +kernel
theorem dX1_bestExchange_16 : decode cX1_bestExchange 16 = .ok (.bipush 12, 2) := by decide +kernel
theorem dX1_bestExchange_18 : decode cX1_bestExchange 18 = .ok (.if_icmp .ge 58, 3) := by decide +kernel
theorem dX1_bestExchange_21 : decode cX1_bestExchange 21 = .ok (.iload 4, 2) := by decide +kernel
theorem dX1_bestExchange_23 : decode cX1_bestExchange 23 = .ok (.iconst 1, 1) := by decide +kernel
theorem dX1_bestExchange_24 : decode cX1_bestExchange 24 = .ok (.iadd, 1) := by decide +kernel
theorem dX1_bestExchange_25 : decode cX1_bestExchange 25 = .ok (.istore 5, 2) := by decide +kernel
theorem dX1_bestExchange_27 : decode cX1_bestExchange 27 = .ok (.iload 5, 2) := by decide +kernel
theorem dX1_bestExchange_29 : decode cX1_bestExchange 29 = .ok (.bipush 12, 2) := by decide +kernel
theorem dX1_bestExchange_31 : decode cX1_bestExchange 31 = .ok (.if_icmp .ge 39, 3) := by decide +kernel
theorem dX1_bestExchange_34 : decode cX1_bestExchange 34 = .ok (.iload_n 1, 1) := by decide +kernel
theorem dX1_bestExchange_35 : decode cX1_bestExchange 35 = .ok (.aload_n 0, 1) := by decide +kernel
theorem dX1_bestExchange_36 : decode cX1_bestExchange 36 = .ok (.iload 4, 2) := by decide +kernel
theorem dX1_bestExchange_38 : decode cX1_bestExchange 38 = .ok (.iload 5, 2) := by decide +kernel
theorem dX1_bestExchange_40 : decode cX1_bestExchange 40 = .ok (.invokevirtual 70, 3) := by decide +kernel
theorem dX1_bestExchange_43 : decode cX1_bestExchange 43 = .ok (.isub, 1) := by decide +kernel
theorem dX1_bestExchange_44 : decode cX1_bestExchange 44 = .ok (.istore 6, 2) := by decide +kernel
theorem dX1_bestExchange_46 : decode cX1_bestExchange 46 = .ok (.iload 6, 2) := by decide +kernel
theorem dX1_bestExchange_48 : decode cX1_bestExchange 48 = .ok (.iload_n 2, 1) := by decide +kernel
theorem dX1_bestExchange_49 : decode cX1_bestExchange 49 = .ok (.if_icmp .le 15, 3) := by decide +kernel
theorem dX1_bestExchange_52 : decode cX1_bestExchange 52 = .ok (.iload 6, 2) := by decide +kernel
theorem dX1_bestExchange_54 : decode cX1_bestExchange 54 = .ok (.istore_n 2, 1) := by decide +kernel
theorem dX1_bestExchange_55 : decode cX1_bestExchange 55 = .ok (.bipush 12, 2) := by decide +kernel
theorem dX1_bestExchange_57 : decode cX1_bestExchange 57 = .ok (.iload 4, 2) := by decide +kernel
theorem dX1_bestExchange_59 : decode cX1_bestExchange 59 = .ok (.imul, 1) := by decide +kernel
theorem dX1_bestExchange_60 : decode cX1_bestExchange 60 = .ok (.iload 5, 2) := by decide +kernel
theorem dX1_bestExchange_62 : decode cX1_bestExchange 62 = .ok (.iadd, 1) := by decide +kernel
theorem dX1_bestExchange_63 : decode cX1_bestExchange 63 = .ok (.istore_n 3, 1) := by decide +kernel
theorem dX1_bestExchange_64 : decode cX1_bestExchange 64 = .ok (.iinc 5 1, 3) := by decide +kernel
theorem dX1_bestExchange_67 : decode cX1_bestExchange 67 = .ok (.goto (-40), 3) := by decide +kernel
theorem dX1_bestExchange_70 : decode cX1_bestExchange 70 = .ok (.iinc 4 1, 3) := by decide +kernel
theorem dX1_bestExchange_73 : decode cX1_bestExchange 73 = .ok (.goto (-59), 3) := by decide +kernel
theorem dX1_bestExchange_76 : decode cX1_bestExchange 76 = .ok (.iload_n 3, 1) := by decide +kernel
theorem dX1_bestExchange_77 : decode cX1_bestExchange 77 = .ok (.ireturn, 1) := by decide +kernel
set_option maxRecDepth 20000 in
theorem ggX1_slippingLetter_X1_lettersAhead : GoodIn wsX1_slippingLetter wsX1_lettersAhead := goodIn_r _ [5, 6, 7, 8, 4, 9, 10, 11, 12, 13, 14, 15, 16, 17, 18, 19, 20, 21, 22] (by decide +kernel) (by decide +kernel)
set_option maxRecDepth 20000 in
theorem gX1_slippingLetter_X1_lettersAhead : GoodIn wsX1_slippingLetter (wsV RX1 81 RX1 yX1_lettersAhead wsX1_lettersAhead) := goodIn_app (goodIn_of _ (by decide +kernel)) ggX1_slippingLetter_X1_lettersAhead
theorem dX1_slippingLetter_0 : decode cX1_slippingLetter 0 = .ok (.iconst 0, 1) := by decide +kernel
theorem dX1_slippingLetter_1 : decode cX1_slippingLetter 1 = .ok (.istore_n 2, 1) := by decide +kernel
theorem dX1_slippingLetter_2 : decode cX1_slippingLetter 2 = .ok (.iconst 0, 1) := by decide +kernel
theorem dX1_slippingLetter_3 : decode cX1_slippingLetter 3 = .ok (.istore_n 3, 1) := by decide +kernel
theorem dX1_slippingLetter_4 : decode cX1_slippingLetter 4 = .ok (.iload_n 3, 1) := by decide +kernel
theorem dX1_slippingLetter_5 : decode cX1_slippingLetter 5 = .ok (.bipush 12, 2) := by decide +kernel
theorem dX1_slippingLetter_7 : decode cX1_slippingLetter 7 = .ok (.if_icmp .ge 20, 3) := by decide +kernel
theorem dX1_slippingLetter_10 : decode cX1_slippingLetter 10 = .ok (.aload_n 0, 1) := by decide +kernel
theorem dX1_slippingLetter_11 : decode cX1_slippingLetter 11 = .ok (.iload_n 3, 1) := by decide +kernel
theorem dX1_slippingLetter_12 : decode cX1_slippingLetter 12 = .ok (.invokevirtual 81, 3) := by decide +kernel
theorem dX1_slippingLetter_15 : decode cX1_slippingLetter 15 = .ok (.iload_n 1, 1) := by decide +kernel
theorem dX1_slippingLetter_16 : decode cX1_slippingLetter 16 = .ok (.if_icmp .ne 5, 3) := by decide +kernel
theorem dX1_slippingLetter_19 : decode cX1_slippingLetter 19 = .ok (.iload_n 3, 1) := by decide +kernel
theorem dX1_slippingLetter_20 : decode cX1_slippingLetter 20 = .ok (.istore_n 2, 1) := by decide +kernel
theorem dX1_slippingLetter_21 : decode cX1_slippingLetter 21 = .ok (.iinc 3 1, 3) := by decide +kernel
theorem dX1_slippingLetter_24 : decode cX1_slippingLetter 24 = .ok (.goto (-20), 3) := by decide +kernel
theorem dX1_slippingLetter_27 : decode cX1_slippingLetter 27 = .ok (.iload_n 2, 1) := by decide +kernel
theorem dX1_slippingLetter_28 : decode cX1_slippingLetter 28 = .ok (.ireturn, 1) := by decide +kernel
set_option maxRecDepth 20000 in
theorem ggX1_lettersAhead_X1_letterSlips : GoodIn wsX1_lettersAhead wsX1_letterSlips := goodIn_r _ [5, 6, 7, 8, 9, 10, 11, 12, 13, 14, 15, 16, 17, 18] (by decide +kernel) (by decide +kernel)
set_option maxRecDepth 20000 in
theorem gX1_lettersAhead_X1_letterSlips : GoodIn wsX1_lettersAhead (wsV RX1 85 RX1 yX1_letterSlips wsX1_letterSlips) := goodIn_app (goodIn_of _ (by decide +kernel)) ggX1_lettersAhead_X1_letterSlips
theorem dX1_lettersAhead_0 : decode cX1_lettersAhead 0 = .ok (.aload_n 0, 1) := by decide +kernel
theorem dX1_lettersAhead_1 : decode cX1_lettersAhead 1 = .ok (.iload_n 1, 1) := by decide +kernel
theorem dX1_lettersAhead_2 : decode cX1_lettersAhead 2 = .ok (.invokevirtual 85, 3) := by decide +kernel
theorem dX1_lettersAhead_5 : decode cX1_lettersAhead 5 = .ok (.istore_n 2, 1) := by decide +kernel
theorem dX1_lettersAhead_6 : decode cX1_lettersAhead 6 = .ok (.iconst 0, 1) := by decide +kernel
theorem dX1_lettersAhead_7 : decode cX1_lettersAhead 7 = .ok (.istore_n 3, 1) := by decide +kernel
theorem dX1_lettersAhead_8 : decode cX1_lettersAhead 8 = .ok (.iconst 0, 1) := by decide +kernel
theorem dX1_lettersAhead_9 : decode cX1_lettersAhead 9 = .ok (.istore 4, 2) := by decide +kernel
theorem dX1_lettersAhead_11 : decode cX1_lettersAhead 11 = .ok (.iload 4, 2) := by decide +kernel
theorem dX1_lettersAhead_13 : decode cX1_lettersAhead 13 = .ok (.bipush 12, 2) := by decide +kernel
theorem dX1_lettersAhead_15 : decode cX1_lettersAhead 15 = .ok (.if_icmp .ge 38, 3) := by decide +kernel
theorem dX1_lettersAhead_18 : decode cX1_lettersAhead 18 = .ok (.aload_n 0, 1) := by decide +kernel
theorem dX1_lettersAhead_19 : decode cX1_lettersAhead 19 = .ok (.iload 4, 2) := by decide +kernel
theorem dX1_lettersAhead_21 : decode cX1_lettersAhead 21 = .ok (.invokevirtual 85, 3) := by decide +kernel
theorem dX1_lettersAhead_24 : decode cX1_lettersAhead 24 = .ok (.istore 5, 2) := by decide +kernel
theorem dX1_lettersAhead_26 : decode cX1_lettersAhead 26 = .ok (.iload 5, 2) := by decide +kernel
theorem dX1_lettersAhead_28 : decode cX1_lettersAhead 28 = .ok (.iload_n 2, 1) := by decide +kernel
theorem dX1_lettersAhead_29 : decode cX1_lettersAhead 29 = .ok (.if_icmp .gt 15, 3) := by decide +kernel
theorem dX1_lettersAhead_32 : decode cX1_lettersAhead 32 = .ok (.iload 5, 2) := by decide +kernel
theorem dX1_lettersAhead_34 : decode cX1_lettersAhead 34 = .ok (.iload_n 2, 1) := by decide +kernel
theorem dX1_lettersAhead_35 : decode cX1_lettersAhead 35 = .ok (.if_icmp .ne 12, 3) := by decide +kernel
theorem dX1_lettersAhead_38 : decode cX1_lettersAhead 38 = .ok (.iload 4, 2) := by decide +kernel
theorem dX1_lettersAhead_40 : decode cX1_lettersAhead 40 = .ok (.iload_n 1, 1) := by decide +kernel
theorem dX1_lettersAhead_41 : decode cX1_lettersAhead 41 = .ok (.if_icmp .ge 6, 3) := by decide +kernel
theorem dX1_lettersAhead_44 : decode cX1_lettersAhead 44 = .ok (.iinc 3 1, 3) := by decide +kernel
theorem dX1_lettersAhead_47 : decode cX1_lettersAhead 47 = .ok (.iinc 4 1, 3) := by decide +kernel
theorem dX1_lettersAhead_50 : decode cX1_lettersAhead 50 = .ok (.goto (-39), 3) := by decide +kernel
theorem dX1_lettersAhead_53 : decode cX1_lettersAhead 53 = .ok (.iload_n 3, 1) := by decide +kernel
theorem dX1_lettersAhead_54 : decode cX1_lettersAhead 54 = .ok (.ireturn, 1) := by decide +kernel
set_option maxRecDepth 20000 in
theorem ggX1_letterSlips_X2_at : GoodIn wsX1_letterSlips wsX2_at := goodIn_r _ [5] (by decide +kernel) (by decide +kernel)
set_option maxRecDepth 20000 in
theorem gX1_letterSlips_X2_at_n41 : GoodIn wsX1_letterSlips (wsX2_at) := ggX1_letterSlips_X2_at
theorem dX1_letterSlips_0 : decode cX1_letterSlips 0 = .ok (.aload_n 0, 1) := by decide +kernel
theorem dX1_letterSlips_1 : decode cX1_letterSlips 1 = .ok (.getfield 22, 3) := by decide +kernel
theorem dX1_letterSlips_4 : decode cX1_letterSlips 4 = .ok (.aload_n 0, 1) := by decide +kernel
theorem dX1_letterSlips_5 : decode cX1_letterSlips 5 = .ok (.getfield 9, 3) := by decide +kernel
theorem dX1_letterSlips_8 : decode cX1_letterSlips 8 = .ok (.iload_n 1, 1) := by decide +kernel
theorem dX1_letterSlips_9 : decode cX1_letterSlips 9 = .ok (.invokestatic 41, 3) := by decide +kernel
theorem dX1_letterSlips_12 : decode cX1_letterSlips 12 = .ok (.invokestatic 41, 3) := by decide +kernel
theorem dX1_letterSlips_15 : decode cX1_letterSlips 15 = .ok (.ireturn, 1) := by decide +kernel
theorem dX2_init_0 : decode cX2_init 0 = .ok (.aload_n 0, 1) := by decide +kernel
theorem dX2_init_1 : decode cX2_init 1 = .ok (.invokespecial 1, 3) := by decide +kernel
theorem dX2_init_4 : decode cX2_init 4 = .ok (.aload_n 0, 1) := by decide +kernel
theorem dX2_init_5 : decode cX2_init 5 = .ok (.iconst 5, 1) := by decide +kernel
theorem dX2_init_6 : decode cX2_init 6 = .ok (.anewarray 9, 3) := by decide +kernel
theorem dX2_init_9 : decode cX2_init 9 = .ok (.putfield 11, 3) := by decide +kernel
theorem dX2_init_12 : decode cX2_init 12 = .ok (.aload_n 0, 1) := by decide +kernel
theorem dX2_init_13 : decode cX2_init 13 = .ok (.bipush 6, 2) := by decide +kernel
theorem dX2_init_15 : decode cX2_init 15 = .ok (.anewarray 15, 3) := by decide +kernel
theorem dX2_init_18 : decode cX2_init 18 = .ok (.putfield 17, 3) := by decide +kernel
theorem dX2_init_21 : decode cX2_init 21 = .ok (.aload_n 0, 1) := by decide +kernel
theorem dX2_init_22 : decode cX2_init 22 = .ok (.bipush 24, 2) := by decide +kernel
theorem dX2_init_24 : decode cX2_init 24 = .ok (.newarray .int, 2) := by decide +kernel
theorem dX2_init_26 : decode cX2_init 26 = .ok (.putfield 21, 3) := by decide +kernel
theorem dX2_init_29 : decode cX2_init 29 = .ok (.aload_n 0, 1) := by decide +kernel
theorem dX2_init_30 : decode cX2_init 30 = .ok (.iconst 0, 1) := by decide +kernel
theorem dX2_init_31 : decode cX2_init 31 = .ok (.putfield 25, 3) := by decide +kernel
theorem dX2_init_34 : decode cX2_init 34 = .ok (.aload_n 0, 1) := by decide +kernel
theorem dX2_init_35 : decode cX2_init 35 = .ok (.sipush 144, 3) := by decide +kernel
theorem dX2_init_38 : decode cX2_init 38 = .ok (.newarray .int, 2) := by decide +kernel
theorem dX2_init_40 : decode cX2_init 40 = .ok (.putfield 29, 3) := by decide +kernel
theorem dX2_init_43 : decode cX2_init 43 = .ok (.return_, 1) := by decide +kernel
set_option maxRecDepth 20000 in
theorem ggX2_student_X1_init : GoodIn wsX2_student wsX1_init := goodIn_r _ [8, 9, 10, 11, 12, 13, 14, 15, 16, 17, 18, 19, 20, 21, 22, 23, 29, 30, 31, 32, 33, 34, 35, 36] (by decide +kernel) (by decide +kernel)
set_option maxRecDepth 20000 in
theorem gX2_student_X1_init_n32 : GoodIn wsX2_student (wsX1_init) := ggX2_student_X1_init
theorem dX2_student_0 : decode cX2_student 0 = .ok (.iconst 0, 1) := by decide +kernel
theorem dX2_student_1 : decode cX2_student 1 = .ok (.istore_n 1, 1) := by decide +kernel
theorem dX2_student_2 : decode cX2_student 2 = .ok (.iload_n 1, 1) := by decide +kernel
theorem dX2_student_3 : decode cX2_student 3 = .ok (.aload_n 0, 1) := by decide +kernel
theorem dX2_student_4 : decode cX2_student 4 = .ok (.getfield 11, 3) := by decide +kernel
theorem dX2_student_7 : decode cX2_student 7 = .ok (.arraylength, 1) := by decide +kernel
theorem dX2_student_8 : decode cX2_student 8 = .ok (.if_icmp .ge 33, 3) := by decide +kernel
theorem dX2_student_11 : decode cX2_student 11 = .ok (.aload_n 0, 1) := by decide +kernel
theorem dX2_student_12 : decode cX2_student 12 = .ok (.getfield 11, 3) := by decide +kernel
theorem dX2_student_15 : decode cX2_student 15 = .ok (.iload_n 1, 1) := by decide +kernel
theorem dX2_student_16 : decode cX2_student 16 = .ok (.aaload, 1) := by decide +kernel
theorem dX2_student_17 : decode cX2_student 17 = .ok (.ifnonnull 18, 3) := by decide +kernel
theorem dX2_student_20 : decode cX2_student 20 = .ok (.aload_n 0, 1) := by decide +kernel
theorem dX2_student_21 : decode cX2_student 21 = .ok (.getfield 11, 3) := by decide +kernel
theorem dX2_student_24 : decode cX2_student 24 = .ok (.iload_n 1, 1) := by decide +kernel
theorem dX2_student_25 : decode cX2_student 25 = .ok (.new 9, 3) := by decide +kernel
theorem dX2_student_28 : decode cX2_student 28 = .ok (.dup, 1) := by decide +kernel
theorem dX2_student_29 : decode cX2_student 29 = .ok (.invokespecial 32, 3) := by decide +kernel
theorem dX2_student_32 : decode cX2_student 32 = .ok (.aastore, 1) := by decide +kernel
theorem dX2_student_33 : decode cX2_student 33 = .ok (.iload_n 1, 1) := by decide +kernel
theorem dX2_student_34 : decode cX2_student 34 = .ok (.ireturn, 1) := by decide +kernel
theorem dX2_student_35 : decode cX2_student 35 = .ok (.iinc 1 1, 3) := by decide +kernel
theorem dX2_student_38 : decode cX2_student 38 = .ok (.goto (-36), 3) := by decide +kernel
theorem dX2_student_41 : decode cX2_student 41 = .ok (.new 33, 3) := by decide +kernel
theorem dX2_student_44 : decode cX2_student 44 = .ok (.dup, 1) := by decide +kernel
theorem dX2_student_45 : decode cX2_student 45 = .ok (.ldc 35, 2) := by decide +kernel
theorem dX2_student_47 : decode cX2_student 47 = .ok (.invokespecial 37, 3) := by decide +kernel
theorem dX2_student_50 : decode cX2_student 50 = .ok (.athrow, 1) := by decide +kernel
set_option maxRecDepth 20000 in
theorem ggX2_carry_X2_studentAt : GoodIn wsX2_carry wsX2_studentAt := goodIn_ca (goodIn_r _ [7, 8, 9, 10, 19, 20, 21, 22, 23] (by decide +kernel) (by decide +kernel)) (goodIn_sub (fun _ h => List.mem_cons_of_mem _ (List.mem_append_right _ h)) (by decide +kernel))
set_option maxRecDepth 20000 in
theorem gX2_carry_X2_studentAt : GoodIn wsX2_carry (wsV RX2 40 RX2 yX2_studentAt wsX2_studentAt) := goodIn_app (goodIn_of _ (by decide +kernel)) ggX2_carry_X2_studentAt
theorem dX2_carry_0 : decode cX2_carry 0 = .ok (.aload_n 0, 1) := by decide +kernel
theorem dX2_carry_1 : decode cX2_carry 1 = .ok (.iload_n 1, 1) := by decide +kernel
theorem dX2_carry_2 : decode cX2_carry 2 = .ok (.invokevirtual 40, 3) := by decide +kernel
theorem dX2_carry_5 : decode cX2_carry 5 = .ok (.astore_n 3, 1) := by decide +kernel
theorem dX2_carry_6 : decode cX2_carry 6 = .ok (.iload_n 2, 1) := by decide +kernel
theorem dX2_carry_7 : decode cX2_carry 7 = .ok (.ifCond .eq 18, 3) := by decide +kernel
theorem dX2_carry_10 : decode cX2_carry 10 = .ok (.iload_n 2, 1) := by decide +kernel
theorem dX2_carry_11 : decode cX2_carry 11 = .ok (.iconst 1, 1) := by decide +kernel
theorem dX2_carry_12 : decode cX2_carry 12 = .ok (.if_icmp .eq 13, 3) := by decide +kernel
theorem dX2_carry_15 : decode cX2_carry 15 = .ok (.new 44, 3) := by decide +kernel
theorem dX2_carry_18 : decode cX2_carry 18 = .ok (.dup, 1) := by decide +kernel
theorem dX2_carry_19 : decode cX2_carry 19 = .ok (.ldc 46, 2) := by decide +kernel
theorem dX2_carry_21 : decode cX2_carry 21 = .ok (.invokespecial 48, 3) := by decide +kernel
theorem dX2_carry_24 : decode cX2_carry 24 = .ok (.athrow, 1) := by decide +kernel
theorem dX2_carry_25 : decode cX2_carry 25 = .ok (.aload_n 3, 1) := by decide +kernel
theorem dX2_carry_26 : decode cX2_carry 26 = .ok (.getfield 49, 3) := by decide +kernel
theorem dX2_carry_29 : decode cX2_carry 29 = .ok (.istore 4, 2) := by decide +kernel
theorem dX2_carry_31 : decode cX2_carry 31 = .ok (.aload_n 3, 1) := by decide +kernel
theorem dX2_carry_32 : decode cX2_carry 32 = .ok (.iload_n 2, 1) := by decide +kernel
theorem dX2_carry_33 : decode cX2_carry 33 = .ok (.putfield 49, 3) := by decide +kernel
theorem dX2_carry_36 : decode cX2_carry 36 = .ok (.iload 4, 2) := by decide +kernel
theorem dX2_carry_38 : decode cX2_carry 38 = .ok (.ireturn, 1) := by decide +kernel
set_option maxRecDepth 20000 in
theorem ggX2_swap_X2_studentAt : GoodIn wsX2_swap wsX2_studentAt := goodIn_ca (goodIn_r _ [5, 6, 7, 8, 60, 61, 62, 63, 64] (by decide +kernel) (by decide +kernel)) (goodIn_sub (fun _ h => List.mem_cons_of_mem _ (List.mem_append_left _ (List.mem_append_right _ h))) (by decide +kernel))
set_option maxRecDepth 20000 in
theorem gX2_swap_X2_studentAt : GoodIn wsX2_swap (wsV RX2 40 RX2 yX2_studentAt wsX2_studentAt) := goodIn_app (goodIn_of _ (by decide +kernel)) ggX2_swap_X2_studentAt
set_option maxRecDepth 20000 in
theorem ggX2_swap_X2_needTwoKeys : GoodIn wsX2_swap wsX2_needTwoKeys := goodIn_ca (goodIn_ca (goodIn_r _ [11, 12, 13, 14, 15, 4, 16, 6, 7] (by decide +kernel) (by decide +kernel)) (goodIn_sub (fun _ h => List.mem_cons_of_mem _ (List.mem_append_right _ h)) (by decide +kernel))) (goodIn_sub (fun _ h => List.mem_cons_of_mem _ (List.mem_append_left _ (List.mem_append_right _ h))) (by decide +kernel))
set_option maxRecDepth 20000 in
theorem gX2_swap_X2_needTwoKeys : GoodIn wsX2_swap (va_wsS RX2 52 yX2_needTwoKeys wsX2_needTwoKeys) := goodIn_app (goodIn_of _ (by decide +kernel)) ggX2_swap_X2_needTwoKeys
set_option maxRecDepth 20000 in
theorem ggX2_swap_X1_savedBy : GoodIn wsX2_swap wsX1_savedBy := goodIn_r _ [20, 21, 22, 23, 18, 24, 25, 26, 27, 28, 4, 29, 30, 31, 32, 33, 34, 35, 36, 37, 38, 39, 40, 41, 42, 43, 44, 45, 46, 47, 48, 49, 50, 51, 65, 66, 67, 68, 69, 70, 71, 72] (by decide +kernel) (by decide +kernel)
set_option maxRecDepth 20000 in
theorem gX2_swap_X1_savedBy_n56 : GoodIn wsX2_swap (wsX1_savedBy) := ggX2_swap_X1_savedBy
set_option maxRecDepth 20000 in
theorem ggX2_swap_X1_exchange : GoodIn wsX2_swap wsX1_exchange := goodIn_r _ [54, 55, 27, 56, 57, 31, 4, 32, 58, 59, 65, 66, 67, 68, 69, 70, 71, 72] (by decide +kernel) (by decide +kernel)
set_option maxRecDepth 20000 in
theorem gX2_swap_X1_exchange_n60 : GoodIn wsX2_swap (wsX1_exchange) := ggX2_swap_X1_exchange
theorem dX2_swap_0 : decode cX2_swap 0 = .ok (.aload_n 0, 1) := by decide +kernel
theorem dX2_swap_1 : decode cX2_swap 1 = .ok (.iload_n 1, 1) := by decide +kernel
theorem dX2_swap_2 : decode cX2_swap 2 = .ok (.invokevirtual 40, 3) := by decide +kernel
theorem dX2_swap_5 : decode cX2_swap 5 = .ok (.astore 4, 2) := by decide +kernel
theorem dX2_swap_7 : decode cX2_swap 7 = .ok (.iload_n 2, 1) := by decide +kernel
theorem dX2_swap_8 : decode cX2_swap 8 = .ok (.iload_n 3, 1) := by decide +kernel
theorem dX2_swap_9 : decode cX2_swap 9 = .ok (.invokestatic 52, 3) := by decide +kernel
theorem dX2_swap_12 : decode cX2_swap 12 = .ok (.aload 4, 2) := by decide +kernel
theorem dX2_swap_14 : decode cX2_swap 14 = .ok (.iload_n 2, 1) := by decide +kernel
theorem dX2_swap_15 : decode cX2_swap 15 = .ok (.iload_n 3, 1) := by decide +kernel
theorem dX2_swap_16 : decode cX2_swap 16 = .ok (.invokevirtual 56, 3) := by decide +kernel
theorem dX2_swap_19 : decode cX2_swap 19 = .ok (.istore 5, 2) := by decide +kernel
theorem dX2_swap_21 : decode cX2_swap 21 = .ok (.aload 4, 2) := by decide +kernel
theorem dX2_swap_23 : decode cX2_swap 23 = .ok (.iload_n 2, 1) := by decide +kernel
theorem dX2_swap_24 : decode cX2_swap 24 = .ok (.iload_n 3, 1) := by decide +kernel
theorem dX2_swap_25 : decode cX2_swap 25 = .ok (.invokevirtual 60, 3) := by decide +kernel
theorem dX2_swap_28 : decode cX2_swap 28 = .ok (.iload 5, 2) := by decide +kernel
theorem dX2_swap_30 : decode cX2_swap 30 = .ok (.ireturn, 1) := by decide +kernel
set_option maxRecDepth 20000 in
theorem ggX2_keyOf_X2_studentAt : GoodIn wsX2_keyOf wsX2_studentAt := goodIn_ca (goodIn_r _ [5, 6, 7, 8, 23, 24, 25, 26, 27] (by decide +kernel) (by decide +kernel)) (goodIn_sub (fun _ h => List.mem_cons_of_mem _ (List.mem_append_right _ h)) (by decide +kernel))
set_option maxRecDepth 20000 in
theorem gX2_keyOf_X2_studentAt : GoodIn wsX2_keyOf (wsV RX2 40 RX2 yX2_studentAt wsX2_studentAt) := goodIn_app (goodIn_of _ (by decide +kernel)) ggX2_keyOf_X2_studentAt
set_option maxRecDepth 20000 in
theorem ggX2_keyOf_X2_needLetter : GoodIn wsX2_keyOf wsX2_needLetter := goodIn_ca (goodIn_r _ [11, 6, 7] (by decide +kernel) (by decide +kernel)) (goodIn_sub (fun _ h => List.mem_cons_of_mem _ (List.mem_append_right _ h)) (by decide +kernel))
set_option maxRecDepth 20000 in
theorem gX2_keyOf_X2_needLetter : GoodIn wsX2_keyOf (va_wsS RX2 63 yX2_needLetter wsX2_needLetter) := goodIn_app (goodIn_of _ (by decide +kernel)) ggX2_keyOf_X2_needLetter
set_option maxRecDepth 20000 in
theorem ggX2_keyOf_X2_at : GoodIn wsX2_keyOf wsX2_at := goodIn_r _ [14] (by decide +kernel) (by decide +kernel)
set_option maxRecDepth 20000 in
theorem gX2_keyOf_X2_at : GoodIn wsX2_keyOf (va_wsS RX2 70 yX2_at wsX2_at) := goodIn_app (goodIn_of _ (by decide +kernel)) ggX2_keyOf_X2_at
theorem dX2_keyOf_0 : decode cX2_keyOf 0 = .ok (.aload_n 0, 1) := by decide +kernel
theorem dX2_keyOf_1 : decode cX2_keyOf 1 = .ok (.iload_n 1, 1) := by decide +kernel
theorem dX2_keyOf_2 : decode cX2_keyOf 2 = .ok (.invokevirtual 40, 3) := by decide +kernel
theorem dX2_keyOf_5 : decode cX2_keyOf 5 = .ok (.astore_n 3, 1) := by decide +kernel
theorem dX2_keyOf_6 : decode cX2_keyOf 6 = .ok (.iload_n 2, 1) := by decide +kernel
theorem dX2_keyOf_7 : decode cX2_keyOf 7 = .ok (.invokestatic 63, 3) := by decide +kernel
theorem dX2_keyOf_10 : decode cX2_keyOf 10 = .ok (.aload_n 3, 1) := by decide +kernel
theorem dX2_keyOf_11 : decode cX2_keyOf 11 = .ok (.getfield 67, 3) := by decide +kernel
theorem dX2_keyOf_14 : decode cX2_keyOf 14 = .ok (.iload_n 2, 1) := by decide +kernel
theorem dX2_keyOf_15 : decode cX2_keyOf 15 = .ok (.invokestatic 70, 3) := by decide +kernel
theorem dX2_keyOf_18 : decode cX2_keyOf 18 = .ok (.ireturn, 1) := by decide +kernel
set_option maxRecDepth 20000 in
theorem ggX2_letterOn_X2_studentAt : GoodIn wsX2_letterOn wsX2_studentAt := goodIn_ca (goodIn_r _ [5, 6, 7, 8, 23, 24, 25, 26, 27] (by decide +kernel) (by decide +kernel)) (goodIn_sub (fun _ h => List.mem_cons_of_mem _ (List.mem_append_right _ h)) (by decide +kernel))
set_option maxRecDepth 20000 in
theorem gX2_letterOn_X2_studentAt : GoodIn wsX2_letterOn (wsV RX2 40 RX2 yX2_studentAt wsX2_studentAt) := goodIn_app (goodIn_of _ (by decide +kernel)) ggX2_letterOn_X2_studentAt
set_option maxRecDepth 20000 in
theorem ggX2_letterOn_X2_needKey : GoodIn wsX2_letterOn wsX2_needKey := goodIn_ca (goodIn_r _ [11, 6, 7] (by decide +kernel) (by decide +kernel)) (goodIn_sub (fun _ h => List.mem_cons_of_mem _ (List.mem_append_right _ h)) (by decide +kernel))
set_option maxRecDepth 20000 in
theorem gX2_letterOn_X2_needKey : GoodIn wsX2_letterOn (va_wsS RX2 74 yX2_needKey wsX2_needKey) := goodIn_app (goodIn_of _ (by decide +kernel)) ggX2_letterOn_X2_needKey
set_option maxRecDepth 20000 in
theorem ggX2_letterOn_X2_at : GoodIn wsX2_letterOn wsX2_at := goodIn_r _ [14] (by decide +kernel) (by decide +kernel)
set_option maxRecDepth 20000 in
theorem gX2_letterOn_X2_at : GoodIn wsX2_letterOn (va_wsS RX2 70 yX2_at wsX2_at) := goodIn_app (goodIn_of _ (by decide +kernel)) ggX2_letterOn_X2_at
theorem dX2_letterOn_0 : decode cX2_letterOn 0 = .ok (.aload_n 0, 1) := by decide +kernel
theorem dX2_letterOn_1 : decode cX2_letterOn 1 = .ok (.iload_n 1, 1) := by decide +kernel
theorem dX2_letterOn_2 : decode cX2_letterOn 2 = .ok (.invokevirtual 40, 3) := by decide +kernel
theorem dX2_letterOn_5 : decode cX2_letterOn 5 = .ok (.astore_n 3, 1) := by decide +kernel
theorem dX2_letterOn_6 : decode cX2_letterOn 6 = .ok (.iload_n 2, 1) := by decide +kernel
theorem dX2_letterOn_7 : decode cX2_letterOn 7 = .ok (.invokestatic 74, 3) := by decide +kernel
theorem dX2_letterOn_10 : decode cX2_letterOn 10 = .ok (.aload_n 3, 1) := by decide +kernel
theorem dX2_letterOn_11 : decode cX2_letterOn 11 = .ok (.getfield 77, 3) := by decide +kernel
theorem dX2_letterOn_14 : decode cX2_letterOn 14 = .ok (.iload_n 2, 1) := by decide +kernel
theorem dX2_letterOn_15 : decode cX2_letterOn 15 = .ok (.invokestatic 70, 3) := by decide +kernel
theorem dX2_letterOn_18 : decode cX2_letterOn 18 = .ok (.ireturn, 1) := by decide +kernel
set_option maxRecDepth 20000 in
theorem ggX2_press_X2_studentAt : GoodIn wsX2_press wsX2_studentAt := goodIn_ca (goodIn_r _ [5, 6, 7, 8, 43, 44, 45, 46, 47] (by decide +kernel) (by decide +kernel)) (goodIn_sub (fun _ h => List.mem_cons_of_mem _ (List.mem_append_right _ h)) (by decide +kernel))
set_option maxRecDepth 20000 in
theorem gX2_press_X2_studentAt : GoodIn wsX2_press (wsV RX2 40 RX2 yX2_studentAt wsX2_studentAt) := goodIn_app (goodIn_of _ (by decide +kernel)) ggX2_press_X2_studentAt
set_option maxRecDepth 20000 in
theorem ggX2_press_X2_needLetter : GoodIn wsX2_press wsX2_needLetter := goodIn_ca (goodIn_r _ [11, 6, 7] (by decide +kernel) (by decide +kernel)) (goodIn_sub (fun _ h => List.mem_cons_of_mem _ (List.mem_append_right _ h)) (by decide +kernel))
set_option maxRecDepth 20000 in
theorem gX2_press_X2_needLetter : GoodIn wsX2_press (va_wsS RX2 63 yX2_needLetter wsX2_needLetter) := goodIn_app (goodIn_of _ (by decide +kernel)) ggX2_press_X2_needLetter
set_option maxRecDepth 20000 in
theorem ggX2_press_X2_needKey : GoodIn wsX2_press wsX2_needKey := goodIn_ca (goodIn_r _ [14, 6, 7] (by decide +kernel) (by decide +kernel)) (goodIn_sub (fun _ h => List.mem_cons_of_mem _ (List.mem_append_right _ h)) (by decide +kernel))
set_option maxRecDepth 20000 in
theorem gX2_press_X2_needKey : GoodIn wsX2_press (va_wsS RX2 74 yX2_needKey wsX2_needKey) := goodIn_app (goodIn_of _ (by decide +kernel)) ggX2_press_X2_needKey
set_option maxRecDepth 20000 in
theorem ggX2_press_X1_type : GoodIn wsX2_press wsX1_type := goodIn_r _ [18, 19, 20, 21, 22, 23, 24, 25, 4, 26, 27, 28, 29, 30, 31, 32, 33, 34, 35, 36, 37, 16, 38, 39, 40, 41, 42, 48, 49, 50, 51, 52, 53, 54, 55] (by decide +kernel) (by decide +kernel)
set_option maxRecDepth 20000 in
theorem gX2_press_X1_type_n80 : GoodIn wsX2_press (wsX1_type) := ggX2_press_X1_type
theorem dX2_press_0 : decode cX2_press 0 = .ok (.aload_n 0, 1) := by decide +kernel
theorem dX2_press_1 : decode cX2_press 1 = .ok (.iload_n 1, 1) := by decide +kernel
theorem dX2_press_2 : decode cX2_press 2 = .ok (.invokevirtual 40, 3) := by decide +kernel
theorem dX2_press_5 : decode cX2_press 5 = .ok (.astore 4, 2) := by decide +kernel
theorem dX2_press_7 : decode cX2_press 7 = .ok (.iload_n 2, 1) := by decide +kernel
theorem dX2_press_8 : decode cX2_press 8 = .ok (.invokestatic 63, 3) := by decide +kernel
theorem dX2_press_11 : decode cX2_press 11 = .ok (.iload_n 3, 1) := by decide +kernel
theorem dX2_press_12 : decode cX2_press 12 = .ok (.invokestatic 74, 3) := by decide +kernel
theorem dX2_press_15 : decode cX2_press 15 = .ok (.aload 4, 2) := by decide +kernel
theorem dX2_press_17 : decode cX2_press 17 = .ok (.iload_n 2, 1) := by decide +kernel
theorem dX2_press_18 : decode cX2_press 18 = .ok (.iload_n 3, 1) := by decide +kernel
theorem dX2_press_19 : decode cX2_press 19 = .ok (.invokevirtual 80, 3) := by decide +kernel
theorem dX2_press_22 : decode cX2_press 22 = .ok (.ireturn, 1) := by decide +kernel
set_option maxRecDepth 20000 in
theorem ggX2_slips_X2_studentAt : GoodIn wsX2_slips wsX2_studentAt := goodIn_ca (goodIn_r _ [7, 8, 9, 10, 29, 30, 31, 32, 33] (by decide +kernel) (by decide +kernel)) (goodIn_sub (fun _ h => List.mem_cons_of_mem _ (List.mem_append_right _ h)) (by decide +kernel))
set_option maxRecDepth 20000 in
theorem gX2_slips_X2_studentAt : GoodIn wsX2_slips (wsV RX2 40 RX2 yX2_studentAt wsX2_studentAt) := goodIn_app (goodIn_of _ (by decide +kernel)) ggX2_slips_X2_studentAt
set_option maxRecDepth 20000 in
theorem ggX2_slips_X2_groups : GoodIn wsX2_slips wsX2_groups := goodIn_r _ [13] (by decide +kernel) (by decide +kernel)
set_option maxRecDepth 20000 in
theorem gX2_slips_X2_groups : GoodIn wsX2_slips (va_wsS RX2 84 yX2_groups wsX2_groups) := goodIn_app (goodIn_of _ (by decide +kernel)) ggX2_slips_X2_groups
set_option maxRecDepth 20000 in
theorem ggX2_slips_X1_slipsOf : GoodIn wsX2_slips wsX1_slipsOf := goodIn_r _ [17, 18, 19, 6, 20, 21, 22, 23, 24, 25, 26, 27, 28, 34, 35, 36, 37, 38, 39, 40, 41] (by decide +kernel) (by decide +kernel)
set_option maxRecDepth 20000 in
theorem gX2_slips_X1_slipsOf_n90 : GoodIn wsX2_slips (wsX1_slipsOf) := ggX2_slips_X1_slipsOf
theorem dX2_slips_0 : decode cX2_slips 0 = .ok (.aload_n 0, 1) := by decide +kernel
theorem dX2_slips_1 : decode cX2_slips 1 = .ok (.iload_n 1, 1) := by decide +kernel
theorem dX2_slips_2 : decode cX2_slips 2 = .ok (.invokevirtual 40, 3) := by decide +kernel
theorem dX2_slips_5 : decode cX2_slips 5 = .ok (.astore 4, 2) := by decide +kernel
theorem dX2_slips_7 : decode cX2_slips 7 = .ok (.iload_n 3, 1) := by decide +kernel
theorem dX2_slips_8 : decode cX2_slips 8 = .ok (.ifCond .lt 11, 3) := by decide +kernel
theorem dX2_slips_11 : decode cX2_slips 11 = .ok (.iload_n 3, 1) := by decide +kernel
theorem dX2_slips_12 : decode cX2_slips 12 = .ok (.iload_n 2, 1) := by decide +kernel
theorem dX2_slips_13 : decode cX2_slips 13 = .ok (.invokestatic 84, 3) := by decide +kernel
theorem dX2_slips_16 : decode cX2_slips 16 = .ok (.if_icmp .lt 13, 3) := by decide +kernel
theorem dX2_slips_19 : decode cX2_slips 19 = .ok (.new 44, 3) := by decide +kernel
theorem dX2_slips_22 : decode cX2_slips 22 = .ok (.dup, 1) := by decide +kernel
theorem dX2_slips_23 : decode cX2_slips 23 = .ok (.ldc 88, 2) := by decide +kernel
theorem dX2_slips_25 : decode cX2_slips 25 = .ok (.invokespecial 48, 3) := by decide +kernel
theorem dX2_slips_28 : decode cX2_slips 28 = .ok (.athrow, 1) := by decide +kernel
theorem dX2_slips_29 : decode cX2_slips 29 = .ok (.aload 4, 2) := by decide +kernel
theorem dX2_slips_31 : decode cX2_slips 31 = .ok (.iload_n 2, 1) := by decide +kernel
theorem dX2_slips_32 : decode cX2_slips 32 = .ok (.iload_n 3, 1) := by decide +kernel
theorem dX2_slips_33 : decode cX2_slips 33 = .ok (.invokevirtual 90, 3) := by decide +kernel
theorem dX2_slips_36 : decode cX2_slips 36 = .ok (.ireturn, 1) := by decide +kernel
set_option maxRecDepth 20000 in
theorem ggX2_pair_X2_studentAt : GoodIn wsX2_pair wsX2_studentAt := goodIn_ca (goodIn_r _ [5, 6, 7, 8, 26, 27, 28, 29, 30] (by decide +kernel) (by decide +kernel)) (goodIn_sub (fun _ h => List.mem_cons_of_mem _ (List.mem_append_right _ h)) (by decide +kernel))
set_option maxRecDepth 20000 in
theorem gX2_pair_X2_studentAt : GoodIn wsX2_pair (wsV RX2 40 RX2 yX2_studentAt wsX2_studentAt) := goodIn_app (goodIn_of _ (by decide +kernel)) ggX2_pair_X2_studentAt
set_option maxRecDepth 20000 in
theorem ggX2_pair_X2_needLetter : GoodIn wsX2_pair wsX2_needLetter := goodIn_ca (goodIn_r _ [11, 6, 7] (by decide +kernel) (by decide +kernel)) (goodIn_sub (fun _ h => List.mem_cons_of_mem _ (List.mem_append_right _ h)) (by decide +kernel))
set_option maxRecDepth 20000 in
theorem gX2_pair_X2_needLetter : GoodIn wsX2_pair (va_wsS RX2 63 yX2_needLetter wsX2_needLetter) := goodIn_app (goodIn_of _ (by decide +kernel)) ggX2_pair_X2_needLetter
set_option maxRecDepth 20000 in
theorem ggX2_pair_X2_pairPlace : GoodIn wsX2_pair wsX2_pairPlace := goodIn_r _ [14] (by decide +kernel) (by decide +kernel)
set_option maxRecDepth 20000 in
theorem gX2_pair_X2_pairPlace : GoodIn wsX2_pair (va_wsS RX2 96 yX2_pairPlace wsX2_pairPlace) := goodIn_app (goodIn_of _ (by decide +kernel)) ggX2_pair_X2_pairPlace
set_option maxRecDepth 20000 in
theorem ggX2_pair_X2_at : GoodIn wsX2_pair wsX2_at := goodIn_r _ [17] (by decide +kernel) (by decide +kernel)
set_option maxRecDepth 20000 in
theorem gX2_pair_X2_at : GoodIn wsX2_pair (va_wsS RX2 70 yX2_at wsX2_at) := goodIn_app (goodIn_of _ (by decide +kernel)) ggX2_pair_X2_at
theorem dX2_pair_0 : decode cX2_pair 0 = .ok (.aload_n 0, 1) := by decide +kernel
theorem dX2_pair_1 : decode cX2_pair 1 = .ok (.iload_n 1, 1) := by decide +kernel
theorem dX2_pair_2 : decode cX2_pair 2 = .ok (.invokevirtual 40, 3) := by decide +kernel
theorem dX2_pair_5 : decode cX2_pair 5 = .ok (.astore 4, 2) := by decide +kernel
theorem dX2_pair_7 : decode cX2_pair 7 = .ok (.iload_n 2, 1) := by decide +kernel
theorem dX2_pair_8 : decode cX2_pair 8 = .ok (.invokestatic 63, 3) := by decide +kernel
theorem dX2_pair_11 : decode cX2_pair 11 = .ok (.iload_n 3, 1) := by decide +kernel
theorem dX2_pair_12 : decode cX2_pair 12 = .ok (.invokestatic 63, 3) := by decide +kernel
theorem dX2_pair_15 : decode cX2_pair 15 = .ok (.aload 4, 2) := by decide +kernel
theorem dX2_pair_17 : decode cX2_pair 17 = .ok (.getfield 93, 3) := by decide +kernel
theorem dX2_pair_20 : decode cX2_pair 20 = .ok (.iload_n 2, 1) := by decide +kernel
theorem dX2_pair_21 : decode cX2_pair 21 = .ok (.iload_n 3, 1) := by decide +kernel
theorem dX2_pair_22 : decode cX2_pair 22 = .ok (.invokestatic 96, 3) := by decide +kernel
theorem dX2_pair_25 : decode cX2_pair 25 = .ok (.invokestatic 70, 3) := by decide +kernel
theorem dX2_pair_28 : decode cX2_pair 28 = .ok (.ireturn, 1) := by decide +kernel
set_option maxRecDepth 20000 in
theorem ggX2_pressed_X2_studentAt : GoodIn wsX2_pressed wsX2_studentAt := goodIn_ca (goodIn_r _ [5, 6, 7, 8, 17, 18, 19, 20, 21] (by decide +kernel) (by decide +kernel)) (goodIn_sub (fun _ h => List.mem_cons_of_mem _ (List.mem_append_right _ h)) (by decide +kernel))
set_option maxRecDepth 20000 in
theorem gX2_pressed_X2_studentAt : GoodIn wsX2_pressed (wsV RX2 40 RX2 yX2_studentAt wsX2_studentAt) := goodIn_app (goodIn_of _ (by decide +kernel)) ggX2_pressed_X2_studentAt
theorem dX2_pressed_0 : decode cX2_pressed 0 = .ok (.aload_n 0, 1) := by decide +kernel
theorem dX2_pressed_1 : decode cX2_pressed 1 = .ok (.iload_n 1, 1) := by decide +kernel
theorem dX2_pressed_2 : decode cX2_pressed 2 = .ok (.invokevirtual 40, 3) := by decide +kernel
theorem dX2_pressed_5 : decode cX2_pressed 5 = .ok (.getfield 99, 3) := by decide +kernel
theorem dX2_pressed_8 : decode cX2_pressed 8 = .ok (.ireturn, 1) := by decide +kernel
set_option maxRecDepth 20000 in
theorem ggX2_history_X2_studentAt : GoodIn wsX2_history wsX2_studentAt := goodIn_ca (goodIn_r _ [7, 1, 2, 8, 20, 21, 22, 23, 24] (by decide +kernel) (by decide +kernel)) (goodIn_sub (fun _ h => List.mem_cons_of_mem _ (List.mem_append_right _ h)) (by decide +kernel))
set_option maxRecDepth 20000 in
theorem gX2_history_X2_studentAt : GoodIn wsX2_history (wsV RX2 40 RX2 yX2_studentAt wsX2_studentAt) := goodIn_app (goodIn_of _ (by decide +kernel)) ggX2_history_X2_studentAt
set_option maxRecDepth 20000 in
theorem ggX2_history_X2_at : GoodIn wsX2_history wsX2_at := goodIn_r _ [11] (by decide +kernel) (by decide +kernel)
set_option maxRecDepth 20000 in
theorem gX2_history_X2_at : GoodIn wsX2_history (va_wsS RX2 70 yX2_at wsX2_at) := goodIn_app (goodIn_of _ (by decide +kernel)) ggX2_history_X2_at
theorem dX2_history_0 : decode cX2_history 0 = .ok (.aload_n 0, 1) := by decide +kernel
theorem dX2_history_1 : decode cX2_history 1 = .ok (.iload_n 1, 1) := by decide +kernel
theorem dX2_history_2 : decode cX2_history 2 = .ok (.invokevirtual 40, 3) := by decide +kernel
theorem dX2_history_5 : decode cX2_history 5 = .ok (.astore_n 3, 1) := by decide +kernel
theorem dX2_history_6 : decode cX2_history 6 = .ok (.iload_n 2, 1) := by decide +kernel
theorem dX2_history_7 : decode cX2_history 7 = .ok (.ifCond .ge 13, 3) := by decide +kernel
theorem dX2_history_10 : decode cX2_history 10 = .ok (.new 102, 3) := by decide +kernel
theorem dX2_history_13 : decode cX2_history 13 = .ok (.dup, 1) := by decide +kernel
theorem dX2_history_14 : decode cX2_history 14 = .ok (.ldc 104, 2) := by decide +kernel
theorem dX2_history_16 : decode cX2_history 16 = .ok (.invokespecial 106, 3) := by decide +kernel
theorem dX2_history_19 : decode cX2_history 19 = .ok (.athrow, 1) := by decide +kernel
theorem dX2_history_20 : decode cX2_history 20 = .ok (.iload_n 2, 1) := by decide +kernel
theorem dX2_history_21 : decode cX2_history 21 = .ok (.aload_n 3, 1) := by decide +kernel
theorem dX2_history_22 : decode cX2_history 22 = .ok (.getfield 107, 3) := by decide +kernel
theorem dX2_history_25 : decode cX2_history 25 = .ok (.if_icmp .ge 14, 3) := by decide +kernel
theorem dX2_history_28 : decode cX2_history 28 = .ok (.aload_n 3, 1) := by decide +kernel
theorem dX2_history_29 : decode cX2_history 29 = .ok (.getfield 110, 3) := by decide +kernel
theorem dX2_history_32 : decode cX2_history 32 = .ok (.iload_n 2, 1) := by decide +kernel
theorem dX2_history_33 : decode cX2_history 33 = .ok (.invokestatic 70, 3) := by decide +kernel
theorem dX2_history_36 : decode cX2_history 36 = .ok (.goto 4, 3) := by decide +kernel
theorem dX2_history_39 : decode cX2_history 39 = .ok (.iconst (-1), 1) := by decide +kernel
theorem dX2_history_40 : decode cX2_history 40 = .ok (.ireturn, 1) := by decide +kernel
set_option maxRecDepth 20000 in
theorem ggX2_time_X2_studentAt : GoodIn wsX2_time wsX2_studentAt := goodIn_ca (goodIn_r _ [5, 6, 7, 8, 40, 41, 42, 43, 44] (by decide +kernel) (by decide +kernel)) (goodIn_sub (fun _ h => List.mem_cons_of_mem _ (List.mem_append_right _ h)) (by decide +kernel))
set_option maxRecDepth 20000 in
theorem gX2_time_X2_studentAt : GoodIn wsX2_time (wsV RX2 40 RX2 yX2_studentAt wsX2_studentAt) := goodIn_app (goodIn_of _ (by decide +kernel)) ggX2_time_X2_studentAt
set_option maxRecDepth 20000 in
theorem ggX2_time_X1_timeWith : GoodIn wsX2_time wsX1_timeWith := goodIn_r _ [12, 13, 14, 15, 16, 4, 17, 18, 19, 20, 21, 22, 23, 24, 25, 26, 27, 28, 29, 30, 31, 32, 33, 34, 35, 36, 37, 38, 39, 45, 46, 47, 48, 49, 50, 51, 52] (by decide +kernel) (by decide +kernel)
set_option maxRecDepth 20000 in
theorem gX2_time_X1_timeWith_n113 : GoodIn wsX2_time (wsX1_timeWith) := ggX2_time_X1_timeWith
theorem dX2_time_0 : decode cX2_time 0 = .ok (.aload_n 0, 1) := by decide +kernel
theorem dX2_time_1 : decode cX2_time 1 = .ok (.iload_n 1, 1) := by decide +kernel
theorem dX2_time_2 : decode cX2_time 2 = .ok (.invokevirtual 40, 3) := by decide +kernel
theorem dX2_time_5 : decode cX2_time 5 = .ok (.iconst (-1), 1) := by decide +kernel
theorem dX2_time_6 : decode cX2_time 6 = .ok (.iconst (-1), 1) := by decide +kernel
theorem dX2_time_7 : decode cX2_time 7 = .ok (.invokevirtual 113, 3) := by decide +kernel
theorem dX2_time_10 : decode cX2_time 10 = .ok (.ireturn, 1) := by decide +kernel
set_option maxRecDepth 20000 in
theorem ggX2_timeAnew_X2_studentAt : GoodIn wsX2_timeAnew wsX2_studentAt := goodIn_ca (goodIn_r _ [6, 7, 8, 9, 46, 47, 48, 49, 50] (by decide +kernel) (by decide +kernel)) (goodIn_sub (fun _ h => List.mem_cons_of_mem _ (List.mem_append_right _ h)) (by decide +kernel))
set_option maxRecDepth 20000 in
theorem gX2_timeAnew_X2_studentAt : GoodIn wsX2_timeAnew (wsV RX2 40 RX2 yX2_studentAt wsX2_studentAt) := goodIn_app (goodIn_of _ (by decide +kernel)) ggX2_timeAnew_X2_studentAt
set_option maxRecDepth 20000 in
theorem ggX2_timeAnew_X1_timeByCounts : GoodIn wsX2_timeAnew wsX1_timeByCounts := goodIn_r _ [13, 14, 15, 16, 17, 18, 19, 20, 21, 5, 22, 23, 24, 25, 26, 27, 28, 29, 30, 31, 32, 33, 34, 35, 36, 37, 38, 39, 40, 41, 42, 43, 44, 45, 51, 52, 53, 54, 55, 56, 57, 58] (by decide +kernel) (by decide +kernel)
set_option maxRecDepth 20000 in
theorem gX2_timeAnew_X1_timeByCounts_n116 : GoodIn wsX2_timeAnew (wsX1_timeByCounts) := ggX2_timeAnew_X1_timeByCounts
theorem dX2_timeAnew_0 : decode cX2_timeAnew 0 = .ok (.aload_n 0, 1) := by decide +kernel
theorem dX2_timeAnew_1 : decode cX2_timeAnew 1 = .ok (.iload_n 1, 1) := by decide +kernel
theorem dX2_timeAnew_2 : decode cX2_timeAnew 2 = .ok (.invokevirtual 40, 3) := by decide +kernel
theorem dX2_timeAnew_5 : decode cX2_timeAnew 5 = .ok (.aload_n 0, 1) := by decide +kernel
theorem dX2_timeAnew_6 : decode cX2_timeAnew 6 = .ok (.getfield 29, 3) := by decide +kernel
theorem dX2_timeAnew_9 : decode cX2_timeAnew 9 = .ok (.invokevirtual 116, 3) := by decide +kernel
theorem dX2_timeAnew_12 : decode cX2_timeAnew 12 = .ok (.ireturn, 1) := by decide +kernel
set_option maxRecDepth 20000 in
theorem ggX2_lesson_X2_studentAt : GoodIn wsX2_lesson wsX2_studentAt := goodIn_ca (goodIn_r _ [7, 1, 2, 8, 25, 26, 27, 28, 29] (by decide +kernel) (by decide +kernel)) (goodIn_sub (fun _ h => List.mem_cons_of_mem _ (List.mem_append_right _ h)) (by decide +kernel))
set_option maxRecDepth 20000 in
theorem gX2_lesson_X2_studentAt : GoodIn wsX2_lesson (wsV RX2 40 RX2 yX2_studentAt wsX2_studentAt) := goodIn_app (goodIn_of _ (by decide +kernel)) ggX2_lesson_X2_studentAt
set_option maxRecDepth 20000 in
theorem ggX2_lesson_X1_slippingLetter : GoodIn wsX2_lesson wsX1_slippingLetter := goodIn_r _ [12, 13, 14, 15, 10, 16, 17, 18, 19, 20, 21, 22, 23, 6, 24, 30, 31, 32, 33, 34, 35, 36, 37] (by decide +kernel) (by decide +kernel)
set_option maxRecDepth 20000 in
theorem gX2_lesson_X1_slippingLetter_n122 : GoodIn wsX2_lesson (wsX1_slippingLetter) := ggX2_lesson_X1_slippingLetter
theorem dX2_lesson_0 : decode cX2_lesson 0 = .ok (.aload_n 0, 1) := by decide +kernel
theorem dX2_lesson_1 : decode cX2_lesson 1 = .ok (.iload_n 1, 1) := by decide +kernel
theorem dX2_lesson_2 : decode cX2_lesson 2 = .ok (.invokevirtual 40, 3) := by decide +kernel
theorem dX2_lesson_5 : decode cX2_lesson 5 = .ok (.astore_n 3, 1) := by decide +kernel
theorem dX2_lesson_6 : decode cX2_lesson 6 = .ok (.iload_n 2, 1) := by decide +kernel
theorem dX2_lesson_7 : decode cX2_lesson 7 = .ok (.ifCond .lt 9, 3) := by decide +kernel
theorem dX2_lesson_10 : decode cX2_lesson 10 = .ok (.iload_n 2, 1) := by decide +kernel
theorem dX2_lesson_11 : decode cX2_lesson 11 = .ok (.bipush 100, 2) := by decide +kernel
theorem dX2_lesson_13 : decode cX2_lesson 13 = .ok (.if_icmp .lt 13, 3) := by decide +kernel
theorem dX2_lesson_16 : decode cX2_lesson 16 = .ok (.new 102, 3) := by decide +kernel
theorem dX2_lesson_19 : decode cX2_lesson 19 = .ok (.dup, 1) := by decide +kernel
theorem dX2_lesson_20 : decode cX2_lesson 20 = .ok (.ldc 120, 2) := by decide +kernel
theorem dX2_lesson_22 : decode cX2_lesson 22 = .ok (.invokespecial 106, 3) := by decide +kernel
theorem dX2_lesson_25 : decode cX2_lesson 25 = .ok (.athrow, 1) := by decide +kernel
theorem dX2_lesson_26 : decode cX2_lesson 26 = .ok (.aload_n 3, 1) := by decide +kernel
theorem dX2_lesson_27 : decode cX2_lesson 27 = .ok (.iload_n 2, 1) := by decide +kernel
theorem dX2_lesson_28 : decode cX2_lesson 28 = .ok (.iconst 3, 1) := by decide +kernel
theorem dX2_lesson_29 : decode cX2_lesson 29 = .ok (.irem, 1) := by decide +kernel
theorem dX2_lesson_30 : decode cX2_lesson 30 = .ok (.invokevirtual 122, 3) := by decide +kernel
theorem dX2_lesson_33 : decode cX2_lesson 33 = .ok (.ireturn, 1) := by decide +kernel
set_option maxRecDepth 20000 in
theorem ggX2_saves_X2_studentAt : GoodIn wsX2_saves wsX2_studentAt := goodIn_ca (goodIn_r _ [5, 6, 7, 8, 52, 53, 54, 55, 56] (by decide +kernel) (by decide +kernel)) (goodIn_sub (fun _ h => List.mem_cons_of_mem _ (List.mem_append_left _ (List.mem_append_right _ h))) (by decide +kernel))
set_option maxRecDepth 20000 in
theorem gX2_saves_X2_studentAt : GoodIn wsX2_saves (wsV RX2 40 RX2 yX2_studentAt wsX2_studentAt) := goodIn_app (goodIn_of _ (by decide +kernel)) ggX2_saves_X2_studentAt
set_option maxRecDepth 20000 in
theorem ggX2_saves_X2_needTwoKeys : GoodIn wsX2_saves wsX2_needTwoKeys := goodIn_ca (goodIn_ca (goodIn_r _ [11, 12, 13, 14, 15, 4, 16, 6, 7] (by decide +kernel) (by decide +kernel)) (goodIn_sub (fun _ h => List.mem_cons_of_mem _ (List.mem_append_right _ h)) (by decide +kernel))) (goodIn_sub (fun _ h => List.mem_cons_of_mem _ (List.mem_append_left _ (List.mem_append_right _ h))) (by decide +kernel))
set_option maxRecDepth 20000 in
theorem gX2_saves_X2_needTwoKeys : GoodIn wsX2_saves (va_wsS RX2 52 yX2_needTwoKeys wsX2_needTwoKeys) := goodIn_app (goodIn_of _ (by decide +kernel)) ggX2_saves_X2_needTwoKeys
set_option maxRecDepth 20000 in
theorem ggX2_saves_X1_savedBy : GoodIn wsX2_saves wsX1_savedBy := goodIn_r _ [20, 21, 22, 23, 18, 24, 25, 26, 27, 28, 4, 29, 30, 31, 32, 33, 34, 35, 36, 37, 38, 39, 40, 41, 42, 43, 44, 45, 46, 47, 48, 49, 50, 51, 57, 58, 59, 60, 61, 62, 63, 64] (by decide +kernel) (by decide +kernel)
set_option maxRecDepth 20000 in
theorem gX2_saves_X1_savedBy_n56 : GoodIn wsX2_saves (wsX1_savedBy) := ggX2_saves_X1_savedBy
theorem dX2_saves_0 : decode cX2_saves 0 = .ok (.aload_n 0, 1) := by decide +kernel
theorem dX2_saves_1 : decode cX2_saves 1 = .ok (.iload_n 1, 1) := by decide +kernel
theorem dX2_saves_2 : decode cX2_saves 2 = .ok (.invokevirtual 40, 3) := by decide +kernel
theorem dX2_saves_5 : decode cX2_saves 5 = .ok (.astore 4, 2) := by decide +kernel
theorem dX2_saves_7 : decode cX2_saves 7 = .ok (.iload_n 2, 1) := by decide +kernel
theorem dX2_saves_8 : decode cX2_saves 8 = .ok (.iload_n 3, 1) := by decide +kernel
theorem dX2_saves_9 : decode cX2_saves 9 = .ok (.invokestatic 52, 3) := by decide +kernel
theorem dX2_saves_12 : decode cX2_saves 12 = .ok (.aload 4, 2) := by decide +kernel
theorem dX2_saves_14 : decode cX2_saves 14 = .ok (.iload_n 2, 1) := by decide +kernel
theorem dX2_saves_15 : decode cX2_saves 15 = .ok (.iload_n 3, 1) := by decide +kernel
theorem dX2_saves_16 : decode cX2_saves 16 = .ok (.invokevirtual 56, 3) := by decide +kernel
theorem dX2_saves_19 : decode cX2_saves 19 = .ok (.ireturn, 1) := by decide +kernel
set_option maxRecDepth 20000 in
theorem ggX2_best_X2_studentAt : GoodIn wsX2_best wsX2_studentAt := goodIn_ca (goodIn_r _ [5, 6, 7, 8, 44, 45, 46, 47, 48] (by decide +kernel) (by decide +kernel)) (goodIn_sub (fun _ h => List.mem_cons_of_mem _ (List.mem_append_right _ h)) (by decide +kernel))
set_option maxRecDepth 20000 in
theorem gX2_best_X2_studentAt : GoodIn wsX2_best (wsV RX2 40 RX2 yX2_studentAt wsX2_studentAt) := goodIn_app (goodIn_of _ (by decide +kernel)) ggX2_best_X2_studentAt
set_option maxRecDepth 20000 in
theorem ggX2_best_X1_bestExchange : GoodIn wsX2_best wsX1_bestExchange := goodIn_r _ [12, 13, 14, 15, 10, 16, 17, 18, 19, 20, 4, 21, 22, 23, 24, 25, 26, 27, 28, 29, 30, 31, 32, 33, 34, 35, 36, 37, 38, 39, 40, 41, 42, 43, 49, 50, 51, 52, 53, 54, 55, 56] (by decide +kernel) (by decide +kernel)
set_option maxRecDepth 20000 in
theorem gX2_best_X1_bestExchange_n125 : GoodIn wsX2_best (wsX1_bestExchange) := ggX2_best_X1_bestExchange
theorem dX2_best_0 : decode cX2_best 0 = .ok (.aload_n 0, 1) := by decide +kernel
theorem dX2_best_1 : decode cX2_best 1 = .ok (.iload_n 1, 1) := by decide +kernel
theorem dX2_best_2 : decode cX2_best 2 = .ok (.invokevirtual 40, 3) := by decide +kernel
theorem dX2_best_5 : decode cX2_best 5 = .ok (.invokevirtual 125, 3) := by decide +kernel
theorem dX2_best_8 : decode cX2_best 8 = .ok (.ireturn, 1) := by decide +kernel
set_option maxRecDepth 20000 in
theorem ggX2_draft_X2_needLetter : GoodIn wsX2_draft wsX2_needLetter := goodIn_ca (goodIn_r _ [8, 9, 10] (by decide +kernel) (by decide +kernel)) (goodIn_sub (fun _ h => List.mem_cons_of_mem _ (List.mem_append_right _ h)) (by decide +kernel))
set_option maxRecDepth 20000 in
theorem gX2_draft_X2_needLetter : GoodIn wsX2_draft (va_wsS RX2 63 yX2_needLetter wsX2_needLetter) := goodIn_app (goodIn_of _ (by decide +kernel)) ggX2_draft_X2_needLetter
set_option maxRecDepth 20000 in
theorem ggX2_draft_X2_put : GoodIn wsX2_draft wsX2_put := goodIn_r _ [13] (by decide +kernel) (by decide +kernel)
set_option maxRecDepth 20000 in
theorem gX2_draft_X2_put : GoodIn wsX2_draft (va_wsS RX2 131 yX2_put wsX2_put) := goodIn_app (goodIn_of _ (by decide +kernel)) ggX2_draft_X2_put
theorem dX2_draft_0 : decode cX2_draft 0 = .ok (.iload_n 1, 1) := by decide +kernel
theorem dX2_draft_1 : decode cX2_draft 1 = .ok (.invokestatic 63, 3) := by decide +kernel
theorem dX2_draft_4 : decode cX2_draft 4 = .ok (.aload_n 0, 1) := by decide +kernel
theorem dX2_draft_5 : decode cX2_draft 5 = .ok (.getfield 25, 3) := by decide +kernel
theorem dX2_draft_8 : decode cX2_draft 8 = .ok (.bipush 24, 2) := by decide +kernel
theorem dX2_draft_10 : decode cX2_draft 10 = .ok (.if_icmp .lt 13, 3) := by decide +kernel
theorem dX2_draft_13 : decode cX2_draft 13 = .ok (.new 33, 3) := by decide +kernel
theorem dX2_draft_16 : decode cX2_draft 16 = .ok (.dup, 1) := by decide +kernel
theorem dX2_draft_17 : decode cX2_draft 17 = .ok (.ldc 129, 2) := by decide +kernel
theorem dX2_draft_19 : decode cX2_draft 19 = .ok (.invokespecial 37, 3) := by decide +kernel
theorem dX2_draft_22 : decode cX2_draft 22 = .ok (.athrow, 1) := by decide +kernel
theorem dX2_draft_23 : decode cX2_draft 23 = .ok (.aload_n 0, 1) := by decide +kernel
theorem dX2_draft_24 : decode cX2_draft 24 = .ok (.getfield 21, 3) := by decide +kernel
end
section
theorem dX2_draft_27 : decode cX2_draft 27 = .ok (.aload_n 0, 1) := by decide +kernel
theorem dX2_draft_28 : decode cX2_draft 28 = .ok (.getfield 25, 3) := by decide +kernel
theorem dX2_draft_31 : decode cX2_draft 31 = .ok (.iload_n 1, 1) := by decide +kernel
theorem dX2_draft_32 : decode cX2_draft 32 = .ok (.invokestatic 131, 3) := by decide +kernel
theorem dX2_draft_35 : decode cX2_draft 35 = .ok (.aload_n 0, 1) := by decide +kernel
theorem dX2_draft_36 : decode cX2_draft 36 = .ok (.dup, 1) := by decide +kernel
theorem dX2_draft_37 : decode cX2_draft 37 = .ok (.getfield 25, 3) := by decide +kernel
theorem dX2_draft_40 : decode cX2_draft 40 = .ok (.iconst 1, 1) := by decide +kernel
theorem dX2_draft_41 : decode cX2_draft 41 = .ok (.iadd, 1) := by decide +kernel
theorem dX2_draft_42 : decode cX2_draft 42 = .ok (.putfield 25, 3) := by decide +kernel
theorem dX2_draft_45 : decode cX2_draft 45 = .ok (.aload_n 0, 1) := by decide +kernel
theorem dX2_draft_46 : decode cX2_draft 46 = .ok (.getfield 25, 3) := by decide +kernel
theorem dX2_draft_49 : decode cX2_draft 49 = .ok (.ireturn, 1) := by decide +kernel
theorem dX2_clear_0 : decode cX2_clear 0 = .ok (.aload_n 0, 1) := by decide +kernel
theorem dX2_clear_1 : decode cX2_clear 1 = .ok (.getfield 25, 3) := by decide +kernel
theorem dX2_clear_4 : decode cX2_clear 4 = .ok (.istore_n 1, 1) := by decide +kernel
theorem dX2_clear_5 : decode cX2_clear 5 = .ok (.aload_n 0, 1) := by decide +kernel
theorem dX2_clear_6 : decode cX2_clear 6 = .ok (.iconst 0, 1) := by decide +kernel
theorem dX2_clear_7 : decode cX2_clear 7 = .ok (.putfield 25, 3) := by decide +kernel
theorem dX2_clear_10 : decode cX2_clear 10 = .ok (.iload_n 1, 1) := by decide +kernel
theorem dX2_clear_11 : decode cX2_clear 11 = .ok (.ireturn, 1) := by decide +kernel
set_option maxRecDepth 20000 in
theorem ggX2_contest_X2_contestOfDraft : GoodIn wsX2_contest wsX2_contestOfDraft := goodIn_r _ [10, 11, 12, 13, 4, 14, 3, 15, 16, 17, 18, 19, 20, 21, 22, 23, 24, 25, 9, 26, 27, 28, 29, 30, 31, 32, 33, 34, 35, 36, 37, 38, 39, 40, 41, 42, 43, 44, 45, 46, 47, 48, 49, 50, 51, 57, 58, 59, 52, 53, 54, 55, 56, 60, 61, 62, 63, 64, 65, 66, 67] (by decide +kernel) (by decide +kernel)
set_option maxRecDepth 20000 in
theorem gX2_contest_X2_contestOfDraft : GoodIn wsX2_contest (wsV RX2 139 RX2 yX2_contestOfDraft wsX2_contestOfDraft) := goodIn_app (goodIn_of _ (by decide +kernel)) ggX2_contest_X2_contestOfDraft
theorem dX2_contest_0 : decode cX2_contest 0 = .ok (.aload_n 0, 1) := by decide +kernel
theorem dX2_contest_1 : decode cX2_contest 1 = .ok (.getfield 25, 3) := by decide +kernel
theorem dX2_contest_4 : decode cX2_contest 4 = .ok (.ifCond .ne 13, 3) := by decide +kernel
theorem dX2_contest_7 : decode cX2_contest 7 = .ok (.new 33, 3) := by decide +kernel
theorem dX2_contest_10 : decode cX2_contest 10 = .ok (.dup, 1) := by decide +kernel
theorem dX2_contest_11 : decode cX2_contest 11 = .ok (.ldc 135, 2) := by decide +kernel
theorem dX2_contest_13 : decode cX2_contest 13 = .ok (.invokespecial 37, 3) := by decide +kernel
theorem dX2_contest_16 : decode cX2_contest 16 = .ok (.athrow, 1) := by decide +kernel
theorem dX2_contest_17 : decode cX2_contest 17 = .ok (.aload_n 0, 1) := by decide +kernel
theorem dX2_contest_18 : decode cX2_contest 18 = .ok (.getfield 11, 3) := by decide +kernel
theorem dX2_contest_21 : decode cX2_contest 21 = .ok (.iconst 0, 1) := by decide +kernel
theorem dX2_contest_22 : decode cX2_contest 22 = .ok (.aaload, 1) := by decide +kernel
theorem dX2_contest_23 : decode cX2_contest 23 = .ok (.ifnonnull 13, 3) := by decide +kernel
theorem dX2_contest_26 : decode cX2_contest 26 = .ok (.new 33, 3) := by decide +kernel
theorem dX2_contest_29 : decode cX2_contest 29 = .ok (.dup, 1) := by decide +kernel
theorem dX2_contest_30 : decode cX2_contest 30 = .ok (.ldc 137, 2) := by decide +kernel
theorem dX2_contest_32 : decode cX2_contest 32 = .ok (.invokespecial 37, 3) := by decide +kernel
theorem dX2_contest_35 : decode cX2_contest 35 = .ok (.athrow, 1) := by decide +kernel
theorem dX2_contest_36 : decode cX2_contest 36 = .ok (.iconst 0, 1) := by decide +kernel
theorem dX2_contest_37 : decode cX2_contest 37 = .ok (.istore_n 1, 1) := by decide +kernel
theorem dX2_contest_38 : decode cX2_contest 38 = .ok (.iload_n 1, 1) := by decide +kernel
theorem dX2_contest_39 : decode cX2_contest 39 = .ok (.aload_n 0, 1) := by decide +kernel
theorem dX2_contest_40 : decode cX2_contest 40 = .ok (.getfield 17, 3) := by decide +kernel
theorem dX2_contest_43 : decode cX2_contest 43 = .ok (.arraylength, 1) := by decide +kernel
theorem dX2_contest_44 : decode cX2_contest 44 = .ok (.if_icmp .ge 35, 3) := by decide +kernel
theorem dX2_contest_47 : decode cX2_contest 47 = .ok (.aload_n 0, 1) := by decide +kernel
theorem dX2_contest_48 : decode cX2_contest 48 = .ok (.getfield 17, 3) := by decide +kernel
theorem dX2_contest_51 : decode cX2_contest 51 = .ok (.iload_n 1, 1) := by decide +kernel
theorem dX2_contest_52 : decode cX2_contest 52 = .ok (.aaload, 1) := by decide +kernel
theorem dX2_contest_53 : decode cX2_contest 53 = .ok (.ifnonnull 20, 3) := by decide +kernel
theorem dX2_contest_56 : decode cX2_contest 56 = .ok (.aload_n 0, 1) := by decide +kernel
theorem dX2_contest_57 : decode cX2_contest 57 = .ok (.getfield 17, 3) := by decide +kernel
theorem dX2_contest_60 : decode cX2_contest 60 = .ok (.iload_n 1, 1) := by decide +kernel
theorem dX2_contest_61 : decode cX2_contest 61 = .ok (.aload_n 0, 1) := by decide +kernel
theorem dX2_contest_62 : decode cX2_contest 62 = .ok (.invokevirtual 139, 3) := by decide +kernel
theorem dX2_contest_65 : decode cX2_contest 65 = .ok (.aastore, 1) := by decide +kernel
theorem dX2_contest_66 : decode cX2_contest 66 = .ok (.aload_n 0, 1) := by decide +kernel
theorem dX2_contest_67 : decode cX2_contest 67 = .ok (.iconst 0, 1) := by decide +kernel
theorem dX2_contest_68 : decode cX2_contest 68 = .ok (.putfield 25, 3) := by decide +kernel
theorem dX2_contest_71 : decode cX2_contest 71 = .ok (.iload_n 1, 1) := by decide +kernel
theorem dX2_contest_72 : decode cX2_contest 72 = .ok (.ireturn, 1) := by decide +kernel
theorem dX2_contest_73 : decode cX2_contest 73 = .ok (.iinc 1 1, 3) := by decide +kernel
theorem dX2_contest_76 : decode cX2_contest 76 = .ok (.goto (-38), 3) := by decide +kernel
theorem dX2_contest_79 : decode cX2_contest 79 = .ok (.new 33, 3) := by decide +kernel
theorem dX2_contest_82 : decode cX2_contest 82 = .ok (.dup, 1) := by decide +kernel
theorem dX2_contest_83 : decode cX2_contest 83 = .ok (.ldc 143, 2) := by decide +kernel
theorem dX2_contest_85 : decode cX2_contest 85 = .ok (.invokespecial 37, 3) := by decide +kernel
theorem dX2_contest_88 : decode cX2_contest 88 = .ok (.athrow, 1) := by decide +kernel
set_option maxRecDepth 20000 in
theorem ggX2_result_X2_contestAt : GoodIn wsX2_result wsX2_contestAt := goodIn_ca (goodIn_r _ [10, 11, 12, 13, 31, 32, 33, 34, 35] (by decide +kernel) (by decide +kernel)) (goodIn_sub (fun _ h => List.mem_cons_of_mem _ (List.mem_append_right _ h)) (by decide +kernel))
set_option maxRecDepth 20000 in
theorem gX2_result_X2_contestAt : GoodIn wsX2_result (wsV RX2 145 RX2 yX2_contestAt wsX2_contestAt) := goodIn_app (goodIn_of _ (by decide +kernel)) ggX2_result_X2_contestAt
set_option maxRecDepth 20000 in
theorem ggX2_result_X2_entrantTime : GoodIn wsX2_result wsX2_entrantTime := goodIn_ca (goodIn_r _ [16, 11, 12, 17, 18, 9, 19, 28, 29, 30] (by decide +kernel) (by decide +kernel)) (goodIn_sub (fun _ h => List.mem_cons_of_mem _ (List.mem_append_right _ h)) (by decide +kernel))
set_option maxRecDepth 20000 in
theorem gX2_result_X2_entrantTime : GoodIn wsX2_result (va_wsS RX2 149 yX2_entrantTime wsX2_entrantTime) := goodIn_app (goodIn_of _ (by decide +kernel)) ggX2_result_X2_entrantTime
set_option maxRecDepth 20000 in
theorem ggX2_result_X0_hasResult : GoodIn wsX2_result wsX0_hasResult := goodIn_r _ [23, 24, 18, 9, 19, 28, 29, 30] (by decide +kernel) (by decide +kernel)
set_option maxRecDepth 20000 in
theorem gX2_result_X0_hasResult_n156 : GoodIn wsX2_result (wsX0_hasResult) := ggX2_result_X0_hasResult
set_option maxRecDepth 20000 in
theorem ggX2_result_X2_put : GoodIn wsX2_result wsX2_put := goodIn_r _ [27] (by decide +kernel) (by decide +kernel)
set_option maxRecDepth 20000 in
theorem gX2_result_X2_put : GoodIn wsX2_result (va_wsS RX2 131 yX2_put wsX2_put) := goodIn_app (goodIn_of _ (by decide +kernel)) ggX2_result_X2_put
theorem dX2_result_0 : decode cX2_result 0 = .ok (.aload_n 0, 1) := by decide +kernel
theorem dX2_result_1 : decode cX2_result 1 = .ok (.iload_n 1, 1) := by decide +kernel
theorem dX2_result_2 : decode cX2_result 2 = .ok (.invokevirtual 145, 3) := by decide +kernel
theorem dX2_result_5 : decode cX2_result 5 = .ok (.astore 4, 2) := by decide +kernel
theorem dX2_result_7 : decode cX2_result 7 = .ok (.aload 4, 2) := by decide +kernel
theorem dX2_result_9 : decode cX2_result 9 = .ok (.iload_n 2, 1) := by decide +kernel
theorem dX2_result_10 : decode cX2_result 10 = .ok (.invokestatic 149, 3) := by decide +kernel
theorem dX2_result_13 : decode cX2_result 13 = .ok (.istore 5, 2) := by decide +kernel
theorem dX2_result_15 : decode cX2_result 15 = .ok (.iload_n 3, 1) := by decide +kernel
theorem dX2_result_16 : decode cX2_result 16 = .ok (.iconst 1, 1) := by decide +kernel
theorem dX2_result_17 : decode cX2_result 17 = .ok (.if_icmp .lt 9, 3) := by decide +kernel
theorem dX2_result_20 : decode cX2_result 20 = .ok (.iload_n 3, 1) := by decide +kernel
theorem dX2_result_21 : decode cX2_result 21 = .ok (.ldc 153, 2) := by decide +kernel
theorem dX2_result_23 : decode cX2_result 23 = .ok (.if_icmp .le 13, 3) := by decide +kernel
theorem dX2_result_26 : decode cX2_result 26 = .ok (.new 44, 3) := by decide +kernel
theorem dX2_result_29 : decode cX2_result 29 = .ok (.dup, 1) := by decide +kernel
theorem dX2_result_30 : decode cX2_result 30 = .ok (.ldc 154, 2) := by decide +kernel
theorem dX2_result_32 : decode cX2_result 32 = .ok (.invokespecial 48, 3) := by decide +kernel
theorem dX2_result_35 : decode cX2_result 35 = .ok (.athrow, 1) := by decide +kernel
theorem dX2_result_36 : decode cX2_result 36 = .ok (.aload 4, 2) := by decide +kernel
theorem dX2_result_38 : decode cX2_result 38 = .ok (.iload_n 2, 1) := by decide +kernel
theorem dX2_result_39 : decode cX2_result 39 = .ok (.invokevirtual 156, 3) := by decide +kernel
theorem dX2_result_42 : decode cX2_result 42 = .ok (.ifCond .eq 13, 3) := by decide +kernel
theorem dX2_result_45 : decode cX2_result 45 = .ok (.new 33, 3) := by decide +kernel
theorem dX2_result_48 : decode cX2_result 48 = .ok (.dup, 1) := by decide +kernel
theorem dX2_result_49 : decode cX2_result 49 = .ok (.ldc 160, 2) := by decide +kernel
theorem dX2_result_51 : decode cX2_result 51 = .ok (.invokespecial 37, 3) := by decide +kernel
theorem dX2_result_54 : decode cX2_result 54 = .ok (.athrow, 1) := by decide +kernel
theorem dX2_result_55 : decode cX2_result 55 = .ok (.iload 5, 2) := by decide +kernel
theorem dX2_result_57 : decode cX2_result 57 = .ok (.ifCond .ne 7, 3) := by decide +kernel
theorem dX2_result_60 : decode cX2_result 60 = .ok (.iconst 0, 1) := by decide +kernel
theorem dX2_result_61 : decode cX2_result 61 = .ok (.goto 11, 3) := by decide +kernel
theorem dX2_result_64 : decode cX2_result 64 = .ok (.sipush 1000, 3) := by decide +kernel
theorem dX2_result_67 : decode cX2_result 67 = .ok (.iload_n 3, 1) := by decide +kernel
theorem dX2_result_68 : decode cX2_result 68 = .ok (.imul, 1) := by decide +kernel
theorem dX2_result_69 : decode cX2_result 69 = .ok (.iload 5, 2) := by decide +kernel
theorem dX2_result_71 : decode cX2_result 71 = .ok (.idiv, 1) := by decide +kernel
theorem dX2_result_72 : decode cX2_result 72 = .ok (.istore 6, 2) := by decide +kernel
theorem dX2_result_74 : decode cX2_result 74 = .ok (.aload 4, 2) := by decide +kernel
theorem dX2_result_76 : decode cX2_result 76 = .ok (.getfield 162, 3) := by decide +kernel
theorem dX2_result_79 : decode cX2_result 79 = .ok (.iload_n 2, 1) := by decide +kernel
theorem dX2_result_80 : decode cX2_result 80 = .ok (.iload_n 3, 1) := by decide +kernel
theorem dX2_result_81 : decode cX2_result 81 = .ok (.invokestatic 131, 3) := by decide +kernel
theorem dX2_result_84 : decode cX2_result 84 = .ok (.aload 4, 2) := by decide +kernel
theorem dX2_result_86 : decode cX2_result 86 = .ok (.getfield 165, 3) := by decide +kernel
theorem dX2_result_89 : decode cX2_result 89 = .ok (.iload_n 2, 1) := by decide +kernel
theorem dX2_result_90 : decode cX2_result 90 = .ok (.iload 6, 2) := by decide +kernel
theorem dX2_result_92 : decode cX2_result 92 = .ok (.invokestatic 131, 3) := by decide +kernel
theorem dX2_result_95 : decode cX2_result 95 = .ok (.iload 6, 2) := by decide +kernel
theorem dX2_result_97 : decode cX2_result 97 = .ok (.ireturn, 1) := by decide +kernel
set_option maxRecDepth 20000 in
theorem ggX2_of_X2_contestAt : GoodIn wsX2_of wsX2_contestAt := goodIn_ca (goodIn_r _ [7, 8, 9, 10, 31, 32, 33, 34, 35] (by decide +kernel) (by decide +kernel)) (goodIn_sub (fun _ h => List.mem_cons_of_mem _ (List.mem_append_right _ h)) (by decide +kernel))
set_option maxRecDepth 20000 in
theorem gX2_of_X2_contestAt : GoodIn wsX2_of (wsV RX2 145 RX2 yX2_contestAt wsX2_contestAt) := goodIn_app (goodIn_of _ (by decide +kernel)) ggX2_of_X2_contestAt
set_option maxRecDepth 20000 in
theorem ggX2_of_X2_entrantTime : GoodIn wsX2_of wsX2_entrantTime := goodIn_ca (goodIn_r _ [13, 8, 9, 14, 15, 6, 16, 36, 37, 38] (by decide +kernel) (by decide +kernel)) (goodIn_sub (fun _ h => List.mem_cons_of_mem _ (List.mem_append_right _ h)) (by decide +kernel))
set_option maxRecDepth 20000 in
theorem gX2_of_X2_entrantTime : GoodIn wsX2_of (va_wsS RX2 149 yX2_entrantTime wsX2_entrantTime) := goodIn_app (goodIn_of _ (by decide +kernel)) ggX2_of_X2_entrantTime
set_option maxRecDepth 20000 in
theorem ggX2_of_X0_hasResult : GoodIn wsX2_of wsX0_hasResult := goodIn_r _ [20, 21, 15, 6, 16, 36, 37, 38] (by decide +kernel) (by decide +kernel)
set_option maxRecDepth 20000 in
theorem gX2_of_X0_hasResult_n156 : GoodIn wsX2_of (wsX0_hasResult) := ggX2_of_X0_hasResult
set_option maxRecDepth 20000 in
theorem ggX2_of_X0_told : GoodIn wsX2_of wsX0_told := goodIn_r _ [24, 21, 25, 15, 6, 16, 26, 27, 28, 18, 29, 30, 17, 19, 20, 36, 37, 38] (by decide +kernel) (by decide +kernel)
set_option maxRecDepth 20000 in
theorem gX2_of_X0_told_n170 : GoodIn wsX2_of (wsX0_told) := ggX2_of_X0_told
theorem dX2_of_0 : decode cX2_of 0 = .ok (.aload_n 0, 1) := by decide +kernel
theorem dX2_of_1 : decode cX2_of 1 = .ok (.iload_n 1, 1) := by decide +kernel
theorem dX2_of_2 : decode cX2_of 2 = .ok (.invokevirtual 145, 3) := by decide +kernel
theorem dX2_of_5 : decode cX2_of 5 = .ok (.astore 4, 2) := by decide +kernel
theorem dX2_of_7 : decode cX2_of 7 = .ok (.aload 4, 2) := by decide +kernel
theorem dX2_of_9 : decode cX2_of 9 = .ok (.iload_n 2, 1) := by decide +kernel
theorem dX2_of_10 : decode cX2_of 10 = .ok (.invokestatic 149, 3) := by decide +kernel
theorem dX2_of_13 : decode cX2_of 13 = .ok (.istore 5, 2) := by decide +kernel
theorem dX2_of_15 : decode cX2_of 15 = .ok (.iload_n 3, 1) := by decide +kernel
theorem dX2_of_16 : decode cX2_of 16 = .ok (.ifCond .lt 8, 3) := by decide +kernel
theorem dX2_of_19 : decode cX2_of 19 = .ok (.iload_n 3, 1) := by decide +kernel
theorem dX2_of_20 : decode cX2_of 20 = .ok (.iconst 3, 1) := by decide +kernel
theorem dX2_of_21 : decode cX2_of 21 = .ok (.if_icmp .le 13, 3) := by decide +kernel
theorem dX2_of_24 : decode cX2_of 24 = .ok (.new 44, 3) := by decide +kernel
theorem dX2_of_27 : decode cX2_of 27 = .ok (.dup, 1) := by decide +kernel
theorem dX2_of_28 : decode cX2_of 28 = .ok (.ldc 168, 2) := by decide +kernel
theorem dX2_of_30 : decode cX2_of 30 = .ok (.invokespecial 48, 3) := by decide +kernel
theorem dX2_of_33 : decode cX2_of 33 = .ok (.athrow, 1) := by decide +kernel
theorem dX2_of_34 : decode cX2_of 34 = .ok (.iload_n 3, 1) := by decide +kernel
theorem dX2_of_35 : decode cX2_of 35 = .ok (.ifCond .ne 6, 3) := by decide +kernel
theorem dX2_of_38 : decode cX2_of 38 = .ok (.iload 5, 2) := by decide +kernel
theorem dX2_of_40 : decode cX2_of 40 = .ok (.ireturn, 1) := by decide +kernel
theorem dX2_of_41 : decode cX2_of 41 = .ok (.aload 4, 2) := by decide +kernel
theorem dX2_of_43 : decode cX2_of 43 = .ok (.iload_n 2, 1) := by decide +kernel
theorem dX2_of_44 : decode cX2_of 44 = .ok (.invokevirtual 156, 3) := by decide +kernel
theorem dX2_of_47 : decode cX2_of 47 = .ok (.ifCond .eq 13, 3) := by decide +kernel
theorem dX2_of_50 : decode cX2_of 50 = .ok (.aload 4, 2) := by decide +kernel
theorem dX2_of_52 : decode cX2_of 52 = .ok (.iload_n 2, 1) := by decide +kernel
theorem dX2_of_53 : decode cX2_of 53 = .ok (.iload_n 3, 1) := by decide +kernel
theorem dX2_of_54 : decode cX2_of 54 = .ok (.invokevirtual 170, 3) := by decide +kernel
theorem dX2_of_57 : decode cX2_of 57 = .ok (.goto 4, 3) := by decide +kernel
theorem dX2_of_60 : decode cX2_of 60 = .ok (.iconst (-1), 1) := by decide +kernel
theorem dX2_of_61 : decode cX2_of 61 = .ok (.ireturn, 1) := by decide +kernel
set_option maxRecDepth 20000 in
theorem ggX2_ranked_X2_contestAt : GoodIn wsX2_ranked wsX2_contestAt := goodIn_ca (goodIn_r _ [7, 1, 2, 8, 25, 26, 27, 28, 29] (by decide +kernel) (by decide +kernel)) (goodIn_sub (fun _ h => List.mem_cons_of_mem _ (List.mem_append_right _ h)) (by decide +kernel))
set_option maxRecDepth 20000 in
theorem gX2_ranked_X2_contestAt : GoodIn wsX2_ranked (wsV RX2 145 RX2 yX2_contestAt wsX2_contestAt) := goodIn_app (goodIn_of _ (by decide +kernel)) ggX2_ranked_X2_contestAt
set_option maxRecDepth 20000 in
theorem ggX2_ranked_X0_holderOf : GoodIn wsX2_ranked wsX0_holderOf := goodIn_r _ [12, 13, 14, 15, 10, 16, 17, 18, 6, 19, 20, 21, 22, 23, 24, 30, 31, 32] (by decide +kernel) (by decide +kernel)
set_option maxRecDepth 20000 in
theorem gX2_ranked_X0_holderOf_n175 : GoodIn wsX2_ranked (wsX0_holderOf) := ggX2_ranked_X0_holderOf
theorem dX2_ranked_0 : decode cX2_ranked 0 = .ok (.aload_n 0, 1) := by decide +kernel
theorem dX2_ranked_1 : decode cX2_ranked 1 = .ok (.iload_n 1, 1) := by decide +kernel
theorem dX2_ranked_2 : decode cX2_ranked 2 = .ok (.invokevirtual 145, 3) := by decide +kernel
theorem dX2_ranked_5 : decode cX2_ranked 5 = .ok (.astore_n 3, 1) := by decide +kernel
theorem dX2_ranked_6 : decode cX2_ranked 6 = .ok (.iload_n 2, 1) := by decide +kernel
theorem dX2_ranked_7 : decode cX2_ranked 7 = .ok (.ifCond .ge 13, 3) := by decide +kernel
theorem dX2_ranked_10 : decode cX2_ranked 10 = .ok (.new 102, 3) := by decide +kernel
theorem dX2_ranked_13 : decode cX2_ranked 13 = .ok (.dup, 1) := by decide +kernel
theorem dX2_ranked_14 : decode cX2_ranked 14 = .ok (.ldc 173, 2) := by decide +kernel
theorem dX2_ranked_16 : decode cX2_ranked 16 = .ok (.invokespecial 106, 3) := by decide +kernel
theorem dX2_ranked_19 : decode cX2_ranked 19 = .ok (.athrow, 1) := by decide +kernel
theorem dX2_ranked_20 : decode cX2_ranked 20 = .ok (.aload_n 3, 1) := by decide +kernel
theorem dX2_ranked_21 : decode cX2_ranked 21 = .ok (.iload_n 2, 1) := by decide +kernel
theorem dX2_ranked_22 : decode cX2_ranked 22 = .ok (.invokevirtual 175, 3) := by decide +kernel
theorem dX2_ranked_25 : decode cX2_ranked 25 = .ok (.ireturn, 1) := by decide +kernel
theorem dX2_studentAt_0 : decode cX2_studentAt 0 = .ok (.iload_n 1, 1) := by decide +kernel
theorem dX2_studentAt_1 : decode cX2_studentAt 1 = .ok (.ifCond .lt 25, 3) := by decide +kernel
theorem dX2_studentAt_4 : decode cX2_studentAt 4 = .ok (.iload_n 1, 1) := by decide +kernel
theorem dX2_studentAt_5 : decode cX2_studentAt 5 = .ok (.aload_n 0, 1) := by decide +kernel
theorem dX2_studentAt_6 : decode cX2_studentAt 6 = .ok (.getfield 11, 3) := by decide +kernel
theorem dX2_studentAt_9 : decode cX2_studentAt 9 = .ok (.arraylength, 1) := by decide +kernel
theorem dX2_studentAt_10 : decode cX2_studentAt 10 = .ok (.if_icmp .ge 16, 3) := by decide +kernel
theorem dX2_studentAt_13 : decode cX2_studentAt 13 = .ok (.aload_n 0, 1) := by decide +kernel
theorem dX2_studentAt_14 : decode cX2_studentAt 14 = .ok (.getfield 11, 3) := by decide +kernel
theorem dX2_studentAt_17 : decode cX2_studentAt 17 = .ok (.iload_n 1, 1) := by decide +kernel
theorem dX2_studentAt_18 : decode cX2_studentAt 18 = .ok (.aaload, 1) := by decide +kernel
theorem dX2_studentAt_19 : decode cX2_studentAt 19 = .ok (.astore_n 2, 1) := by decide +kernel
theorem dX2_studentAt_20 : decode cX2_studentAt 20 = .ok (.aload_n 2, 1) := by decide +kernel
theorem dX2_studentAt_21 : decode cX2_studentAt 21 = .ok (.ifnull 5, 3) := by decide +kernel
theorem dX2_studentAt_24 : decode cX2_studentAt 24 = .ok (.aload_n 2, 1) := by decide +kernel
theorem dX2_studentAt_25 : decode cX2_studentAt 25 = .ok (.areturn, 1) := by decide +kernel
theorem dX2_studentAt_26 : decode cX2_studentAt 26 = .ok (.new 102, 3) := by decide +kernel
theorem dX2_studentAt_29 : decode cX2_studentAt 29 = .ok (.dup, 1) := by decide +kernel
theorem dX2_studentAt_30 : decode cX2_studentAt 30 = .ok (.ldc 178, 2) := by decide +kernel
theorem dX2_studentAt_32 : decode cX2_studentAt 32 = .ok (.invokespecial 106, 3) := by decide +kernel
theorem dX2_studentAt_35 : decode cX2_studentAt 35 = .ok (.athrow, 1) := by decide +kernel
theorem dX2_contestAt_0 : decode cX2_contestAt 0 = .ok (.iload_n 1, 1) := by decide +kernel
theorem dX2_contestAt_1 : decode cX2_contestAt 1 = .ok (.ifCond .lt 25, 3) := by decide +kernel
theorem dX2_contestAt_4 : decode cX2_contestAt 4 = .ok (.iload_n 1, 1) := by decide +kernel
theorem dX2_contestAt_5 : decode cX2_contestAt 5 = .ok (.aload_n 0, 1) := by decide +kernel
theorem dX2_contestAt_6 : decode cX2_contestAt 6 = .ok (.getfield 17, 3) := by decide +kernel
theorem dX2_contestAt_9 : decode cX2_contestAt 9 = .ok (.arraylength, 1) := by decide +kernel
theorem dX2_contestAt_10 : decode cX2_contestAt 10 = .ok (.if_icmp .ge 16, 3) := by decide +kernel
theorem dX2_contestAt_13 : decode cX2_contestAt 13 = .ok (.aload_n 0, 1) := by decide +kernel
theorem dX2_contestAt_14 : decode cX2_contestAt 14 = .ok (.getfield 17, 3) := by decide +kernel
theorem dX2_contestAt_17 : decode cX2_contestAt 17 = .ok (.iload_n 1, 1) := by decide +kernel
theorem dX2_contestAt_18 : decode cX2_contestAt 18 = .ok (.aaload, 1) := by decide +kernel
theorem dX2_contestAt_19 : decode cX2_contestAt 19 = .ok (.astore_n 2, 1) := by decide +kernel
theorem dX2_contestAt_20 : decode cX2_contestAt 20 = .ok (.aload_n 2, 1) := by decide +kernel
theorem dX2_contestAt_21 : decode cX2_contestAt 21 = .ok (.ifnull 5, 3) := by decide +kernel
theorem dX2_contestAt_24 : decode cX2_contestAt 24 = .ok (.aload_n 2, 1) := by decide +kernel
theorem dX2_contestAt_25 : decode cX2_contestAt 25 = .ok (.areturn, 1) := by decide +kernel
theorem dX2_contestAt_26 : decode cX2_contestAt 26 = .ok (.new 102, 3) := by decide +kernel
theorem dX2_contestAt_29 : decode cX2_contestAt 29 = .ok (.dup, 1) := by decide +kernel
theorem dX2_contestAt_30 : decode cX2_contestAt 30 = .ok (.ldc 180, 2) := by decide +kernel
theorem dX2_contestAt_32 : decode cX2_contestAt 32 = .ok (.invokespecial 106, 3) := by decide +kernel
theorem dX2_contestAt_35 : decode cX2_contestAt 35 = .ok (.athrow, 1) := by decide +kernel
set_option maxRecDepth 20000 in
theorem ggX2_entrantTime_X2_at : GoodIn wsX2_entrantTime wsX2_at := goodIn_r _ [6] (by decide +kernel) (by decide +kernel)
set_option maxRecDepth 20000 in
theorem gX2_entrantTime_X2_at : GoodIn wsX2_entrantTime (va_wsS RX2 70 yX2_at wsX2_at) := goodIn_app (goodIn_of _ (by decide +kernel)) ggX2_entrantTime_X2_at
theorem dX2_entrantTime_0 : decode cX2_entrantTime 0 = .ok (.aload_n 0, 1) := by decide +kernel
theorem dX2_entrantTime_1 : decode cX2_entrantTime 1 = .ok (.getfield 182, 3) := by decide +kernel
theorem dX2_entrantTime_4 : decode cX2_entrantTime 4 = .ok (.iload_n 1, 1) := by decide +kernel
theorem dX2_entrantTime_5 : decode cX2_entrantTime 5 = .ok (.invokestatic 70, 3) := by decide +kernel
theorem dX2_entrantTime_8 : decode cX2_entrantTime 8 = .ok (.istore_n 2, 1) := by decide +kernel
theorem dX2_entrantTime_9 : decode cX2_entrantTime 9 = .ok (.iload_n 2, 1) := by decide +kernel
theorem dX2_entrantTime_10 : decode cX2_entrantTime 10 = .ok (.ifCond .gt 13, 3) := by decide +kernel
theorem dX2_entrantTime_13 : decode cX2_entrantTime 13 = .ok (.new 102, 3) := by decide +kernel
theorem dX2_entrantTime_16 : decode cX2_entrantTime 16 = .ok (.dup, 1) := by decide +kernel
theorem dX2_entrantTime_17 : decode cX2_entrantTime 17 = .ok (.ldc 185, 2) := by decide +kernel
theorem dX2_entrantTime_19 : decode cX2_entrantTime 19 = .ok (.invokespecial 106, 3) := by decide +kernel
theorem dX2_entrantTime_22 : decode cX2_entrantTime 22 = .ok (.athrow, 1) := by decide +kernel
theorem dX2_entrantTime_23 : decode cX2_entrantTime 23 = .ok (.iload_n 2, 1) := by decide +kernel
theorem dX2_entrantTime_24 : decode cX2_entrantTime 24 = .ok (.ireturn, 1) := by decide +kernel
theorem dX2_needLetter_0 : decode cX2_needLetter 0 = .ok (.iload_n 0, 1) := by decide +kernel
theorem dX2_needLetter_1 : decode cX2_needLetter 1 = .ok (.ifCond .lt 9, 3) := by decide +kernel
theorem dX2_needLetter_4 : decode cX2_needLetter 4 = .ok (.iload_n 0, 1) := by decide +kernel
theorem dX2_needLetter_5 : decode cX2_needLetter 5 = .ok (.bipush 12, 2) := by decide +kernel
theorem dX2_needLetter_7 : decode cX2_needLetter 7 = .ok (.if_icmp .lt 13, 3) := by decide +kernel
theorem dX2_needLetter_10 : decode cX2_needLetter 10 = .ok (.new 102, 3) := by decide +kernel
theorem dX2_needLetter_13 : decode cX2_needLetter 13 = .ok (.dup, 1) := by decide +kernel
theorem dX2_needLetter_14 : decode cX2_needLetter 14 = .ok (.ldc 187, 2) := by decide +kernel
theorem dX2_needLetter_16 : decode cX2_needLetter 16 = .ok (.invokespecial 106, 3) := by decide +kernel
theorem dX2_needLetter_19 : decode cX2_needLetter 19 = .ok (.athrow, 1) := by decide +kernel
theorem dX2_needLetter_20 : decode cX2_needLetter 20 = .ok (.return_, 1) := by decide +kernel
theorem dX2_needKey_0 : decode cX2_needKey 0 = .ok (.iload_n 0, 1) := by decide +kernel
theorem dX2_needKey_1 : decode cX2_needKey 1 = .ok (.ifCond .lt 9, 3) := by decide +kernel
theorem dX2_needKey_4 : decode cX2_needKey 4 = .ok (.iload_n 0, 1) := by decide +kernel
theorem dX2_needKey_5 : decode cX2_needKey 5 = .ok (.bipush 12, 2) := by decide +kernel
theorem dX2_needKey_7 : decode cX2_needKey 7 = .ok (.if_icmp .lt 13, 3) := by decide +kernel
theorem dX2_needKey_10 : decode cX2_needKey 10 = .ok (.new 102, 3) := by decide +kernel
theorem dX2_needKey_13 : decode cX2_needKey 13 = .ok (.dup, 1) := by decide +kernel
theorem dX2_needKey_14 : decode cX2_needKey 14 = .ok (.ldc 189, 2) := by decide +kernel
theorem dX2_needKey_16 : decode cX2_needKey 16 = .ok (.invokespecial 106, 3) := by decide +kernel
theorem dX2_needKey_19 : decode cX2_needKey 19 = .ok (.athrow, 1) := by decide +kernel
theorem dX2_needKey_20 : decode cX2_needKey 20 = .ok (.return_, 1) := by decide +kernel
set_option maxRecDepth 20000 in
theorem ggX2_needTwoKeys_X2_needKey : GoodIn wsX2_needTwoKeys wsX2_needKey := goodIn_ca (goodIn_r _ [6, 7, 8] (by decide +kernel) (by decide +kernel)) (goodIn_sub (fun _ h => List.mem_cons_of_mem _ (List.mem_append_right _ h)) (by decide +kernel))
set_option maxRecDepth 20000 in
theorem gX2_needTwoKeys_X2_needKey : GoodIn wsX2_needTwoKeys (va_wsS RX2 74 yX2_needKey wsX2_needKey) := goodIn_app (goodIn_of _ (by decide +kernel)) ggX2_needTwoKeys_X2_needKey
theorem dX2_needTwoKeys_0 : decode cX2_needTwoKeys 0 = .ok (.iload_n 0, 1) := by decide +kernel
theorem dX2_needTwoKeys_1 : decode cX2_needTwoKeys 1 = .ok (.invokestatic 74, 3) := by decide +kernel
theorem dX2_needTwoKeys_4 : decode cX2_needTwoKeys 4 = .ok (.iload_n 1, 1) := by decide +kernel
theorem dX2_needTwoKeys_5 : decode cX2_needTwoKeys 5 = .ok (.invokestatic 74, 3) := by decide +kernel
theorem dX2_needTwoKeys_8 : decode cX2_needTwoKeys 8 = .ok (.iload_n 0, 1) := by decide +kernel
theorem dX2_needTwoKeys_9 : decode cX2_needTwoKeys 9 = .ok (.iload_n 1, 1) := by decide +kernel
theorem dX2_needTwoKeys_10 : decode cX2_needTwoKeys 10 = .ok (.if_icmp .ne 13, 3) := by decide +kernel
theorem dX2_needTwoKeys_13 : decode cX2_needTwoKeys 13 = .ok (.new 44, 3) := by decide +kernel
theorem dX2_needTwoKeys_16 : decode cX2_needTwoKeys 16 = .ok (.dup, 1) := by decide +kernel
theorem dX2_needTwoKeys_17 : decode cX2_needTwoKeys 17 = .ok (.ldc 191, 2) := by decide +kernel
theorem dX2_needTwoKeys_19 : decode cX2_needTwoKeys 19 = .ok (.invokespecial 48, 3) := by decide +kernel
theorem dX2_needTwoKeys_22 : decode cX2_needTwoKeys 22 = .ok (.athrow, 1) := by decide +kernel
theorem dX2_needTwoKeys_23 : decode cX2_needTwoKeys 23 = .ok (.return_, 1) := by decide +kernel
set_option maxRecDepth 20000 in
theorem ggX2_contestOfDraft_X0_init : GoodIn wsX2_contestOfDraft wsX0_init := goodIn_r _ [8, 9, 10, 11, 12, 13, 14, 15, 45, 46, 47] (by decide +kernel) (by decide +kernel)
set_option maxRecDepth 20000 in
theorem gX2_contestOfDraft_X0_init_n193 : GoodIn wsX2_contestOfDraft (wsX0_init) := ggX2_contestOfDraft_X0_init
set_option maxRecDepth 20000 in
theorem ggX2_contestOfDraft_X2_textTime : GoodIn wsX2_contestOfDraft wsX2_textTime := goodIn_r _ [19, 20, 21, 18, 22, 23, 24, 25, 26, 27, 28, 29, 30, 31, 32, 33, 34, 35, 36, 37, 38, 39, 40, 41] (by decide +kernel) (by decide +kernel)
set_option maxRecDepth 20000 in
theorem gX2_contestOfDraft_X2_textTime : GoodIn wsX2_contestOfDraft (va_wsS RX2 194 yX2_textTime wsX2_textTime) := goodIn_app (goodIn_of _ (by decide +kernel)) ggX2_contestOfDraft_X2_textTime
set_option maxRecDepth 20000 in
theorem ggX2_contestOfDraft_X2_put : GoodIn wsX2_contestOfDraft wsX2_put := goodIn_r _ [44] (by decide +kernel) (by decide +kernel)
set_option maxRecDepth 20000 in
theorem gX2_contestOfDraft_X2_put : GoodIn wsX2_contestOfDraft (va_wsS RX2 131 yX2_put wsX2_put) := goodIn_app (goodIn_of _ (by decide +kernel)) ggX2_contestOfDraft_X2_put
theorem dX2_contestOfDraft_0 : decode cX2_contestOfDraft 0 = .ok (.new 15, 3) := by decide +kernel
theorem dX2_contestOfDraft_3 : decode cX2_contestOfDraft 3 = .ok (.dup, 1) := by decide +kernel
theorem dX2_contestOfDraft_4 : decode cX2_contestOfDraft 4 = .ok (.invokespecial 193, 3) := by decide +kernel
theorem dX2_contestOfDraft_7 : decode cX2_contestOfDraft 7 = .ok (.astore_n 1, 1) := by decide +kernel
theorem dX2_contestOfDraft_8 : decode cX2_contestOfDraft 8 = .ok (.iconst 0, 1) := by decide +kernel
theorem dX2_contestOfDraft_9 : decode cX2_contestOfDraft 9 = .ok (.istore_n 2, 1) := by decide +kernel
theorem dX2_contestOfDraft_10 : decode cX2_contestOfDraft 10 = .ok (.iload_n 2, 1) := by decide +kernel
theorem dX2_contestOfDraft_11 : decode cX2_contestOfDraft 11 = .ok (.aload_n 0, 1) := by decide +kernel
theorem dX2_contestOfDraft_12 : decode cX2_contestOfDraft 12 = .ok (.getfield 11, 3) := by decide +kernel
theorem dX2_contestOfDraft_15 : decode cX2_contestOfDraft 15 = .ok (.arraylength, 1) := by decide +kernel
theorem dX2_contestOfDraft_16 : decode cX2_contestOfDraft 16 = .ok (.if_icmp .ge 45, 3) := by decide +kernel
theorem dX2_contestOfDraft_19 : decode cX2_contestOfDraft 19 = .ok (.aload_n 0, 1) := by decide +kernel
theorem dX2_contestOfDraft_20 : decode cX2_contestOfDraft 20 = .ok (.getfield 11, 3) := by decide +kernel
theorem dX2_contestOfDraft_23 : decode cX2_contestOfDraft 23 = .ok (.iload_n 2, 1) := by decide +kernel
theorem dX2_contestOfDraft_24 : decode cX2_contestOfDraft 24 = .ok (.aaload, 1) := by decide +kernel
theorem dX2_contestOfDraft_25 : decode cX2_contestOfDraft 25 = .ok (.astore_n 3, 1) := by decide +kernel
theorem dX2_contestOfDraft_26 : decode cX2_contestOfDraft 26 = .ok (.aload_n 3, 1) := by decide +kernel
theorem dX2_contestOfDraft_27 : decode cX2_contestOfDraft 27 = .ok (.ifnull 28, 3) := by decide +kernel
theorem dX2_contestOfDraft_30 : decode cX2_contestOfDraft 30 = .ok (.aload_n 1, 1) := by decide +kernel
theorem dX2_contestOfDraft_31 : decode cX2_contestOfDraft 31 = .ok (.getfield 182, 3) := by decide +kernel
theorem dX2_contestOfDraft_34 : decode cX2_contestOfDraft 34 = .ok (.iload_n 2, 1) := by decide +kernel
theorem dX2_contestOfDraft_35 : decode cX2_contestOfDraft 35 = .ok (.aload_n 0, 1) := by decide +kernel
theorem dX2_contestOfDraft_36 : decode cX2_contestOfDraft 36 = .ok (.getfield 21, 3) := by decide +kernel
theorem dX2_contestOfDraft_39 : decode cX2_contestOfDraft 39 = .ok (.aload_n 0, 1) := by decide +kernel
theorem dX2_contestOfDraft_40 : decode cX2_contestOfDraft 40 = .ok (.getfield 25, 3) := by decide +kernel
theorem dX2_contestOfDraft_43 : decode cX2_contestOfDraft 43 = .ok (.aload_n 3, 1) := by decide +kernel
theorem dX2_contestOfDraft_44 : decode cX2_contestOfDraft 44 = .ok (.getfield 67, 3) := by decide +kernel
theorem dX2_contestOfDraft_47 : decode cX2_contestOfDraft 47 = .ok (.iconst (-1), 1) := by decide +kernel
theorem dX2_contestOfDraft_48 : decode cX2_contestOfDraft 48 = .ok (.iconst (-1), 1) := by decide +kernel
theorem dX2_contestOfDraft_49 : decode cX2_contestOfDraft 49 = .ok (.invokestatic 194, 3) := by decide +kernel
theorem dX2_contestOfDraft_52 : decode cX2_contestOfDraft 52 = .ok (.invokestatic 131, 3) := by decide +kernel
theorem dX2_contestOfDraft_55 : decode cX2_contestOfDraft 55 = .ok (.iinc 2 1, 3) := by decide +kernel
theorem dX2_contestOfDraft_58 : decode cX2_contestOfDraft 58 = .ok (.goto (-48), 3) := by decide +kernel
theorem dX2_contestOfDraft_61 : decode cX2_contestOfDraft 61 = .ok (.aload_n 1, 1) := by decide +kernel
theorem dX2_contestOfDraft_62 : decode cX2_contestOfDraft 62 = .ok (.areturn, 1) := by decide +kernel
theorem dX2_at_0 : decode cX2_at 0 = .ok (.iload_n 1, 1) := by decide +kernel
theorem dX2_at_1 : decode cX2_at 1 = .ok (.ifCond .lt 15, 3) := by decide +kernel
theorem dX2_at_4 : decode cX2_at 4 = .ok (.iload_n 1, 1) := by decide +kernel
theorem dX2_at_5 : decode cX2_at 5 = .ok (.aload_n 0, 1) := by decide +kernel
theorem dX2_at_6 : decode cX2_at 6 = .ok (.arraylength, 1) := by decide +kernel
theorem dX2_at_7 : decode cX2_at 7 = .ok (.if_icmp .ge 9, 3) := by decide +kernel
theorem dX2_at_10 : decode cX2_at 10 = .ok (.aload_n 0, 1) := by decide +kernel
theorem dX2_at_11 : decode cX2_at 11 = .ok (.iload_n 1, 1) := by decide +kernel
theorem dX2_at_12 : decode cX2_at 12 = .ok (.iaload, 1) := by decide +kernel
theorem dX2_at_13 : decode cX2_at 13 = .ok (.goto 4, 3) := by decide +kernel
theorem dX2_at_16 : decode cX2_at 16 = .ok (.iconst 0, 1) := by decide +kernel
theorem dX2_at_17 : decode cX2_at 17 = .ok (.ireturn, 1) := by decide +kernel
theorem dX2_put_0 : decode cX2_put 0 = .ok (.iload_n 1, 1) := by decide +kernel
theorem dX2_put_1 : decode cX2_put 1 = .ok (.ifCond .lt 13, 3) := by decide +kernel
theorem dX2_put_4 : decode cX2_put 4 = .ok (.iload_n 1, 1) := by decide +kernel
theorem dX2_put_5 : decode cX2_put 5 = .ok (.aload_n 0, 1) := by decide +kernel
theorem dX2_put_6 : decode cX2_put 6 = .ok (.arraylength, 1) := by decide +kernel
theorem dX2_put_7 : decode cX2_put 7 = .ok (.if_icmp .ge 7, 3) := by decide +kernel
theorem dX2_put_10 : decode cX2_put 10 = .ok (.aload_n 0, 1) := by decide +kernel
theorem dX2_put_11 : decode cX2_put 11 = .ok (.iload_n 1, 1) := by decide +kernel
theorem dX2_put_12 : decode cX2_put 12 = .ok (.iload_n 2, 1) := by decide +kernel
theorem dX2_put_13 : decode cX2_put 13 = .ok (.iastore, 1) := by decide +kernel
theorem dX2_put_14 : decode cX2_put 14 = .ok (.return_, 1) := by decide +kernel
set_option maxRecDepth 20000 in
theorem ggX2_count_X2_at : GoodIn wsX2_count wsX2_at := goodIn_r _ [4] (by decide +kernel) (by decide +kernel)
set_option maxRecDepth 20000 in
theorem gX2_count_X2_at : GoodIn wsX2_count (va_wsS RX2 70 yX2_at wsX2_at) := goodIn_app (goodIn_of _ (by decide +kernel)) ggX2_count_X2_at
set_option maxRecDepth 20000 in
theorem ggX2_count_X2_put : GoodIn wsX2_count wsX2_put := goodIn_r _ [7] (by decide +kernel) (by decide +kernel)
set_option maxRecDepth 20000 in
theorem gX2_count_X2_put : GoodIn wsX2_count (va_wsS RX2 131 yX2_put wsX2_put) := goodIn_app (goodIn_of _ (by decide +kernel)) ggX2_count_X2_put
theorem dX2_count_0 : decode cX2_count 0 = .ok (.aload_n 0, 1) := by decide +kernel
theorem dX2_count_1 : decode cX2_count 1 = .ok (.iload_n 1, 1) := by decide +kernel
theorem dX2_count_2 : decode cX2_count 2 = .ok (.aload_n 0, 1) := by decide +kernel
theorem dX2_count_3 : decode cX2_count 3 = .ok (.iload_n 1, 1) := by decide +kernel
theorem dX2_count_4 : decode cX2_count 4 = .ok (.invokestatic 70, 3) := by decide +kernel
theorem dX2_count_7 : decode cX2_count 7 = .ok (.iconst 1, 1) := by decide +kernel
theorem dX2_count_8 : decode cX2_count 8 = .ok (.iadd, 1) := by decide +kernel
theorem dX2_count_9 : decode cX2_count 9 = .ok (.invokestatic 131, 3) := by decide +kernel
theorem dX2_count_12 : decode cX2_count 12 = .ok (.return_, 1) := by decide +kernel
theorem dX2_pairPlace_0 : decode cX2_pairPlace 0 = .ok (.bipush 12, 2) := by decide +kernel
theorem dX2_pairPlace_2 : decode cX2_pairPlace 2 = .ok (.iload_n 0, 1) := by decide +kernel
theorem dX2_pairPlace_3 : decode cX2_pairPlace 3 = .ok (.imul, 1) := by decide +kernel
theorem dX2_pairPlace_4 : decode cX2_pairPlace 4 = .ok (.iload_n 1, 1) := by decide +kernel
theorem dX2_pairPlace_5 : decode cX2_pairPlace 5 = .ok (.iadd, 1) := by decide +kernel
theorem dX2_pairPlace_6 : decode cX2_pairPlace 6 = .ok (.ireturn, 1) := by decide +kernel
theorem dX2_fingerOf_0 : decode cX2_fingerOf 0 = .ok (.iload_n 0, 1) := by decide +kernel
theorem dX2_fingerOf_1 : decode cX2_fingerOf 1 = .ok (.bipush 6, 2) := by decide +kernel
theorem dX2_fingerOf_3 : decode cX2_fingerOf 3 = .ok (.irem, 1) := by decide +kernel
theorem dX2_fingerOf_4 : decode cX2_fingerOf 4 = .ok (.ireturn, 1) := by decide +kernel
theorem dX2_handOf_0 : decode cX2_handOf 0 = .ok (.iload_n 0, 1) := by decide +kernel
theorem dX2_handOf_1 : decode cX2_handOf 1 = .ok (.bipush 6, 2) := by decide +kernel
theorem dX2_handOf_3 : decode cX2_handOf 3 = .ok (.irem, 1) := by decide +kernel
theorem dX2_handOf_4 : decode cX2_handOf 4 = .ok (.iconst 3, 1) := by decide +kernel
theorem dX2_handOf_5 : decode cX2_handOf 5 = .ok (.idiv, 1) := by decide +kernel
theorem dX2_handOf_6 : decode cX2_handOf 6 = .ok (.ireturn, 1) := by decide +kernel
theorem dX2_rowOf_0 : decode cX2_rowOf 0 = .ok (.iload_n 0, 1) := by decide +kernel
theorem dX2_rowOf_1 : decode cX2_rowOf 1 = .ok (.bipush 6, 2) := by decide +kernel
theorem dX2_rowOf_3 : decode cX2_rowOf 3 = .ok (.idiv, 1) := by decide +kernel
theorem dX2_rowOf_4 : decode cX2_rowOf 4 = .ok (.ireturn, 1) := by decide +kernel
set_option maxRecDepth 20000 in
theorem ggX2_stepTime_X2_fingerOf : GoodIn wsX2_stepTime wsX2_fingerOf := goodIn_r _ [8] (by decide +kernel) (by decide +kernel)
set_option maxRecDepth 20000 in
theorem gX2_stepTime_X2_fingerOf : GoodIn wsX2_stepTime (va_wsS RX2 198 yX2_fingerOf wsX2_fingerOf) := goodIn_app (goodIn_of _ (by decide +kernel)) ggX2_stepTime_X2_fingerOf
set_option maxRecDepth 20000 in
theorem ggX2_stepTime_X2_rowOf : GoodIn wsX2_stepTime wsX2_rowOf := goodIn_r _ [11] (by decide +kernel) (by decide +kernel)
set_option maxRecDepth 20000 in
theorem gX2_stepTime_X2_rowOf : GoodIn wsX2_stepTime (va_wsS RX2 201 yX2_rowOf wsX2_rowOf) := goodIn_app (goodIn_of _ (by decide +kernel)) ggX2_stepTime_X2_rowOf
set_option maxRecDepth 20000 in
theorem ggX2_stepTime_X2_handOf : GoodIn wsX2_stepTime wsX2_handOf := goodIn_r _ [14] (by decide +kernel) (by decide +kernel)
set_option maxRecDepth 20000 in
theorem gX2_stepTime_X2_handOf : GoodIn wsX2_stepTime (va_wsS RX2 209 yX2_handOf wsX2_handOf) := goodIn_app (goodIn_of _ (by decide +kernel)) ggX2_stepTime_X2_handOf
theorem dX2_stepTime_0 : decode cX2_stepTime 0 = .ok (.iload_n 0, 1) := by decide +kernel
theorem dX2_stepTime_1 : decode cX2_stepTime 1 = .ok (.iload_n 1, 1) := by decide +kernel
theorem dX2_stepTime_2 : decode cX2_stepTime 2 = .ok (.if_icmp .ne 5, 3) := by decide +kernel
theorem dX2_stepTime_5 : decode cX2_stepTime 5 = .ok (.iconst 3, 1) := by decide +kernel
theorem dX2_stepTime_6 : decode cX2_stepTime 6 = .ok (.ireturn, 1) := by decide +kernel
theorem dX2_stepTime_7 : decode cX2_stepTime 7 = .ok (.iload_n 0, 1) := by decide +kernel
theorem dX2_stepTime_8 : decode cX2_stepTime 8 = .ok (.invokestatic 198, 3) := by decide +kernel
theorem dX2_stepTime_11 : decode cX2_stepTime 11 = .ok (.iload_n 1, 1) := by decide +kernel
theorem dX2_stepTime_12 : decode cX2_stepTime 12 = .ok (.invokestatic 198, 3) := by decide +kernel
theorem dX2_stepTime_15 : decode cX2_stepTime 15 = .ok (.if_icmp .ne 20, 3) := by decide +kernel
theorem dX2_stepTime_18 : decode cX2_stepTime 18 = .ok (.iconst 5, 1) := by decide +kernel
theorem dX2_stepTime_19 : decode cX2_stepTime 19 = .ok (.iconst 2, 1) := by decide +kernel
theorem dX2_stepTime_20 : decode cX2_stepTime 20 = .ok (.iload_n 0, 1) := by decide +kernel
theorem dX2_stepTime_21 : decode cX2_stepTime 21 = .ok (.invokestatic 201, 3) := by decide +kernel
theorem dX2_stepTime_24 : decode cX2_stepTime 24 = .ok (.iload_n 1, 1) := by decide +kernel
theorem dX2_stepTime_25 : decode cX2_stepTime 25 = .ok (.invokestatic 201, 3) := by decide +kernel
theorem dX2_stepTime_28 : decode cX2_stepTime 28 = .ok (.isub, 1) := by decide +kernel
theorem dX2_stepTime_29 : decode cX2_stepTime 29 = .ok (.invokestatic 204, 3) := by decide +kernel
theorem dX2_stepTime_32 : decode cX2_stepTime 32 = .ok (.imul, 1) := by decide +kernel
theorem dX2_stepTime_33 : decode cX2_stepTime 33 = .ok (.iadd, 1) := by decide +kernel
theorem dX2_stepTime_34 : decode cX2_stepTime 34 = .ok (.ireturn, 1) := by decide +kernel
theorem dX2_stepTime_35 : decode cX2_stepTime 35 = .ok (.iload_n 0, 1) := by decide +kernel
theorem dX2_stepTime_36 : decode cX2_stepTime 36 = .ok (.invokestatic 209, 3) := by decide +kernel
theorem dX2_stepTime_39 : decode cX2_stepTime 39 = .ok (.iload_n 1, 1) := by decide +kernel
theorem dX2_stepTime_40 : decode cX2_stepTime 40 = .ok (.invokestatic 209, 3) := by decide +kernel
theorem dX2_stepTime_43 : decode cX2_stepTime 43 = .ok (.if_icmp .ne 7, 3) := by decide +kernel
theorem dX2_stepTime_46 : decode cX2_stepTime 46 = .ok (.iconst 4, 1) := by decide +kernel
theorem dX2_stepTime_47 : decode cX2_stepTime 47 = .ok (.goto 4, 3) := by decide +kernel
theorem dX2_stepTime_50 : decode cX2_stepTime 50 = .ok (.iconst 2, 1) := by decide +kernel
theorem dX2_stepTime_51 : decode cX2_stepTime 51 = .ok (.ireturn, 1) := by decide +kernel
set_option maxRecDepth 20000 in
theorem ggX2_textTime_X2_at : GoodIn wsX2_textTime wsX2_at := goodIn_r _ [4] (by decide +kernel) (by decide +kernel)
set_option maxRecDepth 20000 in
theorem gX2_textTime_X2_at : GoodIn wsX2_textTime (va_wsS RX2 70 yX2_at wsX2_at) := goodIn_app (goodIn_of _ (by decide +kernel)) ggX2_textTime_X2_at
set_option maxRecDepth 20000 in
theorem ggX2_textTime_X2_swapped : GoodIn wsX2_textTime wsX2_swapped := goodIn_r _ [7] (by decide +kernel) (by decide +kernel)
set_option maxRecDepth 20000 in
theorem gX2_textTime_X2_swapped : GoodIn wsX2_textTime (va_wsS RX2 212 yX2_swapped wsX2_swapped) := goodIn_app (goodIn_of _ (by decide +kernel)) ggX2_textTime_X2_swapped
set_option maxRecDepth 20000 in
theorem ggX2_textTime_X2_stepTime : GoodIn wsX2_textTime wsX2_stepTime := goodIn_r _ [10, 11, 12, 13, 14, 15, 16, 3, 17, 18, 19, 20, 21, 22, 23] (by decide +kernel) (by decide +kernel)
set_option maxRecDepth 20000 in
theorem gX2_textTime_X2_stepTime : GoodIn wsX2_textTime (va_wsS RX2 216 yX2_stepTime wsX2_stepTime) := goodIn_app (goodIn_of _ (by decide +kernel)) ggX2_textTime_X2_stepTime
theorem dX2_textTime_0 : decode cX2_textTime 0 = .ok (.iconst 0, 1) := by decide +kernel
theorem dX2_textTime_1 : decode cX2_textTime 1 = .ok (.istore 5, 2) := by decide +kernel
theorem dX2_textTime_3 : decode cX2_textTime 3 = .ok (.iconst (-1), 1) := by decide +kernel
theorem dX2_textTime_4 : decode cX2_textTime 4 = .ok (.istore 6, 2) := by decide +kernel
theorem dX2_textTime_6 : decode cX2_textTime 6 = .ok (.iconst 0, 1) := by decide +kernel
theorem dX2_textTime_7 : decode cX2_textTime 7 = .ok (.istore 7, 2) := by decide +kernel
theorem dX2_textTime_9 : decode cX2_textTime 9 = .ok (.iload 7, 2) := by decide +kernel
theorem dX2_textTime_11 : decode cX2_textTime 11 = .ok (.iload_n 1, 1) := by decide +kernel
theorem dX2_textTime_12 : decode cX2_textTime 12 = .ok (.if_icmp .ge 52, 3) := by decide +kernel
theorem dX2_textTime_15 : decode cX2_textTime 15 = .ok (.aload_n 2, 1) := by decide +kernel
theorem dX2_textTime_16 : decode cX2_textTime 16 = .ok (.aload_n 0, 1) := by decide +kernel
theorem dX2_textTime_17 : decode cX2_textTime 17 = .ok (.iload 7, 2) := by decide +kernel
theorem dX2_textTime_19 : decode cX2_textTime 19 = .ok (.invokestatic 70, 3) := by decide +kernel
theorem dX2_textTime_22 : decode cX2_textTime 22 = .ok (.invokestatic 70, 3) := by decide +kernel
theorem dX2_textTime_25 : decode cX2_textTime 25 = .ok (.iload_n 3, 1) := by decide +kernel
theorem dX2_textTime_26 : decode cX2_textTime 26 = .ok (.iload 4, 2) := by decide +kernel
theorem dX2_textTime_28 : decode cX2_textTime 28 = .ok (.invokestatic 212, 3) := by decide +kernel
theorem dX2_textTime_31 : decode cX2_textTime 31 = .ok (.istore 8, 2) := by decide +kernel
theorem dX2_textTime_33 : decode cX2_textTime 33 = .ok (.iload 5, 2) := by decide +kernel
theorem dX2_textTime_35 : decode cX2_textTime 35 = .ok (.iload 7, 2) := by decide +kernel
theorem dX2_textTime_37 : decode cX2_textTime 37 = .ok (.ifCond .ne 7, 3) := by decide +kernel
theorem dX2_textTime_40 : decode cX2_textTime 40 = .ok (.iconst 2, 1) := by decide +kernel
theorem dX2_textTime_41 : decode cX2_textTime 41 = .ok (.goto 10, 3) := by decide +kernel
theorem dX2_textTime_44 : decode cX2_textTime 44 = .ok (.iload 6, 2) := by decide +kernel
theorem dX2_textTime_46 : decode cX2_textTime 46 = .ok (.iload 8, 2) := by decide +kernel
theorem dX2_textTime_48 : decode cX2_textTime 48 = .ok (.invokestatic 216, 3) := by decide +kernel
theorem dX2_textTime_51 : decode cX2_textTime 51 = .ok (.iadd, 1) := by decide +kernel
theorem dX2_textTime_52 : decode cX2_textTime 52 = .ok (.istore 5, 2) := by decide +kernel
theorem dX2_textTime_54 : decode cX2_textTime 54 = .ok (.iload 8, 2) := by decide +kernel
theorem dX2_textTime_56 : decode cX2_textTime 56 = .ok (.istore 6, 2) := by decide +kernel
theorem dX2_textTime_58 : decode cX2_textTime 58 = .ok (.iinc 7 1, 3) := by decide +kernel
theorem dX2_textTime_61 : decode cX2_textTime 61 = .ok (.goto (-52), 3) := by decide +kernel
theorem dX2_textTime_64 : decode cX2_textTime 64 = .ok (.iload 5, 2) := by decide +kernel
theorem dX2_textTime_66 : decode cX2_textTime 66 = .ok (.ireturn, 1) := by decide +kernel
theorem dX2_swapped_0 : decode cX2_swapped 0 = .ok (.iload_n 0, 1) := by decide +kernel
theorem dX2_swapped_1 : decode cX2_swapped 1 = .ok (.iload_n 1, 1) := by decide +kernel
theorem dX2_swapped_2 : decode cX2_swapped 2 = .ok (.if_icmp .ne 5, 3) := by decide +kernel
theorem dX2_swapped_5 : decode cX2_swapped 5 = .ok (.iload_n 2, 1) := by decide +kernel
theorem dX2_swapped_6 : decode cX2_swapped 6 = .ok (.ireturn, 1) := by decide +kernel
theorem dX2_swapped_7 : decode cX2_swapped 7 = .ok (.iload_n 0, 1) := by decide +kernel
theorem dX2_swapped_8 : decode cX2_swapped 8 = .ok (.iload_n 2, 1) := by decide +kernel
theorem dX2_swapped_9 : decode cX2_swapped 9 = .ok (.if_icmp .ne 7, 3) := by decide +kernel
theorem dX2_swapped_12 : decode cX2_swapped 12 = .ok (.iload_n 1, 1) := by decide +kernel
theorem dX2_swapped_13 : decode cX2_swapped 13 = .ok (.goto 4, 3) := by decide +kernel
theorem dX2_swapped_16 : decode cX2_swapped 16 = .ok (.iload_n 0, 1) := by decide +kernel
theorem dX2_swapped_17 : decode cX2_swapped 17 = .ok (.ireturn, 1) := by decide +kernel
theorem dX2_groups_0 : decode cX2_groups 0 = .ok (.iload_n 0, 1) := by decide +kernel
theorem dX2_groups_1 : decode cX2_groups 1 = .ok (.tableswitch 41 0 3 #[31, 34, 37, 39], 31) := by decide +kernel
theorem dX2_groups_32 : decode cX2_groups 32 = .ok (.bipush 12, 2) := by decide +kernel
theorem dX2_groups_34 : decode cX2_groups 34 = .ok (.ireturn, 1) := by decide +kernel
theorem dX2_groups_35 : decode cX2_groups 35 = .ok (.bipush 6, 2) := by decide +kernel
theorem dX2_groups_37 : decode cX2_groups 37 = .ok (.ireturn, 1) := by decide +kernel
theorem dX2_groups_38 : decode cX2_groups 38 = .ok (.iconst 2, 1) := by decide +kernel
theorem dX2_groups_39 : decode cX2_groups 39 = .ok (.ireturn, 1) := by decide +kernel
theorem dX2_groups_40 : decode cX2_groups 40 = .ok (.iconst 1, 1) := by decide +kernel
theorem dX2_groups_41 : decode cX2_groups 41 = .ok (.ireturn, 1) := by decide +kernel
theorem dX2_groups_42 : decode cX2_groups 42 = .ok (.iconst 0, 1) := by decide +kernel
theorem dX2_groups_43 : decode cX2_groups 43 = .ok (.ireturn, 1) := by decide +kernel
set_option maxRecDepth 20000 in
theorem ggX2_groupOf_X2_fingerOf : GoodIn wsX2_groupOf wsX2_fingerOf := goodIn_r _ [4] (by decide +kernel) (by decide +kernel)
set_option maxRecDepth 20000 in
theorem gX2_groupOf_X2_fingerOf : GoodIn wsX2_groupOf (va_wsS RX2 198 yX2_fingerOf wsX2_fingerOf) := goodIn_app (goodIn_of _ (by decide +kernel)) ggX2_groupOf_X2_fingerOf
set_option maxRecDepth 20000 in
theorem ggX2_groupOf_X2_handOf : GoodIn wsX2_groupOf wsX2_handOf := goodIn_r _ [7] (by decide +kernel) (by decide +kernel)
set_option maxRecDepth 20000 in
theorem gX2_groupOf_X2_handOf : GoodIn wsX2_groupOf (va_wsS RX2 209 yX2_handOf wsX2_handOf) := goodIn_app (goodIn_of _ (by decide +kernel)) ggX2_groupOf_X2_handOf
theorem dX2_groupOf_0 : decode cX2_groupOf 0 = .ok (.iload_n 0, 1) := by decide +kernel
theorem dX2_groupOf_1 : decode cX2_groupOf 1 = .ok (.tableswitch 39 0 2 #[27, 29, 34], 27) := by decide +kernel
theorem dX2_groupOf_28 : decode cX2_groupOf 28 = .ok (.iload_n 1, 1) := by decide +kernel
theorem dX2_groupOf_29 : decode cX2_groupOf 29 = .ok (.ireturn, 1) := by decide +kernel
theorem dX2_groupOf_30 : decode cX2_groupOf 30 = .ok (.iload_n 1, 1) := by decide +kernel
theorem dX2_groupOf_31 : decode cX2_groupOf 31 = .ok (.invokestatic 198, 3) := by decide +kernel
theorem dX2_groupOf_34 : decode cX2_groupOf 34 = .ok (.ireturn, 1) := by decide +kernel
theorem dX2_groupOf_35 : decode cX2_groupOf 35 = .ok (.iload_n 1, 1) := by decide +kernel
theorem dX2_groupOf_36 : decode cX2_groupOf 36 = .ok (.invokestatic 209, 3) := by decide +kernel
theorem dX2_groupOf_39 : decode cX2_groupOf 39 = .ok (.ireturn, 1) := by decide +kernel
theorem dX2_groupOf_40 : decode cX2_groupOf 40 = .ok (.iconst 0, 1) := by decide +kernel
theorem dX2_groupOf_41 : decode cX2_groupOf 41 = .ok (.ireturn, 1) := by decide +kernel
theorem dX3_init_0 : decode cX3_init 0 = .ok (.aload_n 0, 1) := by decide +kernel
theorem dX3_init_1 : decode cX3_init 1 = .ok (.invokespecial 1, 3) := by decide +kernel
theorem dX3_init_4 : decode cX3_init 4 = .ok (.aload_n 0, 1) := by decide +kernel
theorem dX3_init_5 : decode cX3_init 5 = .ok (.bipush 60, 2) := by decide +kernel
theorem dX3_init_7 : decode cX3_init 7 = .ok (.newarray .int, 2) := by decide +kernel
theorem dX3_init_9 : decode cX3_init 9 = .ok (.putfield 7, 3) := by decide +kernel
theorem dX3_init_12 : decode cX3_init 12 = .ok (.aload_n 0, 1) := by decide +kernel
theorem dX3_init_13 : decode cX3_init 13 = .ok (.bipush 60, 2) := by decide +kernel
theorem dX3_init_15 : decode cX3_init 15 = .ok (.newarray .int, 2) := by decide +kernel
theorem dX3_init_17 : decode cX3_init 17 = .ok (.putfield 13, 3) := by decide +kernel
theorem dX3_init_20 : decode cX3_init 20 = .ok (.aload_n 0, 1) := by decide +kernel
theorem dX3_init_21 : decode cX3_init 21 = .ok (.iconst 5, 1) := by decide +kernel
theorem dX3_init_22 : decode cX3_init 22 = .ok (.newarray .int, 2) := by decide +kernel
theorem dX3_init_24 : decode cX3_init 24 = .ok (.putfield 16, 3) := by decide +kernel
theorem dX3_init_27 : decode cX3_init 27 = .ok (.aload_n 0, 1) := by decide +kernel
theorem dX3_init_28 : decode cX3_init 28 = .ok (.bipush 60, 2) := by decide +kernel
theorem dX3_init_30 : decode cX3_init 30 = .ok (.newarray .int, 2) := by decide +kernel
theorem dX3_init_32 : decode cX3_init 32 = .ok (.putfield 19, 3) := by decide +kernel
theorem dX3_init_35 : decode cX3_init 35 = .ok (.aload_n 0, 1) := by decide +kernel
theorem dX3_init_36 : decode cX3_init 36 = .ok (.sipush 720, 3) := by decide +kernel
theorem dX3_init_39 : decode cX3_init 39 = .ok (.newarray .int, 2) := by decide +kernel
theorem dX3_init_41 : decode cX3_init 41 = .ok (.putfield 22, 3) := by decide +kernel
theorem dX3_init_44 : decode cX3_init 44 = .ok (.aload_n 0, 1) := by decide +kernel
theorem dX3_init_45 : decode cX3_init 45 = .ok (.iconst 5, 1) := by decide +kernel
theorem dX3_init_46 : decode cX3_init 46 = .ok (.newarray .int, 2) := by decide +kernel
theorem dX3_init_48 : decode cX3_init 48 = .ok (.putfield 25, 3) := by decide +kernel
theorem dX3_init_51 : decode cX3_init 51 = .ok (.aload_n 0, 1) := by decide +kernel
theorem dX3_init_52 : decode cX3_init 52 = .ok (.iconst 5, 1) := by decide +kernel
theorem dX3_init_53 : decode cX3_init 53 = .ok (.newarray .int, 2) := by decide +kernel
theorem dX3_init_55 : decode cX3_init 55 = .ok (.putfield 28, 3) := by decide +kernel
theorem dX3_init_58 : decode cX3_init 58 = .ok (.aload_n 0, 1) := by decide +kernel
theorem dX3_init_59 : decode cX3_init 59 = .ok (.iconst 5, 1) := by decide +kernel
theorem dX3_init_60 : decode cX3_init 60 = .ok (.newarray .int, 2) := by decide +kernel
theorem dX3_init_62 : decode cX3_init 62 = .ok (.putfield 31, 3) := by decide +kernel
theorem dX3_init_65 : decode cX3_init 65 = .ok (.aload_n 0, 1) := by decide +kernel
theorem dX3_init_66 : decode cX3_init 66 = .ok (.sipush 150, 3) := by decide +kernel
theorem dX3_init_69 : decode cX3_init 69 = .ok (.newarray .int, 2) := by decide +kernel
theorem dX3_init_71 : decode cX3_init 71 = .ok (.putfield 34, 3) := by decide +kernel
theorem dX3_init_74 : decode cX3_init 74 = .ok (.aload_n 0, 1) := by decide +kernel
theorem dX3_init_75 : decode cX3_init 75 = .ok (.bipush 24, 2) := by decide +kernel
theorem dX3_init_77 : decode cX3_init 77 = .ok (.newarray .int, 2) := by decide +kernel
theorem dX3_init_79 : decode cX3_init 79 = .ok (.putfield 37, 3) := by decide +kernel
theorem dX3_init_82 : decode cX3_init 82 = .ok (.aload_n 0, 1) := by decide +kernel
theorem dX3_init_83 : decode cX3_init 83 = .ok (.bipush 6, 2) := by decide +kernel
theorem dX3_init_85 : decode cX3_init 85 = .ok (.newarray .int, 2) := by decide +kernel
theorem dX3_init_87 : decode cX3_init 87 = .ok (.putfield 40, 3) := by decide +kernel
theorem dX3_init_90 : decode cX3_init 90 = .ok (.aload_n 0, 1) := by decide +kernel
theorem dX3_init_91 : decode cX3_init 91 = .ok (.bipush 30, 2) := by decide +kernel
theorem dX3_init_93 : decode cX3_init 93 = .ok (.newarray .int, 2) := by decide +kernel
theorem dX3_init_95 : decode cX3_init 95 = .ok (.putfield 43, 3) := by decide +kernel
theorem dX3_init_98 : decode cX3_init 98 = .ok (.aload_n 0, 1) := by decide +kernel
theorem dX3_init_99 : decode cX3_init 99 = .ok (.bipush 30, 2) := by decide +kernel
theorem dX3_init_101 : decode cX3_init 101 = .ok (.newarray .int, 2) := by decide +kernel
theorem dX3_init_103 : decode cX3_init 103 = .ok (.putfield 46, 3) := by decide +kernel
theorem dX3_init_106 : decode cX3_init 106 = .ok (.iconst 0, 1) := by decide +kernel
theorem dX3_init_107 : decode cX3_init 107 = .ok (.istore_n 1, 1) := by decide +kernel
theorem dX3_init_108 : decode cX3_init 108 = .ok (.iload_n 1, 1) := by decide +kernel
theorem dX3_init_109 : decode cX3_init 109 = .ok (.bipush 60, 2) := by decide +kernel
theorem dX3_init_111 : decode cX3_init 111 = .ok (.if_icmp .ge 29, 3) := by decide +kernel
theorem dX3_init_114 : decode cX3_init 114 = .ok (.aload_n 0, 1) := by decide +kernel
theorem dX3_init_115 : decode cX3_init 115 = .ok (.getfield 7, 3) := by decide +kernel
theorem dX3_init_118 : decode cX3_init 118 = .ok (.iload_n 1, 1) := by decide +kernel
theorem dX3_init_119 : decode cX3_init 119 = .ok (.iload_n 1, 1) := by decide +kernel
theorem dX3_init_120 : decode cX3_init 120 = .ok (.bipush 12, 2) := by decide +kernel
theorem dX3_init_122 : decode cX3_init 122 = .ok (.irem, 1) := by decide +kernel
theorem dX3_init_123 : decode cX3_init 123 = .ok (.iastore, 1) := by decide +kernel
theorem dX3_init_124 : decode cX3_init 124 = .ok (.aload_n 0, 1) := by decide +kernel
theorem dX3_init_125 : decode cX3_init 125 = .ok (.getfield 13, 3) := by decide +kernel
theorem dX3_init_128 : decode cX3_init 128 = .ok (.iload_n 1, 1) := by decide +kernel
theorem dX3_init_129 : decode cX3_init 129 = .ok (.iload_n 1, 1) := by decide +kernel
theorem dX3_init_130 : decode cX3_init 130 = .ok (.bipush 12, 2) := by decide +kernel
theorem dX3_init_132 : decode cX3_init 132 = .ok (.irem, 1) := by decide +kernel
theorem dX3_init_133 : decode cX3_init 133 = .ok (.iastore, 1) := by decide +kernel
theorem dX3_init_134 : decode cX3_init 134 = .ok (.iinc 1 1, 3) := by decide +kernel
theorem dX3_init_137 : decode cX3_init 137 = .ok (.goto (-29), 3) := by decide +kernel
theorem dX3_init_140 : decode cX3_init 140 = .ok (.return_, 1) := by decide +kernel
theorem dX3_thrown_0 : decode cX3_thrown 0 = .ok (.aload_n 0, 1) := by decide +kernel
theorem dX3_thrown_1 : decode cX3_thrown 1 = .ok (.getfield 49, 3) := by decide +kernel
theorem dX3_thrown_4 : decode cX3_thrown 4 = .ok (.ireturn, 1) := by decide +kernel
theorem dX3_refused_0 : decode cX3_refused 0 = .ok (.aload_n 0, 1) := by decide +kernel
theorem dX3_refused_1 : decode cX3_refused 1 = .ok (.iload_n 1, 1) := by decide +kernel
theorem dX3_refused_2 : decode cX3_refused 2 = .ok (.putfield 49, 3) := by decide +kernel
theorem dX3_refused_5 : decode cX3_refused 5 = .ok (.iload_n 1, 1) := by decide +kernel
theorem dX3_refused_6 : decode cX3_refused 6 = .ok (.ifCond .eq 7, 3) := by decide +kernel
theorem dX3_refused_9 : decode cX3_refused 9 = .ok (.iconst 1, 1) := by decide +kernel
theorem dX3_refused_10 : decode cX3_refused 10 = .ok (.goto 4, 3) := by decide +kernel
theorem dX3_refused_13 : decode cX3_refused 13 = .ok (.iconst 0, 1) := by decide +kernel
theorem dX3_refused_14 : decode cX3_refused 14 = .ok (.ireturn, 1) := by decide +kernel
theorem dX3_is_0 : decode cX3_is 0 = .ok (.iload_n 0, 1) := by decide +kernel
theorem dX3_is_1 : decode cX3_is 1 = .ok (.iload_n 1, 1) := by decide +kernel
theorem dX3_is_2 : decode cX3_is 2 = .ok (.if_icmp .lt 12, 3) := by decide +kernel
theorem dX3_is_5 : decode cX3_is 5 = .ok (.iload_n 0, 1) := by decide +kernel
theorem dX3_is_6 : decode cX3_is 6 = .ok (.iload_n 2, 1) := by decide +kernel
theorem dX3_is_7 : decode cX3_is 7 = .ok (.if_icmp .gt 7, 3) := by decide +kernel
theorem dX3_is_10 : decode cX3_is 10 = .ok (.iconst 1, 1) := by decide +kernel
theorem dX3_is_11 : decode cX3_is 11 = .ok (.goto 4, 3) := by decide +kernel
theorem dX3_is_14 : decode cX3_is 14 = .ok (.iconst 0, 1) := by decide +kernel
theorem dX3_is_15 : decode cX3_is 15 = .ok (.ireturn, 1) := by decide +kernel
set_option maxRecDepth 20000 in
theorem ggX3_isStudent_X3_is : GoodIn wsX3_isStudent wsX3_is := goodIn_r _ [5] (by decide +kernel) (by decide +kernel)
set_option maxRecDepth 20000 in
theorem gX3_isStudent_X3_is : GoodIn wsX3_isStudent (va_wsS RX3 56 yX3_is wsX3_is) := goodIn_app (goodIn_of _ (by decide +kernel)) ggX3_isStudent_X3_is
theorem dX3_isStudent_0 : decode cX3_isStudent 0 = .ok (.iload_n 1, 1) := by decide +kernel
theorem dX3_isStudent_1 : decode cX3_isStudent 1 = .ok (.iconst 0, 1) := by decide +kernel
theorem dX3_isStudent_2 : decode cX3_isStudent 2 = .ok (.aload_n 0, 1) := by decide +kernel
theorem dX3_isStudent_3 : decode cX3_isStudent 3 = .ok (.getfield 53, 3) := by decide +kernel
theorem dX3_isStudent_6 : decode cX3_isStudent 6 = .ok (.iconst 1, 1) := by decide +kernel
theorem dX3_isStudent_7 : decode cX3_isStudent 7 = .ok (.isub, 1) := by decide +kernel
theorem dX3_isStudent_8 : decode cX3_isStudent 8 = .ok (.invokestatic 56, 3) := by decide +kernel
theorem dX3_isStudent_11 : decode cX3_isStudent 11 = .ok (.ireturn, 1) := by decide +kernel
set_option maxRecDepth 20000 in
theorem ggX3_isKey_X3_is : GoodIn wsX3_isKey wsX3_is := goodIn_r _ [4] (by decide +kernel) (by decide +kernel)
set_option maxRecDepth 20000 in
theorem gX3_isKey_X3_is : GoodIn wsX3_isKey (va_wsS RX3 56 yX3_is wsX3_is) := goodIn_app (goodIn_of _ (by decide +kernel)) ggX3_isKey_X3_is
theorem dX3_isKey_0 : decode cX3_isKey 0 = .ok (.iload_n 0, 1) := by decide +kernel
theorem dX3_isKey_1 : decode cX3_isKey 1 = .ok (.iconst 0, 1) := by decide +kernel
theorem dX3_isKey_2 : decode cX3_isKey 2 = .ok (.bipush 11, 2) := by decide +kernel
theorem dX3_isKey_4 : decode cX3_isKey 4 = .ok (.invokestatic 56, 3) := by decide +kernel
theorem dX3_isKey_7 : decode cX3_isKey 7 = .ok (.ireturn, 1) := by decide +kernel
theorem dX3_step_0 : decode cX3_step 0 = .ok (.iload_n 0, 1) := by decide +kernel
theorem dX3_step_1 : decode cX3_step 1 = .ok (.iload_n 1, 1) := by decide +kernel
theorem dX3_step_2 : decode cX3_step 2 = .ok (.if_icmp .ne 5, 3) := by decide +kernel
theorem dX3_step_5 : decode cX3_step 5 = .ok (.iconst 3, 1) := by decide +kernel
theorem dX3_step_6 : decode cX3_step 6 = .ok (.ireturn, 1) := by decide +kernel
theorem dX3_step_7 : decode cX3_step 7 = .ok (.iload_n 0, 1) := by decide +kernel
theorem dX3_step_8 : decode cX3_step 8 = .ok (.bipush 6, 2) := by decide +kernel
theorem dX3_step_10 : decode cX3_step 10 = .ok (.irem, 1) := by decide +kernel
theorem dX3_step_11 : decode cX3_step 11 = .ok (.iload_n 1, 1) := by decide +kernel
theorem dX3_step_12 : decode cX3_step 12 = .ok (.bipush 6, 2) := by decide +kernel
theorem dX3_step_14 : decode cX3_step 14 = .ok (.irem, 1) := by decide +kernel
theorem dX3_step_15 : decode cX3_step 15 = .ok (.if_icmp .ne 6, 3) := by decide +kernel
theorem dX3_step_18 : decode cX3_step 18 = .ok (.bipush 7, 2) := by decide +kernel
theorem dX3_step_20 : decode cX3_step 20 = .ok (.ireturn, 1) := by decide +kernel
theorem dX3_step_21 : decode cX3_step 21 = .ok (.iload_n 0, 1) := by decide +kernel
theorem dX3_step_22 : decode cX3_step 22 = .ok (.bipush 6, 2) := by decide +kernel
theorem dX3_step_24 : decode cX3_step 24 = .ok (.irem, 1) := by decide +kernel
theorem dX3_step_25 : decode cX3_step 25 = .ok (.iconst 3, 1) := by decide +kernel
theorem dX3_step_26 : decode cX3_step 26 = .ok (.idiv, 1) := by decide +kernel
theorem dX3_step_27 : decode cX3_step 27 = .ok (.iload_n 1, 1) := by decide +kernel
theorem dX3_step_28 : decode cX3_step 28 = .ok (.bipush 6, 2) := by decide +kernel
theorem dX3_step_30 : decode cX3_step 30 = .ok (.irem, 1) := by decide +kernel
theorem dX3_step_31 : decode cX3_step 31 = .ok (.iconst 3, 1) := by decide +kernel
theorem dX3_step_32 : decode cX3_step 32 = .ok (.idiv, 1) := by decide +kernel
theorem dX3_step_33 : decode cX3_step 33 = .ok (.if_icmp .ne 7, 3) := by decide +kernel
theorem dX3_step_36 : decode cX3_step 36 = .ok (.iconst 4, 1) := by decide +kernel
theorem dX3_step_37 : decode cX3_step 37 = .ok (.goto 4, 3) := by decide +kernel
theorem dX3_step_40 : decode cX3_step 40 = .ok (.iconst 2, 1) := by decide +kernel
theorem dX3_step_41 : decode cX3_step 41 = .ok (.ireturn, 1) := by decide +kernel
theorem dX3_keyWith_0 : decode cX3_keyWith 0 = .ok (.aload_n 0, 1) := by decide +kernel
theorem dX3_keyWith_1 : decode cX3_keyWith 1 = .ok (.getfield 7, 3) := by decide +kernel
theorem dX3_keyWith_4 : decode cX3_keyWith 4 = .ok (.bipush 12, 2) := by decide +kernel
theorem dX3_keyWith_6 : decode cX3_keyWith 6 = .ok (.iload_n 1, 1) := by decide +kernel
theorem dX3_keyWith_7 : decode cX3_keyWith 7 = .ok (.imul, 1) := by decide +kernel
theorem dX3_keyWith_8 : decode cX3_keyWith 8 = .ok (.iload_n 2, 1) := by decide +kernel
theorem dX3_keyWith_9 : decode cX3_keyWith 9 = .ok (.iadd, 1) := by decide +kernel
theorem dX3_keyWith_10 : decode cX3_keyWith 10 = .ok (.iaload, 1) := by decide +kernel
theorem dX3_keyWith_11 : decode cX3_keyWith 11 = .ok (.istore 5, 2) := by decide +kernel
theorem dX3_keyWith_13 : decode cX3_keyWith 13 = .ok (.iload 5, 2) := by decide +kernel
theorem dX3_keyWith_15 : decode cX3_keyWith 15 = .ok (.iload_n 3, 1) := by decide +kernel
theorem dX3_keyWith_16 : decode cX3_keyWith 16 = .ok (.if_icmp .ne 8, 3) := by decide +kernel
theorem dX3_keyWith_19 : decode cX3_keyWith 19 = .ok (.iload 4, 2) := by decide +kernel
theorem dX3_keyWith_21 : decode cX3_keyWith 21 = .ok (.goto 16, 3) := by decide +kernel
theorem dX3_keyWith_24 : decode cX3_keyWith 24 = .ok (.iload 5, 2) := by decide +kernel
theorem dX3_keyWith_26 : decode cX3_keyWith 26 = .ok (.iload 4, 2) := by decide +kernel
theorem dX3_keyWith_28 : decode cX3_keyWith 28 = .ok (.if_icmp .ne 7, 3) := by decide +kernel
theorem dX3_keyWith_31 : decode cX3_keyWith 31 = .ok (.iload_n 3, 1) := by decide +kernel
theorem dX3_keyWith_32 : decode cX3_keyWith 32 = .ok (.goto 5, 3) := by decide +kernel
theorem dX3_keyWith_35 : decode cX3_keyWith 35 = .ok (.iload 5, 2) := by decide +kernel
theorem dX3_keyWith_37 : decode cX3_keyWith 37 = .ok (.ireturn, 1) := by decide +kernel
set_option maxRecDepth 20000 in
theorem ggX3_timeWith_X3_keyWith : GoodIn wsX3_timeWith wsX3_keyWith := goodIn_r _ [7, 8, 12, 13, 14, 15, 16, 17, 18, 19, 20, 21, 22, 23, 24, 25, 26, 27, 28] (by decide +kernel) (by decide +kernel)
set_option maxRecDepth 20000 in
theorem gX3_timeWith_X3_keyWith : GoodIn wsX3_timeWith (wsV RX3 60 RX3 yX3_keyWith wsX3_keyWith) := goodIn_app (goodIn_of _ (by decide +kernel)) ggX3_timeWith_X3_keyWith
set_option maxRecDepth 20000 in
theorem ggX3_timeWith_X3_step : GoodIn wsX3_timeWith wsX3_step := goodIn_r _ [11] (by decide +kernel) (by decide +kernel)
set_option maxRecDepth 20000 in
theorem gX3_timeWith_X3_step : GoodIn wsX3_timeWith (va_wsS RX3 64 yX3_step wsX3_step) := goodIn_app (goodIn_of _ (by decide +kernel)) ggX3_timeWith_X3_step
theorem dX3_timeWith_0 : decode cX3_timeWith 0 = .ok (.aload_n 0, 1) := by decide +kernel
theorem dX3_timeWith_1 : decode cX3_timeWith 1 = .ok (.getfield 31, 3) := by decide +kernel
theorem dX3_timeWith_4 : decode cX3_timeWith 4 = .ok (.iload_n 1, 1) := by decide +kernel
theorem dX3_timeWith_5 : decode cX3_timeWith 5 = .ok (.iaload, 1) := by decide +kernel
theorem dX3_timeWith_6 : decode cX3_timeWith 6 = .ok (.ifCond .ne 7, 3) := by decide +kernel
theorem dX3_timeWith_9 : decode cX3_timeWith 9 = .ok (.iconst 0, 1) := by decide +kernel
theorem dX3_timeWith_10 : decode cX3_timeWith 10 = .ok (.goto 4, 3) := by decide +kernel
theorem dX3_timeWith_13 : decode cX3_timeWith 13 = .ok (.iconst 2, 1) := by decide +kernel
theorem dX3_timeWith_14 : decode cX3_timeWith 14 = .ok (.istore 4, 2) := by decide +kernel
theorem dX3_timeWith_16 : decode cX3_timeWith 16 = .ok (.iconst 1, 1) := by decide +kernel
theorem dX3_timeWith_17 : decode cX3_timeWith 17 = .ok (.istore 5, 2) := by decide +kernel
theorem dX3_timeWith_19 : decode cX3_timeWith 19 = .ok (.iload 5, 2) := by decide +kernel
theorem dX3_timeWith_21 : decode cX3_timeWith 21 = .ok (.aload_n 0, 1) := by decide +kernel
theorem dX3_timeWith_22 : decode cX3_timeWith 22 = .ok (.getfield 31, 3) := by decide +kernel
theorem dX3_timeWith_25 : decode cX3_timeWith 25 = .ok (.iload_n 1, 1) := by decide +kernel
theorem dX3_timeWith_26 : decode cX3_timeWith 26 = .ok (.iaload, 1) := by decide +kernel
theorem dX3_timeWith_27 : decode cX3_timeWith 27 = .ok (.if_icmp .ge 61, 3) := by decide +kernel
theorem dX3_timeWith_30 : decode cX3_timeWith 30 = .ok (.aload_n 0, 1) := by decide +kernel
theorem dX3_timeWith_31 : decode cX3_timeWith 31 = .ok (.iload_n 1, 1) := by decide +kernel
theorem dX3_timeWith_32 : decode cX3_timeWith 32 = .ok (.aload_n 0, 1) := by decide +kernel
theorem dX3_timeWith_33 : decode cX3_timeWith 33 = .ok (.getfield 34, 3) := by decide +kernel
theorem dX3_timeWith_36 : decode cX3_timeWith 36 = .ok (.bipush 30, 2) := by decide +kernel
theorem dX3_timeWith_38 : decode cX3_timeWith 38 = .ok (.iload_n 1, 1) := by decide +kernel
theorem dX3_timeWith_39 : decode cX3_timeWith 39 = .ok (.imul, 1) := by decide +kernel
theorem dX3_timeWith_40 : decode cX3_timeWith 40 = .ok (.iload 5, 2) := by decide +kernel
theorem dX3_timeWith_42 : decode cX3_timeWith 42 = .ok (.iadd, 1) := by decide +kernel
theorem dX3_timeWith_43 : decode cX3_timeWith 43 = .ok (.iconst 1, 1) := by decide +kernel
theorem dX3_timeWith_44 : decode cX3_timeWith 44 = .ok (.isub, 1) := by decide +kernel
theorem dX3_timeWith_45 : decode cX3_timeWith 45 = .ok (.iaload, 1) := by decide +kernel
theorem dX3_timeWith_46 : decode cX3_timeWith 46 = .ok (.iload_n 2, 1) := by decide +kernel
theorem dX3_timeWith_47 : decode cX3_timeWith 47 = .ok (.iload_n 3, 1) := by decide +kernel
theorem dX3_timeWith_48 : decode cX3_timeWith 48 = .ok (.invokevirtual 60, 3) := by decide +kernel
theorem dX3_timeWith_51 : decode cX3_timeWith 51 = .ok (.istore 6, 2) := by decide +kernel
theorem dX3_timeWith_53 : decode cX3_timeWith 53 = .ok (.iload 4, 2) := by decide +kernel
theorem dX3_timeWith_55 : decode cX3_timeWith 55 = .ok (.iload 6, 2) := by decide +kernel
theorem dX3_timeWith_57 : decode cX3_timeWith 57 = .ok (.aload_n 0, 1) := by decide +kernel
theorem dX3_timeWith_58 : decode cX3_timeWith 58 = .ok (.iload_n 1, 1) := by decide +kernel
theorem dX3_timeWith_59 : decode cX3_timeWith 59 = .ok (.aload_n 0, 1) := by decide +kernel
theorem dX3_timeWith_60 : decode cX3_timeWith 60 = .ok (.getfield 34, 3) := by decide +kernel
theorem dX3_timeWith_63 : decode cX3_timeWith 63 = .ok (.bipush 30, 2) := by decide +kernel
theorem dX3_timeWith_65 : decode cX3_timeWith 65 = .ok (.iload_n 1, 1) := by decide +kernel
theorem dX3_timeWith_66 : decode cX3_timeWith 66 = .ok (.imul, 1) := by decide +kernel
theorem dX3_timeWith_67 : decode cX3_timeWith 67 = .ok (.iload 5, 2) := by decide +kernel
theorem dX3_timeWith_69 : decode cX3_timeWith 69 = .ok (.iadd, 1) := by decide +kernel
theorem dX3_timeWith_70 : decode cX3_timeWith 70 = .ok (.iaload, 1) := by decide +kernel
theorem dX3_timeWith_71 : decode cX3_timeWith 71 = .ok (.iload_n 2, 1) := by decide +kernel
theorem dX3_timeWith_72 : decode cX3_timeWith 72 = .ok (.iload_n 3, 1) := by decide +kernel
theorem dX3_timeWith_73 : decode cX3_timeWith 73 = .ok (.invokevirtual 60, 3) := by decide +kernel
theorem dX3_timeWith_76 : decode cX3_timeWith 76 = .ok (.invokestatic 64, 3) := by decide +kernel
theorem dX3_timeWith_79 : decode cX3_timeWith 79 = .ok (.iadd, 1) := by decide +kernel
theorem dX3_timeWith_80 : decode cX3_timeWith 80 = .ok (.istore 4, 2) := by decide +kernel
theorem dX3_timeWith_82 : decode cX3_timeWith 82 = .ok (.iinc 5 1, 3) := by decide +kernel
theorem dX3_timeWith_85 : decode cX3_timeWith 85 = .ok (.goto (-66), 3) := by decide +kernel
theorem dX3_timeWith_88 : decode cX3_timeWith 88 = .ok (.iload 4, 2) := by decide +kernel
theorem dX3_timeWith_90 : decode cX3_timeWith 90 = .ok (.ireturn, 1) := by decide +kernel
set_option maxRecDepth 20000 in
theorem ggX3_saved_X3_timeWith : GoodIn wsX3_saved wsX3_timeWith := goodIn_r _ [5, 6, 7, 8, 9, 10, 4, 11, 12, 13, 14, 15, 16, 17, 18, 19, 20, 21, 22, 23, 24, 25, 26, 27, 28, 29, 30, 31, 32] (by decide +kernel) (by decide +kernel)
set_option maxRecDepth 20000 in
theorem gX3_saved_X3_timeWith : GoodIn wsX3_saved (wsV RX3 68 RX3 yX3_timeWith wsX3_timeWith) := goodIn_app (goodIn_of _ (by decide +kernel)) ggX3_saved_X3_timeWith
theorem dX3_saved_0 : decode cX3_saved 0 = .ok (.aload_n 0, 1) := by decide +kernel
theorem dX3_saved_1 : decode cX3_saved 1 = .ok (.iload_n 1, 1) := by decide +kernel
theorem dX3_saved_2 : decode cX3_saved 2 = .ok (.iconst 0, 1) := by decide +kernel
theorem dX3_saved_3 : decode cX3_saved 3 = .ok (.iconst 0, 1) := by decide +kernel
theorem dX3_saved_4 : decode cX3_saved 4 = .ok (.invokevirtual 68, 3) := by decide +kernel
theorem dX3_saved_7 : decode cX3_saved 7 = .ok (.aload_n 0, 1) := by decide +kernel
theorem dX3_saved_8 : decode cX3_saved 8 = .ok (.iload_n 1, 1) := by decide +kernel
theorem dX3_saved_9 : decode cX3_saved 9 = .ok (.iload_n 2, 1) := by decide +kernel
theorem dX3_saved_10 : decode cX3_saved 10 = .ok (.iload_n 3, 1) := by decide +kernel
theorem dX3_saved_11 : decode cX3_saved 11 = .ok (.invokevirtual 68, 3) := by decide +kernel
theorem dX3_saved_14 : decode cX3_saved 14 = .ok (.isub, 1) := by decide +kernel
theorem dX3_saved_15 : decode cX3_saved 15 = .ok (.ireturn, 1) := by decide +kernel
set_option maxRecDepth 20000 in
theorem ggX3_student_X3_refused : GoodIn wsX3_student wsX3_refused := goodIn_r _ [7, 8, 9, 10, 11, 12, 13, 14, 15, 16, 17, 18, 19, 20, 21, 22, 23, 24, 25] (by decide +kernel) (by decide +kernel)
set_option maxRecDepth 20000 in
theorem gX3_student_X3_refused : GoodIn wsX3_student (wsV RX3 72 RX3 yX3_refused wsX3_refused) := goodIn_app (goodIn_of _ (by decide +kernel)) ggX3_student_X3_refused
theorem dX3_student_0 : decode cX3_student 0 = .ok (.aload_n 0, 1) := by decide +kernel
theorem dX3_student_1 : decode cX3_student 1 = .ok (.aload_n 0, 1) := by decide +kernel
theorem dX3_student_2 : decode cX3_student 2 = .ok (.getfield 53, 3) := by decide +kernel
theorem dX3_student_5 : decode cX3_student 5 = .ok (.iconst 5, 1) := by decide +kernel
theorem dX3_student_6 : decode cX3_student 6 = .ok (.if_icmp .ne 7, 3) := by decide +kernel
theorem dX3_student_9 : decode cX3_student 9 = .ok (.iconst 1, 1) := by decide +kernel
theorem dX3_student_10 : decode cX3_student 10 = .ok (.goto 4, 3) := by decide +kernel
theorem dX3_student_13 : decode cX3_student 13 = .ok (.iconst 0, 1) := by decide +kernel
theorem dX3_student_14 : decode cX3_student 14 = .ok (.invokevirtual 72, 3) := by decide +kernel
theorem dX3_student_17 : decode cX3_student 17 = .ok (.ifCond .eq 5, 3) := by decide +kernel
theorem dX3_student_20 : decode cX3_student 20 = .ok (.iconst 0, 1) := by decide +kernel
theorem dX3_student_21 : decode cX3_student 21 = .ok (.ireturn, 1) := by decide +kernel
theorem dX3_student_22 : decode cX3_student 22 = .ok (.aload_n 0, 1) := by decide +kernel
theorem dX3_student_23 : decode cX3_student 23 = .ok (.getfield 28, 3) := by decide +kernel
theorem dX3_student_26 : decode cX3_student 26 = .ok (.aload_n 0, 1) := by decide +kernel
theorem dX3_student_27 : decode cX3_student 27 = .ok (.getfield 53, 3) := by decide +kernel
theorem dX3_student_30 : decode cX3_student 30 = .ok (.iconst (-1), 1) := by decide +kernel
theorem dX3_student_31 : decode cX3_student 31 = .ok (.iastore, 1) := by decide +kernel
theorem dX3_student_32 : decode cX3_student 32 = .ok (.aload_n 0, 1) := by decide +kernel
theorem dX3_student_33 : decode cX3_student 33 = .ok (.dup, 1) := by decide +kernel
theorem dX3_student_34 : decode cX3_student 34 = .ok (.getfield 53, 3) := by decide +kernel
theorem dX3_student_37 : decode cX3_student 37 = .ok (.iconst 1, 1) := by decide +kernel
theorem dX3_student_38 : decode cX3_student 38 = .ok (.iadd, 1) := by decide +kernel
theorem dX3_student_39 : decode cX3_student 39 = .ok (.putfield 53, 3) := by decide +kernel
theorem dX3_student_42 : decode cX3_student 42 = .ok (.aload_n 0, 1) := by decide +kernel
theorem dX3_student_43 : decode cX3_student 43 = .ok (.getfield 53, 3) := by decide +kernel
theorem dX3_student_46 : decode cX3_student 46 = .ok (.iconst 1, 1) := by decide +kernel
theorem dX3_student_47 : decode cX3_student 47 = .ok (.isub, 1) := by decide +kernel
theorem dX3_student_48 : decode cX3_student 48 = .ok (.ireturn, 1) := by decide +kernel
set_option maxRecDepth 20000 in
theorem ggX3_carry_X3_isStudent : GoodIn wsX3_carry wsX3_isStudent := goodIn_r _ [6, 7, 8, 9, 5, 10, 16, 17, 18, 19, 20, 21, 22, 23, 24, 25, 26, 27, 28, 29, 30, 31, 32] (by decide +kernel) (by decide +kernel)
set_option maxRecDepth 20000 in
theorem gX3_carry_X3_isStudent : GoodIn wsX3_carry (wsV RX3 76 RX3 yX3_isStudent wsX3_isStudent) := goodIn_app (goodIn_of _ (by decide +kernel)) ggX3_carry_X3_isStudent
set_option maxRecDepth 20000 in
theorem ggX3_carry_X3_is : GoodIn wsX3_carry wsX3_is := goodIn_r _ [10] (by decide +kernel) (by decide +kernel)
set_option maxRecDepth 20000 in
theorem gX3_carry_X3_is : GoodIn wsX3_carry (va_wsS RX3 56 yX3_is wsX3_is) := goodIn_app (goodIn_of _ (by decide +kernel)) ggX3_carry_X3_is
set_option maxRecDepth 20000 in
theorem ggX3_carry_X3_refused : GoodIn wsX3_carry wsX3_refused := goodIn_r _ [14, 15, 16, 17, 18, 19, 20, 21, 22, 23, 24, 25, 26, 27, 28, 29, 30, 31, 32] (by decide +kernel) (by decide +kernel)
set_option maxRecDepth 20000 in
theorem gX3_carry_X3_refused : GoodIn wsX3_carry (wsV RX3 72 RX3 yX3_refused wsX3_refused) := goodIn_app (goodIn_of _ (by decide +kernel)) ggX3_carry_X3_refused
theorem dX3_carry_0 : decode cX3_carry 0 = .ok (.aload_n 0, 1) := by decide +kernel
theorem dX3_carry_1 : decode cX3_carry 1 = .ok (.aload_n 0, 1) := by decide +kernel
theorem dX3_carry_2 : decode cX3_carry 2 = .ok (.iload_n 1, 1) := by decide +kernel
theorem dX3_carry_3 : decode cX3_carry 3 = .ok (.invokevirtual 76, 3) := by decide +kernel
theorem dX3_carry_6 : decode cX3_carry 6 = .ok (.ifCond .ne 7, 3) := by decide +kernel
theorem dX3_carry_9 : decode cX3_carry 9 = .ok (.iconst 1, 1) := by decide +kernel
theorem dX3_carry_10 : decode cX3_carry 10 = .ok (.goto 17, 3) := by decide +kernel
theorem dX3_carry_13 : decode cX3_carry 13 = .ok (.iload_n 2, 1) := by decide +kernel
theorem dX3_carry_14 : decode cX3_carry 14 = .ok (.iconst 0, 1) := by decide +kernel
theorem dX3_carry_15 : decode cX3_carry 15 = .ok (.iconst 1, 1) := by decide +kernel
theorem dX3_carry_16 : decode cX3_carry 16 = .ok (.invokestatic 56, 3) := by decide +kernel
theorem dX3_carry_19 : decode cX3_carry 19 = .ok (.ifCond .ne 7, 3) := by decide +kernel
theorem dX3_carry_22 : decode cX3_carry 22 = .ok (.iconst 2, 1) := by decide +kernel
theorem dX3_carry_23 : decode cX3_carry 23 = .ok (.goto 4, 3) := by decide +kernel
theorem dX3_carry_26 : decode cX3_carry 26 = .ok (.iconst 0, 1) := by decide +kernel
theorem dX3_carry_27 : decode cX3_carry 27 = .ok (.invokevirtual 72, 3) := by decide +kernel
theorem dX3_carry_30 : decode cX3_carry 30 = .ok (.ifCond .eq 5, 3) := by decide +kernel
theorem dX3_carry_33 : decode cX3_carry 33 = .ok (.iconst 0, 1) := by decide +kernel
theorem dX3_carry_34 : decode cX3_carry 34 = .ok (.ireturn, 1) := by decide +kernel
theorem dX3_carry_35 : decode cX3_carry 35 = .ok (.aload_n 0, 1) := by decide +kernel
theorem dX3_carry_36 : decode cX3_carry 36 = .ok (.getfield 16, 3) := by decide +kernel
theorem dX3_carry_39 : decode cX3_carry 39 = .ok (.iload_n 1, 1) := by decide +kernel
theorem dX3_carry_40 : decode cX3_carry 40 = .ok (.iaload, 1) := by decide +kernel
theorem dX3_carry_41 : decode cX3_carry 41 = .ok (.istore_n 3, 1) := by decide +kernel
theorem dX3_carry_42 : decode cX3_carry 42 = .ok (.aload_n 0, 1) := by decide +kernel
theorem dX3_carry_43 : decode cX3_carry 43 = .ok (.getfield 16, 3) := by decide +kernel
theorem dX3_carry_46 : decode cX3_carry 46 = .ok (.iload_n 1, 1) := by decide +kernel
theorem dX3_carry_47 : decode cX3_carry 47 = .ok (.iload_n 2, 1) := by decide +kernel
theorem dX3_carry_48 : decode cX3_carry 48 = .ok (.iastore, 1) := by decide +kernel
theorem dX3_carry_49 : decode cX3_carry 49 = .ok (.iload_n 3, 1) := by decide +kernel
theorem dX3_carry_50 : decode cX3_carry 50 = .ok (.ireturn, 1) := by decide +kernel
set_option maxRecDepth 20000 in
theorem ggX3_why_X3_isStudent : GoodIn wsX3_why wsX3_isStudent := goodIn_r _ [5, 6, 7, 8, 4, 9, 13, 14, 15, 16, 17, 18, 19, 20, 21, 22, 23, 24, 25, 26, 27, 28, 29] (by decide +kernel) (by decide +kernel)
set_option maxRecDepth 20000 in
theorem gX3_why_X3_isStudent : GoodIn wsX3_why (wsV RX3 76 RX3 yX3_isStudent wsX3_isStudent) := goodIn_app (goodIn_of _ (by decide +kernel)) ggX3_why_X3_isStudent
set_option maxRecDepth 20000 in
theorem ggX3_why_X3_isKey : GoodIn wsX3_why wsX3_isKey := goodIn_r _ [12, 7, 8, 4, 9] (by decide +kernel) (by decide +kernel)
set_option maxRecDepth 20000 in
theorem gX3_why_X3_isKey : GoodIn wsX3_why (va_wsS RX3 79 yX3_isKey wsX3_isKey) := goodIn_app (goodIn_of _ (by decide +kernel)) ggX3_why_X3_isKey
theorem dX3_why_0 : decode cX3_why 0 = .ok (.aload_n 0, 1) := by decide +kernel
theorem dX3_why_1 : decode cX3_why 1 = .ok (.iload_n 1, 1) := by decide +kernel
theorem dX3_why_2 : decode cX3_why 2 = .ok (.invokevirtual 76, 3) := by decide +kernel
theorem dX3_why_5 : decode cX3_why 5 = .ok (.ifCond .eq 21, 3) := by decide +kernel
theorem dX3_why_8 : decode cX3_why 8 = .ok (.iload_n 2, 1) := by decide +kernel
theorem dX3_why_9 : decode cX3_why 9 = .ok (.invokestatic 79, 3) := by decide +kernel
theorem dX3_why_12 : decode cX3_why 12 = .ok (.ifCond .eq 14, 3) := by decide +kernel
theorem dX3_why_15 : decode cX3_why 15 = .ok (.iload_n 3, 1) := by decide +kernel
theorem dX3_why_16 : decode cX3_why 16 = .ok (.invokestatic 79, 3) := by decide +kernel
theorem dX3_why_19 : decode cX3_why 19 = .ok (.ifCond .eq 7, 3) := by decide +kernel
theorem dX3_why_22 : decode cX3_why 22 = .ok (.iconst 1, 1) := by decide +kernel
theorem dX3_why_23 : decode cX3_why 23 = .ok (.goto 4, 3) := by decide +kernel
theorem dX3_why_26 : decode cX3_why 26 = .ok (.iconst 0, 1) := by decide +kernel
theorem dX3_why_27 : decode cX3_why 27 = .ok (.istore 4, 2) := by decide +kernel
theorem dX3_why_29 : decode cX3_why 29 = .ok (.iload 4, 2) := by decide +kernel
theorem dX3_why_31 : decode cX3_why 31 = .ok (.ifCond .ne 7, 3) := by decide +kernel
theorem dX3_why_34 : decode cX3_why 34 = .ok (.iconst 1, 1) := by decide +kernel
theorem dX3_why_35 : decode cX3_why 35 = .ok (.goto 13, 3) := by decide +kernel
theorem dX3_why_38 : decode cX3_why 38 = .ok (.iload_n 2, 1) := by decide +kernel
theorem dX3_why_39 : decode cX3_why 39 = .ok (.iload_n 3, 1) := by decide +kernel
theorem dX3_why_40 : decode cX3_why 40 = .ok (.if_icmp .ne 7, 3) := by decide +kernel
theorem dX3_why_43 : decode cX3_why 43 = .ok (.iconst 2, 1) := by decide +kernel
theorem dX3_why_44 : decode cX3_why 44 = .ok (.goto 4, 3) := by decide +kernel
theorem dX3_why_47 : decode cX3_why 47 = .ok (.iconst 0, 1) := by decide +kernel
theorem dX3_why_48 : decode cX3_why 48 = .ok (.ireturn, 1) := by decide +kernel
set_option maxRecDepth 20000 in
theorem ggX3_swap_X3_why : GoodIn wsX3_swap wsX3_why := goodIn_r _ [9, 10, 11, 12, 8, 13, 14, 15, 16, 17, 18, 19, 20, 43, 44, 45, 46, 47, 48, 49, 50, 51, 52, 53, 54, 55, 56, 57, 58, 59] (by decide +kernel) (by decide +kernel)
set_option maxRecDepth 20000 in
theorem gX3_swap_X3_why : GoodIn wsX3_swap (wsV RX3 82 RX3 yX3_why wsX3_why) := goodIn_app (goodIn_of _ (by decide +kernel)) ggX3_swap_X3_why
set_option maxRecDepth 20000 in
theorem ggX3_swap_X3_refused : GoodIn wsX3_swap wsX3_refused := goodIn_r _ [24, 25, 43, 44, 45, 46, 47, 48, 49, 50, 51, 52, 53, 54, 55, 56, 57, 58, 59] (by decide +kernel) (by decide +kernel)
set_option maxRecDepth 20000 in
theorem gX3_swap_X3_refused : GoodIn wsX3_swap (wsV RX3 72 RX3 yX3_refused wsX3_refused) := goodIn_app (goodIn_of _ (by decide +kernel)) ggX3_swap_X3_refused
set_option maxRecDepth 20000 in
theorem ggX3_swap_X3_saved : GoodIn wsX3_swap wsX3_saved := goodIn_r _ [29, 30, 31, 32, 8, 33, 34, 35, 36, 37, 38, 39, 2, 40, 41, 42, 43, 44, 45, 46, 47, 48, 49, 50, 51, 52, 53, 54, 55, 56, 57, 58, 59] (by decide +kernel) (by decide +kernel)
set_option maxRecDepth 20000 in
theorem gX3_swap_X3_saved : GoodIn wsX3_swap (wsV RX3 85 RX3 yX3_saved wsX3_saved) := goodIn_app (goodIn_of _ (by decide +kernel)) ggX3_swap_X3_saved
theorem dX3_swap_0 : decode cX3_swap 0 = .ok (.aload_n 0, 1) := by decide +kernel
theorem dX3_swap_1 : decode cX3_swap 1 = .ok (.aload_n 0, 1) := by decide +kernel
theorem dX3_swap_2 : decode cX3_swap 2 = .ok (.iload_n 1, 1) := by decide +kernel
theorem dX3_swap_3 : decode cX3_swap 3 = .ok (.iload_n 2, 1) := by decide +kernel
theorem dX3_swap_4 : decode cX3_swap 4 = .ok (.iload_n 3, 1) := by decide +kernel
theorem dX3_swap_5 : decode cX3_swap 5 = .ok (.invokevirtual 82, 3) := by decide +kernel
theorem dX3_swap_8 : decode cX3_swap 8 = .ok (.invokevirtual 72, 3) := by decide +kernel
theorem dX3_swap_11 : decode cX3_swap 11 = .ok (.ifCond .eq 5, 3) := by decide +kernel
theorem dX3_swap_14 : decode cX3_swap 14 = .ok (.iconst 0, 1) := by decide +kernel
theorem dX3_swap_15 : decode cX3_swap 15 = .ok (.ireturn, 1) := by decide +kernel
theorem dX3_swap_16 : decode cX3_swap 16 = .ok (.aload_n 0, 1) := by decide +kernel
theorem dX3_swap_17 : decode cX3_swap 17 = .ok (.iload_n 1, 1) := by decide +kernel
theorem dX3_swap_18 : decode cX3_swap 18 = .ok (.iload_n 2, 1) := by decide +kernel
theorem dX3_swap_19 : decode cX3_swap 19 = .ok (.iload_n 3, 1) := by decide +kernel
theorem dX3_swap_20 : decode cX3_swap 20 = .ok (.invokevirtual 85, 3) := by decide +kernel
theorem dX3_swap_23 : decode cX3_swap 23 = .ok (.istore 4, 2) := by decide +kernel
theorem dX3_swap_25 : decode cX3_swap 25 = .ok (.bipush 12, 2) := by decide +kernel
theorem dX3_swap_27 : decode cX3_swap 27 = .ok (.iload_n 1, 1) := by decide +kernel
theorem dX3_swap_28 : decode cX3_swap 28 = .ok (.imul, 1) := by decide +kernel
theorem dX3_swap_29 : decode cX3_swap 29 = .ok (.istore 5, 2) := by decide +kernel
theorem dX3_swap_31 : decode cX3_swap 31 = .ok (.aload_n 0, 1) := by decide +kernel
theorem dX3_swap_32 : decode cX3_swap 32 = .ok (.getfield 13, 3) := by decide +kernel
theorem dX3_swap_35 : decode cX3_swap 35 = .ok (.iload 5, 2) := by decide +kernel
theorem dX3_swap_37 : decode cX3_swap 37 = .ok (.iload_n 2, 1) := by decide +kernel
theorem dX3_swap_38 : decode cX3_swap 38 = .ok (.iadd, 1) := by decide +kernel
theorem dX3_swap_39 : decode cX3_swap 39 = .ok (.iaload, 1) := by decide +kernel
theorem dX3_swap_40 : decode cX3_swap 40 = .ok (.istore 6, 2) := by decide +kernel
theorem dX3_swap_42 : decode cX3_swap 42 = .ok (.aload_n 0, 1) := by decide +kernel
theorem dX3_swap_43 : decode cX3_swap 43 = .ok (.getfield 13, 3) := by decide +kernel
theorem dX3_swap_46 : decode cX3_swap 46 = .ok (.iload 5, 2) := by decide +kernel
theorem dX3_swap_48 : decode cX3_swap 48 = .ok (.iload_n 2, 1) := by decide +kernel
theorem dX3_swap_49 : decode cX3_swap 49 = .ok (.iadd, 1) := by decide +kernel
theorem dX3_swap_50 : decode cX3_swap 50 = .ok (.aload_n 0, 1) := by decide +kernel
theorem dX3_swap_51 : decode cX3_swap 51 = .ok (.getfield 13, 3) := by decide +kernel
theorem dX3_swap_54 : decode cX3_swap 54 = .ok (.iload 5, 2) := by decide +kernel
theorem dX3_swap_56 : decode cX3_swap 56 = .ok (.iload_n 3, 1) := by decide +kernel
theorem dX3_swap_57 : decode cX3_swap 57 = .ok (.iadd, 1) := by decide +kernel
theorem dX3_swap_58 : decode cX3_swap 58 = .ok (.iaload, 1) := by decide +kernel
theorem dX3_swap_59 : decode cX3_swap 59 = .ok (.iastore, 1) := by decide +kernel
theorem dX3_swap_60 : decode cX3_swap 60 = .ok (.aload_n 0, 1) := by decide +kernel
theorem dX3_swap_61 : decode cX3_swap 61 = .ok (.getfield 13, 3) := by decide +kernel
theorem dX3_swap_64 : decode cX3_swap 64 = .ok (.iload 5, 2) := by decide +kernel
theorem dX3_swap_66 : decode cX3_swap 66 = .ok (.iload_n 3, 1) := by decide +kernel
theorem dX3_swap_67 : decode cX3_swap 67 = .ok (.iadd, 1) := by decide +kernel
theorem dX3_swap_68 : decode cX3_swap 68 = .ok (.iload 6, 2) := by decide +kernel
theorem dX3_swap_70 : decode cX3_swap 70 = .ok (.iastore, 1) := by decide +kernel
theorem dX3_swap_71 : decode cX3_swap 71 = .ok (.aload_n 0, 1) := by decide +kernel
theorem dX3_swap_72 : decode cX3_swap 72 = .ok (.getfield 7, 3) := by decide +kernel
theorem dX3_swap_75 : decode cX3_swap 75 = .ok (.iload 5, 2) := by decide +kernel
theorem dX3_swap_77 : decode cX3_swap 77 = .ok (.aload_n 0, 1) := by decide +kernel
theorem dX3_swap_78 : decode cX3_swap 78 = .ok (.getfield 13, 3) := by decide +kernel
theorem dX3_swap_81 : decode cX3_swap 81 = .ok (.iload 5, 2) := by decide +kernel
theorem dX3_swap_83 : decode cX3_swap 83 = .ok (.iload_n 2, 1) := by decide +kernel
theorem dX3_swap_84 : decode cX3_swap 84 = .ok (.iadd, 1) := by decide +kernel
theorem dX3_swap_85 : decode cX3_swap 85 = .ok (.iaload, 1) := by decide +kernel
theorem dX3_swap_86 : decode cX3_swap 86 = .ok (.iadd, 1) := by decide +kernel
theorem dX3_swap_87 : decode cX3_swap 87 = .ok (.iload_n 2, 1) := by decide +kernel
theorem dX3_swap_88 : decode cX3_swap 88 = .ok (.iastore, 1) := by decide +kernel
theorem dX3_swap_89 : decode cX3_swap 89 = .ok (.aload_n 0, 1) := by decide +kernel
theorem dX3_swap_90 : decode cX3_swap 90 = .ok (.getfield 7, 3) := by decide +kernel
theorem dX3_swap_93 : decode cX3_swap 93 = .ok (.iload 5, 2) := by decide +kernel
theorem dX3_swap_95 : decode cX3_swap 95 = .ok (.iload 6, 2) := by decide +kernel
theorem dX3_swap_97 : decode cX3_swap 97 = .ok (.iadd, 1) := by decide +kernel
theorem dX3_swap_98 : decode cX3_swap 98 = .ok (.iload_n 3, 1) := by decide +kernel
theorem dX3_swap_99 : decode cX3_swap 99 = .ok (.iastore, 1) := by decide +kernel
theorem dX3_swap_100 : decode cX3_swap 100 = .ok (.aload_n 0, 1) := by decide +kernel
theorem dX3_swap_101 : decode cX3_swap 101 = .ok (.getfield 16, 3) := by decide +kernel
theorem dX3_swap_104 : decode cX3_swap 104 = .ok (.iload_n 1, 1) := by decide +kernel
theorem dX3_swap_105 : decode cX3_swap 105 = .ok (.iaload, 1) := by decide +kernel
theorem dX3_swap_106 : decode cX3_swap 106 = .ok (.iconst 1, 1) := by decide +kernel
theorem dX3_swap_107 : decode cX3_swap 107 = .ok (.if_icmp .ne 43, 3) := by decide +kernel
theorem dX3_swap_110 : decode cX3_swap 110 = .ok (.aload_n 0, 1) := by decide +kernel
theorem dX3_swap_111 : decode cX3_swap 111 = .ok (.getfield 19, 3) := by decide +kernel
theorem dX3_swap_114 : decode cX3_swap 114 = .ok (.iload 5, 2) := by decide +kernel
theorem dX3_swap_116 : decode cX3_swap 116 = .ok (.iload_n 2, 1) := by decide +kernel
theorem dX3_swap_117 : decode cX3_swap 117 = .ok (.iadd, 1) := by decide +kernel
theorem dX3_swap_118 : decode cX3_swap 118 = .ok (.iaload, 1) := by decide +kernel
theorem dX3_swap_119 : decode cX3_swap 119 = .ok (.istore 7, 2) := by decide +kernel
theorem dX3_swap_121 : decode cX3_swap 121 = .ok (.aload_n 0, 1) := by decide +kernel
theorem dX3_swap_122 : decode cX3_swap 122 = .ok (.getfield 19, 3) := by decide +kernel
theorem dX3_swap_125 : decode cX3_swap 125 = .ok (.iload 5, 2) := by decide +kernel
theorem dX3_swap_127 : decode cX3_swap 127 = .ok (.iload_n 2, 1) := by decide +kernel
theorem dX3_swap_128 : decode cX3_swap 128 = .ok (.iadd, 1) := by decide +kernel
end
section
theorem dX3_swap_129 : decode cX3_swap 129 = .ok (.aload_n 0, 1) := by decide +kernel
theorem dX3_swap_130 : decode cX3_swap 130 = .ok (.getfield 19, 3) := by decide +kernel
theorem dX3_swap_133 : decode cX3_swap 133 = .ok (.iload 5, 2) := by decide +kernel
theorem dX3_swap_135 : decode cX3_swap 135 = .ok (.iload_n 3, 1) := by decide +kernel
theorem dX3_swap_136 : decode cX3_swap 136 = .ok (.iadd, 1) := by decide +kernel
theorem dX3_swap_137 : decode cX3_swap 137 = .ok (.iaload, 1) := by decide +kernel
theorem dX3_swap_138 : decode cX3_swap 138 = .ok (.iastore, 1) := by decide +kernel
theorem dX3_swap_139 : decode cX3_swap 139 = .ok (.aload_n 0, 1) := by decide +kernel
theorem dX3_swap_140 : decode cX3_swap 140 = .ok (.getfield 19, 3) := by decide +kernel
theorem dX3_swap_143 : decode cX3_swap 143 = .ok (.iload 5, 2) := by decide +kernel
theorem dX3_swap_145 : decode cX3_swap 145 = .ok (.iload_n 3, 1) := by decide +kernel
theorem dX3_swap_146 : decode cX3_swap 146 = .ok (.iadd, 1) := by decide +kernel
theorem dX3_swap_147 : decode cX3_swap 147 = .ok (.iload 7, 2) := by decide +kernel
theorem dX3_swap_149 : decode cX3_swap 149 = .ok (.iastore, 1) := by decide +kernel
theorem dX3_swap_150 : decode cX3_swap 150 = .ok (.iload 4, 2) := by decide +kernel
theorem dX3_swap_152 : decode cX3_swap 152 = .ok (.ireturn, 1) := by decide +kernel
set_option maxRecDepth 20000 in
theorem ggX3_keyOf_X3_isStudent : GoodIn wsX3_keyOf wsX3_isStudent := goodIn_r _ [6, 7, 8, 9, 5, 10, 19, 20, 21, 22, 23, 24, 25, 26, 27, 28, 29, 30, 31, 32, 33, 34, 35] (by decide +kernel) (by decide +kernel)
set_option maxRecDepth 20000 in
theorem gX3_keyOf_X3_isStudent : GoodIn wsX3_keyOf (wsV RX3 76 RX3 yX3_isStudent wsX3_isStudent) := goodIn_app (goodIn_of _ (by decide +kernel)) ggX3_keyOf_X3_isStudent
set_option maxRecDepth 20000 in
theorem ggX3_keyOf_X3_isKey : GoodIn wsX3_keyOf wsX3_isKey := goodIn_r _ [13, 8, 9, 5, 10] (by decide +kernel) (by decide +kernel)
set_option maxRecDepth 20000 in
theorem gX3_keyOf_X3_isKey : GoodIn wsX3_keyOf (va_wsS RX3 79 yX3_isKey wsX3_isKey) := goodIn_app (goodIn_of _ (by decide +kernel)) ggX3_keyOf_X3_isKey
set_option maxRecDepth 20000 in
theorem ggX3_keyOf_X3_refused : GoodIn wsX3_keyOf wsX3_refused := goodIn_r _ [17, 18, 19, 20, 21, 22, 23, 24, 25, 26, 27, 28, 29, 30, 31, 32, 33, 34, 35] (by decide +kernel) (by decide +kernel)
set_option maxRecDepth 20000 in
theorem gX3_keyOf_X3_refused : GoodIn wsX3_keyOf (wsV RX3 72 RX3 yX3_refused wsX3_refused) := goodIn_app (goodIn_of _ (by decide +kernel)) ggX3_keyOf_X3_refused
theorem dX3_keyOf_0 : decode cX3_keyOf 0 = .ok (.aload_n 0, 1) := by decide +kernel
theorem dX3_keyOf_1 : decode cX3_keyOf 1 = .ok (.aload_n 0, 1) := by decide +kernel
theorem dX3_keyOf_2 : decode cX3_keyOf 2 = .ok (.iload_n 1, 1) := by decide +kernel
theorem dX3_keyOf_3 : decode cX3_keyOf 3 = .ok (.invokevirtual 76, 3) := by decide +kernel
theorem dX3_keyOf_6 : decode cX3_keyOf 6 = .ok (.ifCond .eq 14, 3) := by decide +kernel
theorem dX3_keyOf_9 : decode cX3_keyOf 9 = .ok (.iload_n 2, 1) := by decide +kernel
theorem dX3_keyOf_10 : decode cX3_keyOf 10 = .ok (.invokestatic 79, 3) := by decide +kernel
theorem dX3_keyOf_13 : decode cX3_keyOf 13 = .ok (.ifCond .eq 7, 3) := by decide +kernel
theorem dX3_keyOf_16 : decode cX3_keyOf 16 = .ok (.iconst 0, 1) := by decide +kernel
theorem dX3_keyOf_17 : decode cX3_keyOf 17 = .ok (.goto 4, 3) := by decide +kernel
theorem dX3_keyOf_20 : decode cX3_keyOf 20 = .ok (.iconst 1, 1) := by decide +kernel
theorem dX3_keyOf_21 : decode cX3_keyOf 21 = .ok (.invokevirtual 72, 3) := by decide +kernel
theorem dX3_keyOf_24 : decode cX3_keyOf 24 = .ok (.ifCond .eq 7, 3) := by decide +kernel
theorem dX3_keyOf_27 : decode cX3_keyOf 27 = .ok (.iconst 0, 1) := by decide +kernel
theorem dX3_keyOf_28 : decode cX3_keyOf 28 = .ok (.goto 14, 3) := by decide +kernel
theorem dX3_keyOf_31 : decode cX3_keyOf 31 = .ok (.aload_n 0, 1) := by decide +kernel
theorem dX3_keyOf_32 : decode cX3_keyOf 32 = .ok (.getfield 7, 3) := by decide +kernel
theorem dX3_keyOf_35 : decode cX3_keyOf 35 = .ok (.bipush 12, 2) := by decide +kernel
theorem dX3_keyOf_37 : decode cX3_keyOf 37 = .ok (.iload_n 1, 1) := by decide +kernel
theorem dX3_keyOf_38 : decode cX3_keyOf 38 = .ok (.imul, 1) := by decide +kernel
theorem dX3_keyOf_39 : decode cX3_keyOf 39 = .ok (.iload_n 2, 1) := by decide +kernel
theorem dX3_keyOf_40 : decode cX3_keyOf 40 = .ok (.iadd, 1) := by decide +kernel
theorem dX3_keyOf_41 : decode cX3_keyOf 41 = .ok (.iaload, 1) := by decide +kernel
theorem dX3_keyOf_42 : decode cX3_keyOf 42 = .ok (.ireturn, 1) := by decide +kernel
set_option maxRecDepth 20000 in
theorem ggX3_letterOn_X3_isStudent : GoodIn wsX3_letterOn wsX3_isStudent := goodIn_r _ [6, 7, 8, 9, 5, 10, 19, 20, 21, 22, 23, 24, 25, 26, 27, 28, 29, 30, 31, 32, 33, 34, 35] (by decide +kernel) (by decide +kernel)
set_option maxRecDepth 20000 in
theorem gX3_letterOn_X3_isStudent : GoodIn wsX3_letterOn (wsV RX3 76 RX3 yX3_isStudent wsX3_isStudent) := goodIn_app (goodIn_of _ (by decide +kernel)) ggX3_letterOn_X3_isStudent
set_option maxRecDepth 20000 in
theorem ggX3_letterOn_X3_isKey : GoodIn wsX3_letterOn wsX3_isKey := goodIn_r _ [13, 8, 9, 5, 10] (by decide +kernel) (by decide +kernel)
set_option maxRecDepth 20000 in
theorem gX3_letterOn_X3_isKey : GoodIn wsX3_letterOn (va_wsS RX3 79 yX3_isKey wsX3_isKey) := goodIn_app (goodIn_of _ (by decide +kernel)) ggX3_letterOn_X3_isKey
set_option maxRecDepth 20000 in
theorem ggX3_letterOn_X3_refused : GoodIn wsX3_letterOn wsX3_refused := goodIn_r _ [17, 18, 19, 20, 21, 22, 23, 24, 25, 26, 27, 28, 29, 30, 31, 32, 33, 34, 35] (by decide +kernel) (by decide +kernel)
set_option maxRecDepth 20000 in
theorem gX3_letterOn_X3_refused : GoodIn wsX3_letterOn (wsV RX3 72 RX3 yX3_refused wsX3_refused) := goodIn_app (goodIn_of _ (by decide +kernel)) ggX3_letterOn_X3_refused
theorem dX3_letterOn_0 : decode cX3_letterOn 0 = .ok (.aload_n 0, 1) := by decide +kernel
theorem dX3_letterOn_1 : decode cX3_letterOn 1 = .ok (.aload_n 0, 1) := by decide +kernel
theorem dX3_letterOn_2 : decode cX3_letterOn 2 = .ok (.iload_n 1, 1) := by decide +kernel
theorem dX3_letterOn_3 : decode cX3_letterOn 3 = .ok (.invokevirtual 76, 3) := by decide +kernel
theorem dX3_letterOn_6 : decode cX3_letterOn 6 = .ok (.ifCond .eq 14, 3) := by decide +kernel
theorem dX3_letterOn_9 : decode cX3_letterOn 9 = .ok (.iload_n 2, 1) := by decide +kernel
theorem dX3_letterOn_10 : decode cX3_letterOn 10 = .ok (.invokestatic 79, 3) := by decide +kernel
theorem dX3_letterOn_13 : decode cX3_letterOn 13 = .ok (.ifCond .eq 7, 3) := by decide +kernel
theorem dX3_letterOn_16 : decode cX3_letterOn 16 = .ok (.iconst 0, 1) := by decide +kernel
theorem dX3_letterOn_17 : decode cX3_letterOn 17 = .ok (.goto 4, 3) := by decide +kernel
theorem dX3_letterOn_20 : decode cX3_letterOn 20 = .ok (.iconst 1, 1) := by decide +kernel
theorem dX3_letterOn_21 : decode cX3_letterOn 21 = .ok (.invokevirtual 72, 3) := by decide +kernel
theorem dX3_letterOn_24 : decode cX3_letterOn 24 = .ok (.ifCond .eq 7, 3) := by decide +kernel
theorem dX3_letterOn_27 : decode cX3_letterOn 27 = .ok (.iconst 0, 1) := by decide +kernel
theorem dX3_letterOn_28 : decode cX3_letterOn 28 = .ok (.goto 14, 3) := by decide +kernel
theorem dX3_letterOn_31 : decode cX3_letterOn 31 = .ok (.aload_n 0, 1) := by decide +kernel
theorem dX3_letterOn_32 : decode cX3_letterOn 32 = .ok (.getfield 13, 3) := by decide +kernel
theorem dX3_letterOn_35 : decode cX3_letterOn 35 = .ok (.bipush 12, 2) := by decide +kernel
theorem dX3_letterOn_37 : decode cX3_letterOn 37 = .ok (.iload_n 1, 1) := by decide +kernel
theorem dX3_letterOn_38 : decode cX3_letterOn 38 = .ok (.imul, 1) := by decide +kernel
theorem dX3_letterOn_39 : decode cX3_letterOn 39 = .ok (.iload_n 2, 1) := by decide +kernel
theorem dX3_letterOn_40 : decode cX3_letterOn 40 = .ok (.iadd, 1) := by decide +kernel
theorem dX3_letterOn_41 : decode cX3_letterOn 41 = .ok (.iaload, 1) := by decide +kernel
theorem dX3_letterOn_42 : decode cX3_letterOn 42 = .ok (.ireturn, 1) := by decide +kernel
set_option maxRecDepth 20000 in
theorem ggX3_press_X3_isStudent : GoodIn wsX3_press wsX3_isStudent := goodIn_r _ [12, 13, 14, 15, 11, 16, 25, 26, 27, 28, 29, 30, 31, 32, 33, 34, 35, 36, 37, 38, 39, 40, 41] (by decide +kernel) (by decide +kernel)
set_option maxRecDepth 20000 in
theorem gX3_press_X3_isStudent : GoodIn wsX3_press (wsV RX3 76 RX3 yX3_isStudent wsX3_isStudent) := goodIn_app (goodIn_of _ (by decide +kernel)) ggX3_press_X3_isStudent
set_option maxRecDepth 20000 in
theorem ggX3_press_X3_isKey : GoodIn wsX3_press wsX3_isKey := goodIn_r _ [19, 14, 15, 11, 16] (by decide +kernel) (by decide +kernel)
set_option maxRecDepth 20000 in
theorem gX3_press_X3_isKey : GoodIn wsX3_press (va_wsS RX3 79 yX3_isKey wsX3_isKey) := goodIn_app (goodIn_of _ (by decide +kernel)) ggX3_press_X3_isKey
set_option maxRecDepth 20000 in
theorem ggX3_press_X3_refused : GoodIn wsX3_press wsX3_refused := goodIn_r _ [23, 24, 25, 26, 27, 28, 29, 30, 31, 32, 33, 34, 35, 36, 37, 38, 39, 40, 41] (by decide +kernel) (by decide +kernel)
set_option maxRecDepth 20000 in
theorem gX3_press_X3_refused : GoodIn wsX3_press (wsV RX3 72 RX3 yX3_refused wsX3_refused) := goodIn_app (goodIn_of _ (by decide +kernel)) ggX3_press_X3_refused
theorem dX3_press_0 : decode cX3_press 0 = .ok (.aload_n 0, 1) := by decide +kernel
theorem dX3_press_1 : decode cX3_press 1 = .ok (.aload_n 0, 1) := by decide +kernel
theorem dX3_press_2 : decode cX3_press 2 = .ok (.iload_n 1, 1) := by decide +kernel
theorem dX3_press_3 : decode cX3_press 3 = .ok (.invokevirtual 76, 3) := by decide +kernel
theorem dX3_press_6 : decode cX3_press 6 = .ok (.ifCond .eq 21, 3) := by decide +kernel
theorem dX3_press_9 : decode cX3_press 9 = .ok (.iload_n 2, 1) := by decide +kernel
theorem dX3_press_10 : decode cX3_press 10 = .ok (.invokestatic 79, 3) := by decide +kernel
theorem dX3_press_13 : decode cX3_press 13 = .ok (.ifCond .eq 14, 3) := by decide +kernel
theorem dX3_press_16 : decode cX3_press 16 = .ok (.iload_n 3, 1) := by decide +kernel
theorem dX3_press_17 : decode cX3_press 17 = .ok (.invokestatic 79, 3) := by decide +kernel
theorem dX3_press_20 : decode cX3_press 20 = .ok (.ifCond .eq 7, 3) := by decide +kernel
theorem dX3_press_23 : decode cX3_press 23 = .ok (.iconst 0, 1) := by decide +kernel
theorem dX3_press_24 : decode cX3_press 24 = .ok (.goto 4, 3) := by decide +kernel
theorem dX3_press_27 : decode cX3_press 27 = .ok (.iconst 1, 1) := by decide +kernel
theorem dX3_press_28 : decode cX3_press 28 = .ok (.invokevirtual 72, 3) := by decide +kernel
theorem dX3_press_31 : decode cX3_press 31 = .ok (.ifCond .eq 5, 3) := by decide +kernel
theorem dX3_press_34 : decode cX3_press 34 = .ok (.iconst 0, 1) := by decide +kernel
theorem dX3_press_35 : decode cX3_press 35 = .ok (.ireturn, 1) := by decide +kernel
theorem dX3_press_36 : decode cX3_press 36 = .ok (.aload_n 0, 1) := by decide +kernel
theorem dX3_press_37 : decode cX3_press 37 = .ok (.getfield 7, 3) := by decide +kernel
theorem dX3_press_40 : decode cX3_press 40 = .ok (.bipush 12, 2) := by decide +kernel
theorem dX3_press_42 : decode cX3_press 42 = .ok (.iload_n 1, 1) := by decide +kernel
theorem dX3_press_43 : decode cX3_press 43 = .ok (.imul, 1) := by decide +kernel
theorem dX3_press_44 : decode cX3_press 44 = .ok (.iload_n 2, 1) := by decide +kernel
theorem dX3_press_45 : decode cX3_press 45 = .ok (.iadd, 1) := by decide +kernel
theorem dX3_press_46 : decode cX3_press 46 = .ok (.iaload, 1) := by decide +kernel
theorem dX3_press_47 : decode cX3_press 47 = .ok (.istore 4, 2) := by decide +kernel
theorem dX3_press_49 : decode cX3_press 49 = .ok (.iload 4, 2) := by decide +kernel
theorem dX3_press_51 : decode cX3_press 51 = .ok (.iload_n 3, 1) := by decide +kernel
theorem dX3_press_52 : decode cX3_press 52 = .ok (.if_icmp .eq 7, 3) := by decide +kernel
theorem dX3_press_55 : decode cX3_press 55 = .ok (.iconst 1, 1) := by decide +kernel
theorem dX3_press_56 : decode cX3_press 56 = .ok (.goto 4, 3) := by decide +kernel
theorem dX3_press_59 : decode cX3_press 59 = .ok (.iconst 0, 1) := by decide +kernel
theorem dX3_press_60 : decode cX3_press 60 = .ok (.istore 5, 2) := by decide +kernel
theorem dX3_press_62 : decode cX3_press 62 = .ok (.aload_n 0, 1) := by decide +kernel
theorem dX3_press_63 : decode cX3_press 63 = .ok (.getfield 19, 3) := by decide +kernel
theorem dX3_press_66 : decode cX3_press 66 = .ok (.bipush 12, 2) := by decide +kernel
theorem dX3_press_68 : decode cX3_press 68 = .ok (.iload_n 1, 1) := by decide +kernel
theorem dX3_press_69 : decode cX3_press 69 = .ok (.imul, 1) := by decide +kernel
theorem dX3_press_70 : decode cX3_press 70 = .ok (.iload 4, 2) := by decide +kernel
theorem dX3_press_72 : decode cX3_press 72 = .ok (.iadd, 1) := by decide +kernel
theorem dX3_press_73 : decode cX3_press 73 = .ok (.dup2, 1) := by decide +kernel
theorem dX3_press_74 : decode cX3_press 74 = .ok (.iaload, 1) := by decide +kernel
theorem dX3_press_75 : decode cX3_press 75 = .ok (.iload 5, 2) := by decide +kernel
theorem dX3_press_77 : decode cX3_press 77 = .ok (.ifCond .eq 7, 3) := by decide +kernel
theorem dX3_press_80 : decode cX3_press 80 = .ok (.iconst 1, 1) := by decide +kernel
theorem dX3_press_81 : decode cX3_press 81 = .ok (.goto 4, 3) := by decide +kernel
theorem dX3_press_84 : decode cX3_press 84 = .ok (.iconst 0, 1) := by decide +kernel
theorem dX3_press_85 : decode cX3_press 85 = .ok (.iadd, 1) := by decide +kernel
theorem dX3_press_86 : decode cX3_press 86 = .ok (.iastore, 1) := by decide +kernel
theorem dX3_press_87 : decode cX3_press 87 = .ok (.aload_n 0, 1) := by decide +kernel
theorem dX3_press_88 : decode cX3_press 88 = .ok (.getfield 28, 3) := by decide +kernel
theorem dX3_press_91 : decode cX3_press 91 = .ok (.iload_n 1, 1) := by decide +kernel
theorem dX3_press_92 : decode cX3_press 92 = .ok (.iaload, 1) := by decide +kernel
theorem dX3_press_93 : decode cX3_press 93 = .ok (.iconst (-1), 1) := by decide +kernel
theorem dX3_press_94 : decode cX3_press 94 = .ok (.if_icmp .eq 38, 3) := by decide +kernel
theorem dX3_press_97 : decode cX3_press 97 = .ok (.aload_n 0, 1) := by decide +kernel
theorem dX3_press_98 : decode cX3_press 98 = .ok (.getfield 22, 3) := by decide +kernel
theorem dX3_press_101 : decode cX3_press 101 = .ok (.sipush 144, 3) := by decide +kernel
theorem dX3_press_104 : decode cX3_press 104 = .ok (.iload_n 1, 1) := by decide +kernel
theorem dX3_press_105 : decode cX3_press 105 = .ok (.imul, 1) := by decide +kernel
theorem dX3_press_106 : decode cX3_press 106 = .ok (.bipush 12, 2) := by decide +kernel
theorem dX3_press_108 : decode cX3_press 108 = .ok (.aload_n 0, 1) := by decide +kernel
theorem dX3_press_109 : decode cX3_press 109 = .ok (.getfield 28, 3) := by decide +kernel
theorem dX3_press_112 : decode cX3_press 112 = .ok (.iload_n 1, 1) := by decide +kernel
theorem dX3_press_113 : decode cX3_press 113 = .ok (.iaload, 1) := by decide +kernel
theorem dX3_press_114 : decode cX3_press 114 = .ok (.imul, 1) := by decide +kernel
theorem dX3_press_115 : decode cX3_press 115 = .ok (.iadd, 1) := by decide +kernel
theorem dX3_press_116 : decode cX3_press 116 = .ok (.iload_n 2, 1) := by decide +kernel
theorem dX3_press_117 : decode cX3_press 117 = .ok (.iadd, 1) := by decide +kernel
theorem dX3_press_118 : decode cX3_press 118 = .ok (.dup2, 1) := by decide +kernel
theorem dX3_press_119 : decode cX3_press 119 = .ok (.iaload, 1) := by decide +kernel
theorem dX3_press_120 : decode cX3_press 120 = .ok (.iload 5, 2) := by decide +kernel
theorem dX3_press_122 : decode cX3_press 122 = .ok (.ifCond .eq 7, 3) := by decide +kernel
theorem dX3_press_125 : decode cX3_press 125 = .ok (.iconst 1, 1) := by decide +kernel
theorem dX3_press_126 : decode cX3_press 126 = .ok (.goto 4, 3) := by decide +kernel
theorem dX3_press_129 : decode cX3_press 129 = .ok (.iconst 0, 1) := by decide +kernel
theorem dX3_press_130 : decode cX3_press 130 = .ok (.iadd, 1) := by decide +kernel
theorem dX3_press_131 : decode cX3_press 131 = .ok (.iastore, 1) := by decide +kernel
theorem dX3_press_132 : decode cX3_press 132 = .ok (.aload_n 0, 1) := by decide +kernel
theorem dX3_press_133 : decode cX3_press 133 = .ok (.getfield 28, 3) := by decide +kernel
theorem dX3_press_136 : decode cX3_press 136 = .ok (.iload_n 1, 1) := by decide +kernel
theorem dX3_press_137 : decode cX3_press 137 = .ok (.iload_n 2, 1) := by decide +kernel
theorem dX3_press_138 : decode cX3_press 138 = .ok (.iastore, 1) := by decide +kernel
theorem dX3_press_139 : decode cX3_press 139 = .ok (.aload_n 0, 1) := by decide +kernel
theorem dX3_press_140 : decode cX3_press 140 = .ok (.getfield 25, 3) := by decide +kernel
theorem dX3_press_143 : decode cX3_press 143 = .ok (.iload_n 1, 1) := by decide +kernel
theorem dX3_press_144 : decode cX3_press 144 = .ok (.dup2, 1) := by decide +kernel
theorem dX3_press_145 : decode cX3_press 145 = .ok (.iaload, 1) := by decide +kernel
theorem dX3_press_146 : decode cX3_press 146 = .ok (.iconst 1, 1) := by decide +kernel
theorem dX3_press_147 : decode cX3_press 147 = .ok (.iadd, 1) := by decide +kernel
theorem dX3_press_148 : decode cX3_press 148 = .ok (.iastore, 1) := by decide +kernel
theorem dX3_press_149 : decode cX3_press 149 = .ok (.aload_n 0, 1) := by decide +kernel
theorem dX3_press_150 : decode cX3_press 150 = .ok (.getfield 31, 3) := by decide +kernel
theorem dX3_press_153 : decode cX3_press 153 = .ok (.iload_n 1, 1) := by decide +kernel
theorem dX3_press_154 : decode cX3_press 154 = .ok (.iaload, 1) := by decide +kernel
theorem dX3_press_155 : decode cX3_press 155 = .ok (.bipush 30, 2) := by decide +kernel
theorem dX3_press_157 : decode cX3_press 157 = .ok (.if_icmp .ne 55, 3) := by decide +kernel
theorem dX3_press_160 : decode cX3_press 160 = .ok (.iconst 1, 1) := by decide +kernel
theorem dX3_press_161 : decode cX3_press 161 = .ok (.istore 6, 2) := by decide +kernel
theorem dX3_press_163 : decode cX3_press 163 = .ok (.iload 6, 2) := by decide +kernel
theorem dX3_press_165 : decode cX3_press 165 = .ok (.bipush 30, 2) := by decide +kernel
theorem dX3_press_167 : decode cX3_press 167 = .ok (.if_icmp .ge 35, 3) := by decide +kernel
theorem dX3_press_170 : decode cX3_press 170 = .ok (.aload_n 0, 1) := by decide +kernel
theorem dX3_press_171 : decode cX3_press 171 = .ok (.getfield 34, 3) := by decide +kernel
theorem dX3_press_174 : decode cX3_press 174 = .ok (.bipush 30, 2) := by decide +kernel
theorem dX3_press_176 : decode cX3_press 176 = .ok (.iload_n 1, 1) := by decide +kernel
theorem dX3_press_177 : decode cX3_press 177 = .ok (.imul, 1) := by decide +kernel
theorem dX3_press_178 : decode cX3_press 178 = .ok (.iload 6, 2) := by decide +kernel
theorem dX3_press_180 : decode cX3_press 180 = .ok (.iadd, 1) := by decide +kernel
theorem dX3_press_181 : decode cX3_press 181 = .ok (.iconst 1, 1) := by decide +kernel
theorem dX3_press_182 : decode cX3_press 182 = .ok (.isub, 1) := by decide +kernel
theorem dX3_press_183 : decode cX3_press 183 = .ok (.aload_n 0, 1) := by decide +kernel
theorem dX3_press_184 : decode cX3_press 184 = .ok (.getfield 34, 3) := by decide +kernel
theorem dX3_press_187 : decode cX3_press 187 = .ok (.bipush 30, 2) := by decide +kernel
theorem dX3_press_189 : decode cX3_press 189 = .ok (.iload_n 1, 1) := by decide +kernel
theorem dX3_press_190 : decode cX3_press 190 = .ok (.imul, 1) := by decide +kernel
theorem dX3_press_191 : decode cX3_press 191 = .ok (.iload 6, 2) := by decide +kernel
theorem dX3_press_193 : decode cX3_press 193 = .ok (.iadd, 1) := by decide +kernel
theorem dX3_press_194 : decode cX3_press 194 = .ok (.iaload, 1) := by decide +kernel
theorem dX3_press_195 : decode cX3_press 195 = .ok (.iastore, 1) := by decide +kernel
theorem dX3_press_196 : decode cX3_press 196 = .ok (.iinc 6 1, 3) := by decide +kernel
theorem dX3_press_199 : decode cX3_press 199 = .ok (.goto (-36), 3) := by decide +kernel
theorem dX3_press_202 : decode cX3_press 202 = .ok (.aload_n 0, 1) := by decide +kernel
theorem dX3_press_203 : decode cX3_press 203 = .ok (.getfield 31, 3) := by decide +kernel
theorem dX3_press_206 : decode cX3_press 206 = .ok (.iload_n 1, 1) := by decide +kernel
theorem dX3_press_207 : decode cX3_press 207 = .ok (.dup2, 1) := by decide +kernel
theorem dX3_press_208 : decode cX3_press 208 = .ok (.iaload, 1) := by decide +kernel
theorem dX3_press_209 : decode cX3_press 209 = .ok (.iconst 1, 1) := by decide +kernel
theorem dX3_press_210 : decode cX3_press 210 = .ok (.isub, 1) := by decide +kernel
theorem dX3_press_211 : decode cX3_press 211 = .ok (.iastore, 1) := by decide +kernel
theorem dX3_press_212 : decode cX3_press 212 = .ok (.aload_n 0, 1) := by decide +kernel
theorem dX3_press_213 : decode cX3_press 213 = .ok (.getfield 34, 3) := by decide +kernel
theorem dX3_press_216 : decode cX3_press 216 = .ok (.bipush 30, 2) := by decide +kernel
theorem dX3_press_218 : decode cX3_press 218 = .ok (.iload_n 1, 1) := by decide +kernel
theorem dX3_press_219 : decode cX3_press 219 = .ok (.imul, 1) := by decide +kernel
theorem dX3_press_220 : decode cX3_press 220 = .ok (.aload_n 0, 1) := by decide +kernel
theorem dX3_press_221 : decode cX3_press 221 = .ok (.getfield 31, 3) := by decide +kernel
theorem dX3_press_224 : decode cX3_press 224 = .ok (.iload_n 1, 1) := by decide +kernel
theorem dX3_press_225 : decode cX3_press 225 = .ok (.iaload, 1) := by decide +kernel
theorem dX3_press_226 : decode cX3_press 226 = .ok (.iadd, 1) := by decide +kernel
theorem dX3_press_227 : decode cX3_press 227 = .ok (.iload_n 2, 1) := by decide +kernel
theorem dX3_press_228 : decode cX3_press 228 = .ok (.iastore, 1) := by decide +kernel
theorem dX3_press_229 : decode cX3_press 229 = .ok (.aload_n 0, 1) := by decide +kernel
theorem dX3_press_230 : decode cX3_press 230 = .ok (.getfield 31, 3) := by decide +kernel
theorem dX3_press_233 : decode cX3_press 233 = .ok (.iload_n 1, 1) := by decide +kernel
theorem dX3_press_234 : decode cX3_press 234 = .ok (.dup2, 1) := by decide +kernel
theorem dX3_press_235 : decode cX3_press 235 = .ok (.iaload, 1) := by decide +kernel
theorem dX3_press_236 : decode cX3_press 236 = .ok (.iconst 1, 1) := by decide +kernel
theorem dX3_press_237 : decode cX3_press 237 = .ok (.iadd, 1) := by decide +kernel
theorem dX3_press_238 : decode cX3_press 238 = .ok (.iastore, 1) := by decide +kernel
theorem dX3_press_239 : decode cX3_press 239 = .ok (.iload 5, 2) := by decide +kernel
theorem dX3_press_241 : decode cX3_press 241 = .ok (.ireturn, 1) := by decide +kernel
set_option maxRecDepth 20000 in
theorem ggX3_slips_X3_isStudent : GoodIn wsX3_slips wsX3_isStudent := goodIn_r _ [6, 7, 8, 9, 5, 10, 16, 17, 18, 19, 20, 21, 22, 23, 24, 25, 26, 27, 28, 29, 30, 31, 32] (by decide +kernel) (by decide +kernel)
set_option maxRecDepth 20000 in
theorem gX3_slips_X3_isStudent : GoodIn wsX3_slips (wsV RX3 76 RX3 yX3_isStudent wsX3_isStudent) := goodIn_app (goodIn_of _ (by decide +kernel)) ggX3_slips_X3_isStudent
set_option maxRecDepth 20000 in
theorem ggX3_slips_X3_is : GoodIn wsX3_slips wsX3_is := goodIn_r _ [10] (by decide +kernel) (by decide +kernel)
set_option maxRecDepth 20000 in
theorem gX3_slips_X3_is : GoodIn wsX3_slips (va_wsS RX3 56 yX3_is wsX3_is) := goodIn_app (goodIn_of _ (by decide +kernel)) ggX3_slips_X3_is
set_option maxRecDepth 20000 in
theorem ggX3_slips_X3_refused : GoodIn wsX3_slips wsX3_refused := goodIn_r _ [14, 15, 16, 17, 18, 19, 20, 21, 22, 23, 24, 25, 26, 27, 28, 29, 30, 31, 32] (by decide +kernel) (by decide +kernel)
set_option maxRecDepth 20000 in
theorem gX3_slips_X3_refused : GoodIn wsX3_slips (wsV RX3 72 RX3 yX3_refused wsX3_refused) := goodIn_app (goodIn_of _ (by decide +kernel)) ggX3_slips_X3_refused
theorem dX3_slips_0 : decode cX3_slips 0 = .ok (.iload_n 2, 1) := by decide +kernel
theorem dX3_slips_1 : decode cX3_slips 1 = .ok (.ifCond .ne 8, 3) := by decide +kernel
theorem dX3_slips_4 : decode cX3_slips 4 = .ok (.bipush 11, 2) := by decide +kernel
theorem dX3_slips_6 : decode cX3_slips 6 = .ok (.goto 22, 3) := by decide +kernel
theorem dX3_slips_9 : decode cX3_slips 9 = .ok (.iload_n 2, 1) := by decide +kernel
theorem dX3_slips_10 : decode cX3_slips 10 = .ok (.iconst 1, 1) := by decide +kernel
theorem dX3_slips_11 : decode cX3_slips 11 = .ok (.if_icmp .ne 7, 3) := by decide +kernel
theorem dX3_slips_14 : decode cX3_slips 14 = .ok (.iconst 5, 1) := by decide +kernel
theorem dX3_slips_15 : decode cX3_slips 15 = .ok (.goto 13, 3) := by decide +kernel
theorem dX3_slips_18 : decode cX3_slips 18 = .ok (.iload_n 2, 1) := by decide +kernel
theorem dX3_slips_19 : decode cX3_slips 19 = .ok (.iconst 2, 1) := by decide +kernel
theorem dX3_slips_20 : decode cX3_slips 20 = .ok (.if_icmp .ne 7, 3) := by decide +kernel
theorem dX3_slips_23 : decode cX3_slips 23 = .ok (.iconst 1, 1) := by decide +kernel
theorem dX3_slips_24 : decode cX3_slips 24 = .ok (.goto 4, 3) := by decide +kernel
theorem dX3_slips_27 : decode cX3_slips 27 = .ok (.iconst 0, 1) := by decide +kernel
theorem dX3_slips_28 : decode cX3_slips 28 = .ok (.istore 4, 2) := by decide +kernel
theorem dX3_slips_30 : decode cX3_slips 30 = .ok (.aload_n 0, 1) := by decide +kernel
theorem dX3_slips_31 : decode cX3_slips 31 = .ok (.aload_n 0, 1) := by decide +kernel
theorem dX3_slips_32 : decode cX3_slips 32 = .ok (.iload_n 1, 1) := by decide +kernel
theorem dX3_slips_33 : decode cX3_slips 33 = .ok (.invokevirtual 76, 3) := by decide +kernel
theorem dX3_slips_36 : decode cX3_slips 36 = .ok (.ifCond .ne 7, 3) := by decide +kernel
theorem dX3_slips_39 : decode cX3_slips 39 = .ok (.iconst 1, 1) := by decide +kernel
theorem dX3_slips_40 : decode cX3_slips 40 = .ok (.goto 27, 3) := by decide +kernel
theorem dX3_slips_43 : decode cX3_slips 43 = .ok (.iload_n 2, 1) := by decide +kernel
theorem dX3_slips_44 : decode cX3_slips 44 = .ok (.iconst 0, 1) := by decide +kernel
theorem dX3_slips_45 : decode cX3_slips 45 = .ok (.iconst 3, 1) := by decide +kernel
theorem dX3_slips_46 : decode cX3_slips 46 = .ok (.invokestatic 56, 3) := by decide +kernel
theorem dX3_slips_49 : decode cX3_slips 49 = .ok (.ifCond .eq 13, 3) := by decide +kernel
theorem dX3_slips_52 : decode cX3_slips 52 = .ok (.iload_n 3, 1) := by decide +kernel
theorem dX3_slips_53 : decode cX3_slips 53 = .ok (.iconst 0, 1) := by decide +kernel
theorem dX3_slips_54 : decode cX3_slips 54 = .ok (.iload 4, 2) := by decide +kernel
theorem dX3_slips_56 : decode cX3_slips 56 = .ok (.invokestatic 56, 3) := by decide +kernel
theorem dX3_slips_59 : decode cX3_slips 59 = .ok (.ifCond .ne 7, 3) := by decide +kernel
theorem dX3_slips_62 : decode cX3_slips 62 = .ok (.iconst 2, 1) := by decide +kernel
theorem dX3_slips_63 : decode cX3_slips 63 = .ok (.goto 4, 3) := by decide +kernel
theorem dX3_slips_66 : decode cX3_slips 66 = .ok (.iconst 0, 1) := by decide +kernel
theorem dX3_slips_67 : decode cX3_slips 67 = .ok (.invokevirtual 72, 3) := by decide +kernel
theorem dX3_slips_70 : decode cX3_slips 70 = .ok (.ifCond .eq 5, 3) := by decide +kernel
theorem dX3_slips_73 : decode cX3_slips 73 = .ok (.iconst 0, 1) := by decide +kernel
theorem dX3_slips_74 : decode cX3_slips 74 = .ok (.ireturn, 1) := by decide +kernel
theorem dX3_slips_75 : decode cX3_slips 75 = .ok (.iconst 0, 1) := by decide +kernel
theorem dX3_slips_76 : decode cX3_slips 76 = .ok (.istore 5, 2) := by decide +kernel
theorem dX3_slips_78 : decode cX3_slips 78 = .ok (.iconst 0, 1) := by decide +kernel
theorem dX3_slips_79 : decode cX3_slips 79 = .ok (.istore 6, 2) := by decide +kernel
theorem dX3_slips_81 : decode cX3_slips 81 = .ok (.iload 6, 2) := by decide +kernel
theorem dX3_slips_83 : decode cX3_slips 83 = .ok (.bipush 12, 2) := by decide +kernel
theorem dX3_slips_85 : decode cX3_slips 85 = .ok (.if_icmp .ge 76, 3) := by decide +kernel
theorem dX3_slips_88 : decode cX3_slips 88 = .ok (.iload_n 2, 1) := by decide +kernel
theorem dX3_slips_89 : decode cX3_slips 89 = .ok (.ifCond .ne 8, 3) := by decide +kernel
theorem dX3_slips_92 : decode cX3_slips 92 = .ok (.iload 6, 2) := by decide +kernel
theorem dX3_slips_94 : decode cX3_slips 94 = .ok (.goto 32, 3) := by decide +kernel
theorem dX3_slips_97 : decode cX3_slips 97 = .ok (.iload_n 2, 1) := by decide +kernel
theorem dX3_slips_98 : decode cX3_slips 98 = .ok (.iconst 1, 1) := by decide +kernel
theorem dX3_slips_99 : decode cX3_slips 99 = .ok (.if_icmp .ne 11, 3) := by decide +kernel
theorem dX3_slips_102 : decode cX3_slips 102 = .ok (.iload 6, 2) := by decide +kernel
theorem dX3_slips_104 : decode cX3_slips 104 = .ok (.bipush 6, 2) := by decide +kernel
theorem dX3_slips_106 : decode cX3_slips 106 = .ok (.irem, 1) := by decide +kernel
theorem dX3_slips_107 : decode cX3_slips 107 = .ok (.goto 19, 3) := by decide +kernel
theorem dX3_slips_110 : decode cX3_slips 110 = .ok (.iload_n 2, 1) := by decide +kernel
theorem dX3_slips_111 : decode cX3_slips 111 = .ok (.iconst 2, 1) := by decide +kernel
theorem dX3_slips_112 : decode cX3_slips 112 = .ok (.if_icmp .ne 13, 3) := by decide +kernel
theorem dX3_slips_115 : decode cX3_slips 115 = .ok (.iload 6, 2) := by decide +kernel
theorem dX3_slips_117 : decode cX3_slips 117 = .ok (.bipush 6, 2) := by decide +kernel
theorem dX3_slips_119 : decode cX3_slips 119 = .ok (.irem, 1) := by decide +kernel
theorem dX3_slips_120 : decode cX3_slips 120 = .ok (.iconst 3, 1) := by decide +kernel
theorem dX3_slips_121 : decode cX3_slips 121 = .ok (.idiv, 1) := by decide +kernel
theorem dX3_slips_122 : decode cX3_slips 122 = .ok (.goto 4, 3) := by decide +kernel
theorem dX3_slips_125 : decode cX3_slips 125 = .ok (.iconst 0, 1) := by decide +kernel
theorem dX3_slips_126 : decode cX3_slips 126 = .ok (.istore 7, 2) := by decide +kernel
theorem dX3_slips_128 : decode cX3_slips 128 = .ok (.iload 5, 2) := by decide +kernel
theorem dX3_slips_130 : decode cX3_slips 130 = .ok (.iload 7, 2) := by decide +kernel
theorem dX3_slips_132 : decode cX3_slips 132 = .ok (.iload_n 3, 1) := by decide +kernel
theorem dX3_slips_133 : decode cX3_slips 133 = .ok (.if_icmp .ne 18, 3) := by decide +kernel
theorem dX3_slips_136 : decode cX3_slips 136 = .ok (.aload_n 0, 1) := by decide +kernel
theorem dX3_slips_137 : decode cX3_slips 137 = .ok (.getfield 19, 3) := by decide +kernel
theorem dX3_slips_140 : decode cX3_slips 140 = .ok (.bipush 12, 2) := by decide +kernel
theorem dX3_slips_142 : decode cX3_slips 142 = .ok (.iload_n 1, 1) := by decide +kernel
theorem dX3_slips_143 : decode cX3_slips 143 = .ok (.imul, 1) := by decide +kernel
theorem dX3_slips_144 : decode cX3_slips 144 = .ok (.iload 6, 2) := by decide +kernel
theorem dX3_slips_146 : decode cX3_slips 146 = .ok (.iadd, 1) := by decide +kernel
theorem dX3_slips_147 : decode cX3_slips 147 = .ok (.iaload, 1) := by decide +kernel
theorem dX3_slips_148 : decode cX3_slips 148 = .ok (.goto 4, 3) := by decide +kernel
theorem dX3_slips_151 : decode cX3_slips 151 = .ok (.iconst 0, 1) := by decide +kernel
theorem dX3_slips_152 : decode cX3_slips 152 = .ok (.iadd, 1) := by decide +kernel
theorem dX3_slips_153 : decode cX3_slips 153 = .ok (.istore 5, 2) := by decide +kernel
theorem dX3_slips_155 : decode cX3_slips 155 = .ok (.iinc 6 1, 3) := by decide +kernel
theorem dX3_slips_158 : decode cX3_slips 158 = .ok (.goto (-77), 3) := by decide +kernel
theorem dX3_slips_161 : decode cX3_slips 161 = .ok (.iload 5, 2) := by decide +kernel
theorem dX3_slips_163 : decode cX3_slips 163 = .ok (.ireturn, 1) := by decide +kernel
set_option maxRecDepth 20000 in
theorem ggX3_pair_X3_isStudent : GoodIn wsX3_pair wsX3_isStudent := goodIn_r _ [6, 7, 8, 9, 5, 10, 19, 20, 21, 22, 23, 24, 25, 26, 27, 28, 29, 30, 31, 32, 33, 34, 35] (by decide +kernel) (by decide +kernel)
set_option maxRecDepth 20000 in
theorem gX3_pair_X3_isStudent : GoodIn wsX3_pair (wsV RX3 76 RX3 yX3_isStudent wsX3_isStudent) := goodIn_app (goodIn_of _ (by decide +kernel)) ggX3_pair_X3_isStudent
set_option maxRecDepth 20000 in
theorem ggX3_pair_X3_isKey : GoodIn wsX3_pair wsX3_isKey := goodIn_r _ [13, 8, 9, 5, 10] (by decide +kernel) (by decide +kernel)
set_option maxRecDepth 20000 in
theorem gX3_pair_X3_isKey : GoodIn wsX3_pair (va_wsS RX3 79 yX3_isKey wsX3_isKey) := goodIn_app (goodIn_of _ (by decide +kernel)) ggX3_pair_X3_isKey
set_option maxRecDepth 20000 in
theorem ggX3_pair_X3_refused : GoodIn wsX3_pair wsX3_refused := goodIn_r _ [17, 18, 19, 20, 21, 22, 23, 24, 25, 26, 27, 28, 29, 30, 31, 32, 33, 34, 35] (by decide +kernel) (by decide +kernel)
set_option maxRecDepth 20000 in
theorem gX3_pair_X3_refused : GoodIn wsX3_pair (wsV RX3 72 RX3 yX3_refused wsX3_refused) := goodIn_app (goodIn_of _ (by decide +kernel)) ggX3_pair_X3_refused
theorem dX3_pair_0 : decode cX3_pair 0 = .ok (.aload_n 0, 1) := by decide +kernel
theorem dX3_pair_1 : decode cX3_pair 1 = .ok (.iload_n 1, 1) := by decide +kernel
theorem dX3_pair_2 : decode cX3_pair 2 = .ok (.invokevirtual 76, 3) := by decide +kernel
theorem dX3_pair_5 : decode cX3_pair 5 = .ok (.ifCond .eq 21, 3) := by decide +kernel
theorem dX3_pair_8 : decode cX3_pair 8 = .ok (.iload_n 2, 1) := by decide +kernel
theorem dX3_pair_9 : decode cX3_pair 9 = .ok (.invokestatic 79, 3) := by decide +kernel
theorem dX3_pair_12 : decode cX3_pair 12 = .ok (.ifCond .eq 14, 3) := by decide +kernel
theorem dX3_pair_15 : decode cX3_pair 15 = .ok (.iload_n 3, 1) := by decide +kernel
theorem dX3_pair_16 : decode cX3_pair 16 = .ok (.invokestatic 79, 3) := by decide +kernel
theorem dX3_pair_19 : decode cX3_pair 19 = .ok (.ifCond .eq 7, 3) := by decide +kernel
theorem dX3_pair_22 : decode cX3_pair 22 = .ok (.iconst 1, 1) := by decide +kernel
theorem dX3_pair_23 : decode cX3_pair 23 = .ok (.goto 4, 3) := by decide +kernel
theorem dX3_pair_26 : decode cX3_pair 26 = .ok (.iconst 0, 1) := by decide +kernel
theorem dX3_pair_27 : decode cX3_pair 27 = .ok (.istore 4, 2) := by decide +kernel
theorem dX3_pair_29 : decode cX3_pair 29 = .ok (.aload_n 0, 1) := by decide +kernel
theorem dX3_pair_30 : decode cX3_pair 30 = .ok (.iload 4, 2) := by decide +kernel
theorem dX3_pair_32 : decode cX3_pair 32 = .ok (.ifCond .eq 7, 3) := by decide +kernel
theorem dX3_pair_35 : decode cX3_pair 35 = .ok (.iconst 0, 1) := by decide +kernel
theorem dX3_pair_36 : decode cX3_pair 36 = .ok (.goto 4, 3) := by decide +kernel
theorem dX3_pair_39 : decode cX3_pair 39 = .ok (.iconst 1, 1) := by decide +kernel
theorem dX3_pair_40 : decode cX3_pair 40 = .ok (.invokevirtual 72, 3) := by decide +kernel
theorem dX3_pair_43 : decode cX3_pair 43 = .ok (.ifCond .eq 7, 3) := by decide +kernel
theorem dX3_pair_46 : decode cX3_pair 46 = .ok (.iconst 0, 1) := by decide +kernel
theorem dX3_pair_47 : decode cX3_pair 47 = .ok (.goto 20, 3) := by decide +kernel
theorem dX3_pair_50 : decode cX3_pair 50 = .ok (.aload_n 0, 1) := by decide +kernel
theorem dX3_pair_51 : decode cX3_pair 51 = .ok (.getfield 22, 3) := by decide +kernel
theorem dX3_pair_54 : decode cX3_pair 54 = .ok (.sipush 144, 3) := by decide +kernel
theorem dX3_pair_57 : decode cX3_pair 57 = .ok (.iload_n 1, 1) := by decide +kernel
theorem dX3_pair_58 : decode cX3_pair 58 = .ok (.imul, 1) := by decide +kernel
theorem dX3_pair_59 : decode cX3_pair 59 = .ok (.bipush 12, 2) := by decide +kernel
theorem dX3_pair_61 : decode cX3_pair 61 = .ok (.iload_n 2, 1) := by decide +kernel
theorem dX3_pair_62 : decode cX3_pair 62 = .ok (.imul, 1) := by decide +kernel
theorem dX3_pair_63 : decode cX3_pair 63 = .ok (.iadd, 1) := by decide +kernel
theorem dX3_pair_64 : decode cX3_pair 64 = .ok (.iload_n 3, 1) := by decide +kernel
theorem dX3_pair_65 : decode cX3_pair 65 = .ok (.iadd, 1) := by decide +kernel
theorem dX3_pair_66 : decode cX3_pair 66 = .ok (.iaload, 1) := by decide +kernel
theorem dX3_pair_67 : decode cX3_pair 67 = .ok (.ireturn, 1) := by decide +kernel
set_option maxRecDepth 20000 in
theorem ggX3_pressed_X3_isStudent : GoodIn wsX3_pressed wsX3_isStudent := goodIn_r _ [6, 7, 8, 9, 5, 10, 16, 17, 18, 19, 20, 21, 22, 23, 24, 25, 26, 27, 28, 29, 30, 31, 32] (by decide +kernel) (by decide +kernel)
set_option maxRecDepth 20000 in
theorem gX3_pressed_X3_isStudent : GoodIn wsX3_pressed (wsV RX3 76 RX3 yX3_isStudent wsX3_isStudent) := goodIn_app (goodIn_of _ (by decide +kernel)) ggX3_pressed_X3_isStudent
set_option maxRecDepth 20000 in
theorem ggX3_pressed_X3_refused : GoodIn wsX3_pressed wsX3_refused := goodIn_r _ [14, 15, 16, 17, 18, 19, 20, 21, 22, 23, 24, 25, 26, 27, 28, 29, 30, 31, 32] (by decide +kernel) (by decide +kernel)
set_option maxRecDepth 20000 in
theorem gX3_pressed_X3_refused : GoodIn wsX3_pressed (wsV RX3 72 RX3 yX3_refused wsX3_refused) := goodIn_app (goodIn_of _ (by decide +kernel)) ggX3_pressed_X3_refused
theorem dX3_pressed_0 : decode cX3_pressed 0 = .ok (.aload_n 0, 1) := by decide +kernel
theorem dX3_pressed_1 : decode cX3_pressed 1 = .ok (.aload_n 0, 1) := by decide +kernel
theorem dX3_pressed_2 : decode cX3_pressed 2 = .ok (.iload_n 1, 1) := by decide +kernel
theorem dX3_pressed_3 : decode cX3_pressed 3 = .ok (.invokevirtual 76, 3) := by decide +kernel
theorem dX3_pressed_6 : decode cX3_pressed 6 = .ok (.ifCond .eq 7, 3) := by decide +kernel
theorem dX3_pressed_9 : decode cX3_pressed 9 = .ok (.iconst 0, 1) := by decide +kernel
theorem dX3_pressed_10 : decode cX3_pressed 10 = .ok (.goto 4, 3) := by decide +kernel
theorem dX3_pressed_13 : decode cX3_pressed 13 = .ok (.iconst 1, 1) := by decide +kernel
theorem dX3_pressed_14 : decode cX3_pressed 14 = .ok (.invokevirtual 72, 3) := by decide +kernel
theorem dX3_pressed_17 : decode cX3_pressed 17 = .ok (.ifCond .eq 7, 3) := by decide +kernel
theorem dX3_pressed_20 : decode cX3_pressed 20 = .ok (.iconst 0, 1) := by decide +kernel
theorem dX3_pressed_21 : decode cX3_pressed 21 = .ok (.goto 9, 3) := by decide +kernel
theorem dX3_pressed_24 : decode cX3_pressed 24 = .ok (.aload_n 0, 1) := by decide +kernel
theorem dX3_pressed_25 : decode cX3_pressed 25 = .ok (.getfield 25, 3) := by decide +kernel
theorem dX3_pressed_28 : decode cX3_pressed 28 = .ok (.iload_n 1, 1) := by decide +kernel
theorem dX3_pressed_29 : decode cX3_pressed 29 = .ok (.iaload, 1) := by decide +kernel
theorem dX3_pressed_30 : decode cX3_pressed 30 = .ok (.ireturn, 1) := by decide +kernel
set_option maxRecDepth 20000 in
theorem ggX3_history_X3_isStudent : GoodIn wsX3_history wsX3_isStudent := goodIn_r _ [7, 8, 9, 10, 6, 11, 17, 18, 19, 20, 21, 22, 23, 24, 25, 26, 27, 28, 29, 30, 31, 32, 33] (by decide +kernel) (by decide +kernel)
set_option maxRecDepth 20000 in
theorem gX3_history_X3_isStudent : GoodIn wsX3_history (wsV RX3 76 RX3 yX3_isStudent wsX3_isStudent) := goodIn_app (goodIn_of _ (by decide +kernel)) ggX3_history_X3_isStudent
set_option maxRecDepth 20000 in
theorem ggX3_history_X3_refused : GoodIn wsX3_history wsX3_refused := goodIn_r _ [15, 16, 17, 18, 19, 20, 21, 22, 23, 24, 25, 26, 27, 28, 29, 30, 31, 32, 33] (by decide +kernel) (by decide +kernel)
set_option maxRecDepth 20000 in
theorem gX3_history_X3_refused : GoodIn wsX3_history (wsV RX3 72 RX3 yX3_refused wsX3_refused) := goodIn_app (goodIn_of _ (by decide +kernel)) ggX3_history_X3_refused
theorem dX3_history_0 : decode cX3_history 0 = .ok (.aload_n 0, 1) := by decide +kernel
theorem dX3_history_1 : decode cX3_history 1 = .ok (.aload_n 0, 1) := by decide +kernel
theorem dX3_history_2 : decode cX3_history 2 = .ok (.iload_n 1, 1) := by decide +kernel
theorem dX3_history_3 : decode cX3_history 3 = .ok (.invokevirtual 76, 3) := by decide +kernel
theorem dX3_history_6 : decode cX3_history 6 = .ok (.ifCond .eq 11, 3) := by decide +kernel
theorem dX3_history_9 : decode cX3_history 9 = .ok (.iload_n 2, 1) := by decide +kernel
theorem dX3_history_10 : decode cX3_history 10 = .ok (.ifCond .lt 7, 3) := by decide +kernel
theorem dX3_history_13 : decode cX3_history 13 = .ok (.iconst 0, 1) := by decide +kernel
theorem dX3_history_14 : decode cX3_history 14 = .ok (.goto 4, 3) := by decide +kernel
theorem dX3_history_17 : decode cX3_history 17 = .ok (.iconst 1, 1) := by decide +kernel
theorem dX3_history_18 : decode cX3_history 18 = .ok (.invokevirtual 72, 3) := by decide +kernel
theorem dX3_history_21 : decode cX3_history 21 = .ok (.ifCond .eq 5, 3) := by decide +kernel
theorem dX3_history_24 : decode cX3_history 24 = .ok (.iconst 0, 1) := by decide +kernel
theorem dX3_history_25 : decode cX3_history 25 = .ok (.ireturn, 1) := by decide +kernel
theorem dX3_history_26 : decode cX3_history 26 = .ok (.iload_n 2, 1) := by decide +kernel
theorem dX3_history_27 : decode cX3_history 27 = .ok (.aload_n 0, 1) := by decide +kernel
theorem dX3_history_28 : decode cX3_history 28 = .ok (.getfield 31, 3) := by decide +kernel
theorem dX3_history_31 : decode cX3_history 31 = .ok (.iload_n 1, 1) := by decide +kernel
theorem dX3_history_32 : decode cX3_history 32 = .ok (.iaload, 1) := by decide +kernel
theorem dX3_history_33 : decode cX3_history 33 = .ok (.if_icmp .ge 17, 3) := by decide +kernel
theorem dX3_history_36 : decode cX3_history 36 = .ok (.aload_n 0, 1) := by decide +kernel
theorem dX3_history_37 : decode cX3_history 37 = .ok (.getfield 34, 3) := by decide +kernel
theorem dX3_history_40 : decode cX3_history 40 = .ok (.bipush 30, 2) := by decide +kernel
theorem dX3_history_42 : decode cX3_history 42 = .ok (.iload_n 1, 1) := by decide +kernel
theorem dX3_history_43 : decode cX3_history 43 = .ok (.imul, 1) := by decide +kernel
theorem dX3_history_44 : decode cX3_history 44 = .ok (.iload_n 2, 1) := by decide +kernel
theorem dX3_history_45 : decode cX3_history 45 = .ok (.iadd, 1) := by decide +kernel
theorem dX3_history_46 : decode cX3_history 46 = .ok (.iaload, 1) := by decide +kernel
theorem dX3_history_47 : decode cX3_history 47 = .ok (.goto 4, 3) := by decide +kernel
theorem dX3_history_50 : decode cX3_history 50 = .ok (.iconst (-1), 1) := by decide +kernel
theorem dX3_history_51 : decode cX3_history 51 = .ok (.ireturn, 1) := by decide +kernel
set_option maxRecDepth 20000 in
theorem ggX3_time_X3_isStudent : GoodIn wsX3_time wsX3_isStudent := goodIn_r _ [5, 6, 7, 8, 4, 9, 29, 30, 31, 32, 33, 34, 35, 36, 37, 38, 39, 40, 41, 42, 43, 44, 45] (by decide +kernel) (by decide +kernel)
set_option maxRecDepth 20000 in
theorem gX3_time_X3_isStudent : GoodIn wsX3_time (wsV RX3 76 RX3 yX3_isStudent wsX3_isStudent) := goodIn_app (goodIn_of _ (by decide +kernel)) ggX3_time_X3_isStudent
set_option maxRecDepth 20000 in
theorem ggX3_time_X3_refused : GoodIn wsX3_time wsX3_refused := goodIn_r _ [13, 14, 29, 30, 31, 32, 33, 34, 35, 36, 37, 38, 39, 40, 41, 42, 43, 44, 45] (by decide +kernel) (by decide +kernel)
set_option maxRecDepth 20000 in
theorem gX3_time_X3_refused : GoodIn wsX3_time (wsV RX3 72 RX3 yX3_refused wsX3_refused) := goodIn_app (goodIn_of _ (by decide +kernel)) ggX3_time_X3_refused
set_option maxRecDepth 20000 in
theorem ggX3_time_X3_timeWith : GoodIn wsX3_time wsX3_timeWith := goodIn_r _ [18, 19, 20, 21, 22, 23, 4, 24, 25, 26, 27, 28, 29, 30, 31, 32, 33, 34, 35, 36, 37, 38, 39, 40, 41, 42, 43, 44, 45] (by decide +kernel) (by decide +kernel)
set_option maxRecDepth 20000 in
theorem gX3_time_X3_timeWith : GoodIn wsX3_time (wsV RX3 68 RX3 yX3_timeWith wsX3_timeWith) := goodIn_app (goodIn_of _ (by decide +kernel)) ggX3_time_X3_timeWith
theorem dX3_time_0 : decode cX3_time 0 = .ok (.aload_n 0, 1) := by decide +kernel
theorem dX3_time_1 : decode cX3_time 1 = .ok (.aload_n 0, 1) := by decide +kernel
theorem dX3_time_2 : decode cX3_time 2 = .ok (.iload_n 1, 1) := by decide +kernel
theorem dX3_time_3 : decode cX3_time 3 = .ok (.invokevirtual 76, 3) := by decide +kernel
theorem dX3_time_6 : decode cX3_time 6 = .ok (.ifCond .eq 7, 3) := by decide +kernel
theorem dX3_time_9 : decode cX3_time 9 = .ok (.iconst 0, 1) := by decide +kernel
theorem dX3_time_10 : decode cX3_time 10 = .ok (.goto 4, 3) := by decide +kernel
theorem dX3_time_13 : decode cX3_time 13 = .ok (.iconst 1, 1) := by decide +kernel
theorem dX3_time_14 : decode cX3_time 14 = .ok (.invokevirtual 72, 3) := by decide +kernel
theorem dX3_time_17 : decode cX3_time 17 = .ok (.ifCond .eq 7, 3) := by decide +kernel
theorem dX3_time_20 : decode cX3_time 20 = .ok (.iconst 0, 1) := by decide +kernel
theorem dX3_time_21 : decode cX3_time 21 = .ok (.goto 10, 3) := by decide +kernel
theorem dX3_time_24 : decode cX3_time 24 = .ok (.aload_n 0, 1) := by decide +kernel
theorem dX3_time_25 : decode cX3_time 25 = .ok (.iload_n 1, 1) := by decide +kernel
theorem dX3_time_26 : decode cX3_time 26 = .ok (.iconst 0, 1) := by decide +kernel
theorem dX3_time_27 : decode cX3_time 27 = .ok (.iconst 0, 1) := by decide +kernel
theorem dX3_time_28 : decode cX3_time 28 = .ok (.invokevirtual 68, 3) := by decide +kernel
theorem dX3_time_31 : decode cX3_time 31 = .ok (.ireturn, 1) := by decide +kernel
set_option maxRecDepth 20000 in
theorem ggX3_timeAnew_X3_time : GoodIn wsX3_timeAnew wsX3_time := goodIn_r _ [5, 6, 7, 8, 4, 9, 10, 11, 12, 13, 14, 15, 16, 17, 18, 19, 20, 21, 22, 23, 24, 25, 26, 27, 28, 29, 30, 31, 32, 33, 34, 35, 36, 37, 38, 39, 40, 41, 42, 43, 44, 45, 46, 47, 48, 49] (by decide +kernel) (by decide +kernel)
set_option maxRecDepth 20000 in
theorem gX3_timeAnew_X3_time : GoodIn wsX3_timeAnew (wsV RX3 88 RX3 yX3_time wsX3_time) := goodIn_app (goodIn_of _ (by decide +kernel)) ggX3_timeAnew_X3_time
theorem dX3_timeAnew_0 : decode cX3_timeAnew 0 = .ok (.aload_n 0, 1) := by decide +kernel
theorem dX3_timeAnew_1 : decode cX3_timeAnew 1 = .ok (.iload_n 1, 1) := by decide +kernel
theorem dX3_timeAnew_2 : decode cX3_timeAnew 2 = .ok (.invokevirtual 88, 3) := by decide +kernel
theorem dX3_timeAnew_5 : decode cX3_timeAnew 5 = .ok (.ireturn, 1) := by decide +kernel
set_option maxRecDepth 20000 in
theorem ggX3_lesson_X3_isStudent : GoodIn wsX3_lesson wsX3_isStudent := goodIn_r _ [7, 8, 9, 10, 6, 11, 17, 18, 19, 20, 21, 22, 23, 24, 25, 26, 27, 28, 29, 30, 31, 32, 33] (by decide +kernel) (by decide +kernel)
set_option maxRecDepth 20000 in
theorem gX3_lesson_X3_isStudent : GoodIn wsX3_lesson (wsV RX3 76 RX3 yX3_isStudent wsX3_isStudent) := goodIn_app (goodIn_of _ (by decide +kernel)) ggX3_lesson_X3_isStudent
set_option maxRecDepth 20000 in
theorem ggX3_lesson_X3_is : GoodIn wsX3_lesson wsX3_is := goodIn_r _ [11] (by decide +kernel) (by decide +kernel)
set_option maxRecDepth 20000 in
theorem gX3_lesson_X3_is : GoodIn wsX3_lesson (va_wsS RX3 56 yX3_is wsX3_is) := goodIn_app (goodIn_of _ (by decide +kernel)) ggX3_lesson_X3_is
set_option maxRecDepth 20000 in
theorem ggX3_lesson_X3_refused : GoodIn wsX3_lesson wsX3_refused := goodIn_r _ [15, 16, 17, 18, 19, 20, 21, 22, 23, 24, 25, 26, 27, 28, 29, 30, 31, 32, 33] (by decide +kernel) (by decide +kernel)
set_option maxRecDepth 20000 in
theorem gX3_lesson_X3_refused : GoodIn wsX3_lesson (wsV RX3 72 RX3 yX3_refused wsX3_refused) := goodIn_app (goodIn_of _ (by decide +kernel)) ggX3_lesson_X3_refused
theorem dX3_lesson_0 : decode cX3_lesson 0 = .ok (.aload_n 0, 1) := by decide +kernel
theorem dX3_lesson_1 : decode cX3_lesson 1 = .ok (.aload_n 0, 1) := by decide +kernel
theorem dX3_lesson_2 : decode cX3_lesson 2 = .ok (.iload_n 1, 1) := by decide +kernel
theorem dX3_lesson_3 : decode cX3_lesson 3 = .ok (.invokevirtual 76, 3) := by decide +kernel
theorem dX3_lesson_6 : decode cX3_lesson 6 = .ok (.ifCond .eq 17, 3) := by decide +kernel
theorem dX3_lesson_9 : decode cX3_lesson 9 = .ok (.iload_n 2, 1) := by decide +kernel
theorem dX3_lesson_10 : decode cX3_lesson 10 = .ok (.iconst 0, 1) := by decide +kernel
theorem dX3_lesson_11 : decode cX3_lesson 11 = .ok (.bipush 99, 2) := by decide +kernel
theorem dX3_lesson_13 : decode cX3_lesson 13 = .ok (.invokestatic 56, 3) := by decide +kernel
theorem dX3_lesson_16 : decode cX3_lesson 16 = .ok (.ifCond .eq 7, 3) := by decide +kernel
theorem dX3_lesson_19 : decode cX3_lesson 19 = .ok (.iconst 0, 1) := by decide +kernel
theorem dX3_lesson_20 : decode cX3_lesson 20 = .ok (.goto 4, 3) := by decide +kernel
theorem dX3_lesson_23 : decode cX3_lesson 23 = .ok (.iconst 1, 1) := by decide +kernel
theorem dX3_lesson_24 : decode cX3_lesson 24 = .ok (.invokevirtual 72, 3) := by decide +kernel
theorem dX3_lesson_27 : decode cX3_lesson 27 = .ok (.ifCond .eq 5, 3) := by decide +kernel
theorem dX3_lesson_30 : decode cX3_lesson 30 = .ok (.iconst 0, 1) := by decide +kernel
theorem dX3_lesson_31 : decode cX3_lesson 31 = .ok (.ireturn, 1) := by decide +kernel
theorem dX3_lesson_32 : decode cX3_lesson 32 = .ok (.iconst (-1), 1) := by decide +kernel
theorem dX3_lesson_33 : decode cX3_lesson 33 = .ok (.istore_n 3, 1) := by decide +kernel
theorem dX3_lesson_34 : decode cX3_lesson 34 = .ok (.iconst 0, 1) := by decide +kernel
theorem dX3_lesson_35 : decode cX3_lesson 35 = .ok (.istore 4, 2) := by decide +kernel
theorem dX3_lesson_37 : decode cX3_lesson 37 = .ok (.iload 4, 2) := by decide +kernel
theorem dX3_lesson_39 : decode cX3_lesson 39 = .ok (.bipush 12, 2) := by decide +kernel
theorem dX3_lesson_41 : decode cX3_lesson 41 = .ok (.if_icmp .ge 122, 3) := by decide +kernel
theorem dX3_lesson_44 : decode cX3_lesson 44 = .ok (.aload_n 0, 1) := by decide +kernel
theorem dX3_lesson_45 : decode cX3_lesson 45 = .ok (.getfield 19, 3) := by decide +kernel
theorem dX3_lesson_48 : decode cX3_lesson 48 = .ok (.bipush 12, 2) := by decide +kernel
theorem dX3_lesson_50 : decode cX3_lesson 50 = .ok (.iload_n 1, 1) := by decide +kernel
theorem dX3_lesson_51 : decode cX3_lesson 51 = .ok (.imul, 1) := by decide +kernel
theorem dX3_lesson_52 : decode cX3_lesson 52 = .ok (.aload_n 0, 1) := by decide +kernel
theorem dX3_lesson_53 : decode cX3_lesson 53 = .ok (.getfield 7, 3) := by decide +kernel
theorem dX3_lesson_56 : decode cX3_lesson 56 = .ok (.bipush 12, 2) := by decide +kernel
theorem dX3_lesson_58 : decode cX3_lesson 58 = .ok (.iload_n 1, 1) := by decide +kernel
theorem dX3_lesson_59 : decode cX3_lesson 59 = .ok (.imul, 1) := by decide +kernel
theorem dX3_lesson_60 : decode cX3_lesson 60 = .ok (.iload 4, 2) := by decide +kernel
theorem dX3_lesson_62 : decode cX3_lesson 62 = .ok (.iadd, 1) := by decide +kernel
theorem dX3_lesson_63 : decode cX3_lesson 63 = .ok (.iaload, 1) := by decide +kernel
theorem dX3_lesson_64 : decode cX3_lesson 64 = .ok (.iadd, 1) := by decide +kernel
theorem dX3_lesson_65 : decode cX3_lesson 65 = .ok (.iaload, 1) := by decide +kernel
theorem dX3_lesson_66 : decode cX3_lesson 66 = .ok (.istore 5, 2) := by decide +kernel
theorem dX3_lesson_68 : decode cX3_lesson 68 = .ok (.iconst 0, 1) := by decide +kernel
theorem dX3_lesson_69 : decode cX3_lesson 69 = .ok (.istore 6, 2) := by decide +kernel
theorem dX3_lesson_71 : decode cX3_lesson 71 = .ok (.iconst 0, 1) := by decide +kernel
theorem dX3_lesson_72 : decode cX3_lesson 72 = .ok (.istore 7, 2) := by decide +kernel
theorem dX3_lesson_74 : decode cX3_lesson 74 = .ok (.iload 7, 2) := by decide +kernel
theorem dX3_lesson_76 : decode cX3_lesson 76 = .ok (.bipush 12, 2) := by decide +kernel
theorem dX3_lesson_78 : decode cX3_lesson 78 = .ok (.if_icmp .ge 64, 3) := by decide +kernel
theorem dX3_lesson_81 : decode cX3_lesson 81 = .ok (.aload_n 0, 1) := by decide +kernel
theorem dX3_lesson_82 : decode cX3_lesson 82 = .ok (.getfield 19, 3) := by decide +kernel
theorem dX3_lesson_85 : decode cX3_lesson 85 = .ok (.bipush 12, 2) := by decide +kernel
theorem dX3_lesson_87 : decode cX3_lesson 87 = .ok (.iload_n 1, 1) := by decide +kernel
theorem dX3_lesson_88 : decode cX3_lesson 88 = .ok (.imul, 1) := by decide +kernel
theorem dX3_lesson_89 : decode cX3_lesson 89 = .ok (.aload_n 0, 1) := by decide +kernel
theorem dX3_lesson_90 : decode cX3_lesson 90 = .ok (.getfield 7, 3) := by decide +kernel
theorem dX3_lesson_93 : decode cX3_lesson 93 = .ok (.bipush 12, 2) := by decide +kernel
theorem dX3_lesson_95 : decode cX3_lesson 95 = .ok (.iload_n 1, 1) := by decide +kernel
theorem dX3_lesson_96 : decode cX3_lesson 96 = .ok (.imul, 1) := by decide +kernel
theorem dX3_lesson_97 : decode cX3_lesson 97 = .ok (.iload 7, 2) := by decide +kernel
theorem dX3_lesson_99 : decode cX3_lesson 99 = .ok (.iadd, 1) := by decide +kernel
theorem dX3_lesson_100 : decode cX3_lesson 100 = .ok (.iaload, 1) := by decide +kernel
theorem dX3_lesson_101 : decode cX3_lesson 101 = .ok (.iadd, 1) := by decide +kernel
theorem dX3_lesson_102 : decode cX3_lesson 102 = .ok (.iaload, 1) := by decide +kernel
theorem dX3_lesson_103 : decode cX3_lesson 103 = .ok (.istore 8, 2) := by decide +kernel
theorem dX3_lesson_105 : decode cX3_lesson 105 = .ok (.iload 6, 2) := by decide +kernel
theorem dX3_lesson_107 : decode cX3_lesson 107 = .ok (.iload 8, 2) := by decide +kernel
theorem dX3_lesson_109 : decode cX3_lesson 109 = .ok (.iload 5, 2) := by decide +kernel
theorem dX3_lesson_111 : decode cX3_lesson 111 = .ok (.if_icmp .gt 17, 3) := by decide +kernel
theorem dX3_lesson_114 : decode cX3_lesson 114 = .ok (.iload 8, 2) := by decide +kernel
theorem dX3_lesson_116 : decode cX3_lesson 116 = .ok (.iload 5, 2) := by decide +kernel
theorem dX3_lesson_118 : decode cX3_lesson 118 = .ok (.if_icmp .ne 14, 3) := by decide +kernel
theorem dX3_lesson_121 : decode cX3_lesson 121 = .ok (.iload 7, 2) := by decide +kernel
theorem dX3_lesson_123 : decode cX3_lesson 123 = .ok (.iload 4, 2) := by decide +kernel
theorem dX3_lesson_125 : decode cX3_lesson 125 = .ok (.if_icmp .ge 7, 3) := by decide +kernel
theorem dX3_lesson_128 : decode cX3_lesson 128 = .ok (.iconst 1, 1) := by decide +kernel
theorem dX3_lesson_129 : decode cX3_lesson 129 = .ok (.goto 4, 3) := by decide +kernel
theorem dX3_lesson_132 : decode cX3_lesson 132 = .ok (.iconst 0, 1) := by decide +kernel
theorem dX3_lesson_133 : decode cX3_lesson 133 = .ok (.iadd, 1) := by decide +kernel
theorem dX3_lesson_134 : decode cX3_lesson 134 = .ok (.istore 6, 2) := by decide +kernel
theorem dX3_lesson_136 : decode cX3_lesson 136 = .ok (.iinc 7 1, 3) := by decide +kernel
theorem dX3_lesson_139 : decode cX3_lesson 139 = .ok (.goto (-65), 3) := by decide +kernel
theorem dX3_lesson_142 : decode cX3_lesson 142 = .ok (.iload 6, 2) := by decide +kernel
theorem dX3_lesson_144 : decode cX3_lesson 144 = .ok (.iload_n 2, 1) := by decide +kernel
theorem dX3_lesson_145 : decode cX3_lesson 145 = .ok (.iconst 3, 1) := by decide +kernel
theorem dX3_lesson_146 : decode cX3_lesson 146 = .ok (.irem, 1) := by decide +kernel
theorem dX3_lesson_147 : decode cX3_lesson 147 = .ok (.if_icmp .ne 8, 3) := by decide +kernel
theorem dX3_lesson_150 : decode cX3_lesson 150 = .ok (.iload 4, 2) := by decide +kernel
theorem dX3_lesson_152 : decode cX3_lesson 152 = .ok (.goto 4, 3) := by decide +kernel
theorem dX3_lesson_155 : decode cX3_lesson 155 = .ok (.iload_n 3, 1) := by decide +kernel
theorem dX3_lesson_156 : decode cX3_lesson 156 = .ok (.istore_n 3, 1) := by decide +kernel
theorem dX3_lesson_157 : decode cX3_lesson 157 = .ok (.iinc 4 1, 3) := by decide +kernel
theorem dX3_lesson_160 : decode cX3_lesson 160 = .ok (.goto (-123), 3) := by decide +kernel
theorem dX3_lesson_163 : decode cX3_lesson 163 = .ok (.iload_n 3, 1) := by decide +kernel
theorem dX3_lesson_164 : decode cX3_lesson 164 = .ok (.ireturn, 1) := by decide +kernel
set_option maxRecDepth 20000 in
theorem ggX3_saves_X3_why : GoodIn wsX3_saves wsX3_why := goodIn_r _ [5, 6, 7, 8, 4, 9, 10, 11, 12, 13, 14, 15, 16, 40, 41, 42, 43, 44, 45, 46, 47, 48, 49, 50, 51, 52, 53, 54, 55, 56] (by decide +kernel) (by decide +kernel)
set_option maxRecDepth 20000 in
theorem gX3_saves_X3_why : GoodIn wsX3_saves (wsV RX3 82 RX3 yX3_why wsX3_why) := goodIn_app (goodIn_of _ (by decide +kernel)) ggX3_saves_X3_why
set_option maxRecDepth 20000 in
theorem ggX3_saves_X3_refused : GoodIn wsX3_saves wsX3_refused := goodIn_r _ [20, 21, 40, 41, 42, 43, 44, 45, 46, 47, 48, 49, 50, 51, 52, 53, 54, 55, 56] (by decide +kernel) (by decide +kernel)
set_option maxRecDepth 20000 in
theorem gX3_saves_X3_refused : GoodIn wsX3_saves (wsV RX3 72 RX3 yX3_refused wsX3_refused) := goodIn_app (goodIn_of _ (by decide +kernel)) ggX3_saves_X3_refused
set_option maxRecDepth 20000 in
theorem ggX3_saves_X3_saved : GoodIn wsX3_saves wsX3_saved := goodIn_r _ [25, 26, 27, 28, 4, 29, 30, 31, 32, 33, 34, 35, 36, 37, 38, 39, 40, 41, 42, 43, 44, 45, 46, 47, 48, 49, 50, 51, 52, 53, 54, 55, 56] (by decide +kernel) (by decide +kernel)
set_option maxRecDepth 20000 in
theorem gX3_saves_X3_saved : GoodIn wsX3_saves (wsV RX3 85 RX3 yX3_saved wsX3_saved) := goodIn_app (goodIn_of _ (by decide +kernel)) ggX3_saves_X3_saved
theorem dX3_saves_0 : decode cX3_saves 0 = .ok (.aload_n 0, 1) := by decide +kernel
theorem dX3_saves_1 : decode cX3_saves 1 = .ok (.aload_n 0, 1) := by decide +kernel
theorem dX3_saves_2 : decode cX3_saves 2 = .ok (.iload_n 1, 1) := by decide +kernel
theorem dX3_saves_3 : decode cX3_saves 3 = .ok (.iload_n 2, 1) := by decide +kernel
theorem dX3_saves_4 : decode cX3_saves 4 = .ok (.iload_n 3, 1) := by decide +kernel
theorem dX3_saves_5 : decode cX3_saves 5 = .ok (.invokevirtual 82, 3) := by decide +kernel
theorem dX3_saves_8 : decode cX3_saves 8 = .ok (.invokevirtual 72, 3) := by decide +kernel
theorem dX3_saves_11 : decode cX3_saves 11 = .ok (.ifCond .eq 7, 3) := by decide +kernel
theorem dX3_saves_14 : decode cX3_saves 14 = .ok (.iconst 0, 1) := by decide +kernel
theorem dX3_saves_15 : decode cX3_saves 15 = .ok (.goto 10, 3) := by decide +kernel
theorem dX3_saves_18 : decode cX3_saves 18 = .ok (.aload_n 0, 1) := by decide +kernel
theorem dX3_saves_19 : decode cX3_saves 19 = .ok (.iload_n 1, 1) := by decide +kernel
theorem dX3_saves_20 : decode cX3_saves 20 = .ok (.iload_n 2, 1) := by decide +kernel
theorem dX3_saves_21 : decode cX3_saves 21 = .ok (.iload_n 3, 1) := by decide +kernel
theorem dX3_saves_22 : decode cX3_saves 22 = .ok (.invokevirtual 85, 3) := by decide +kernel
theorem dX3_saves_25 : decode cX3_saves 25 = .ok (.ireturn, 1) := by decide +kernel
set_option maxRecDepth 20000 in
theorem ggX3_best_X3_isStudent : GoodIn wsX3_best wsX3_isStudent := goodIn_r _ [5, 6, 7, 8, 4, 9, 33, 34, 35, 36, 37, 38, 39, 40, 41, 42, 43, 44, 45, 46, 47, 48, 49] (by decide +kernel) (by decide +kernel)
set_option maxRecDepth 20000 in
theorem gX3_best_X3_isStudent : GoodIn wsX3_best (wsV RX3 76 RX3 yX3_isStudent wsX3_isStudent) := goodIn_app (goodIn_of _ (by decide +kernel)) ggX3_best_X3_isStudent
set_option maxRecDepth 20000 in
theorem ggX3_best_X3_refused : GoodIn wsX3_best wsX3_refused := goodIn_r _ [13, 14, 33, 34, 35, 36, 37, 38, 39, 40, 41, 42, 43, 44, 45, 46, 47, 48, 49] (by decide +kernel) (by decide +kernel)
set_option maxRecDepth 20000 in
theorem gX3_best_X3_refused : GoodIn wsX3_best (wsV RX3 72 RX3 yX3_refused wsX3_refused) := goodIn_app (goodIn_of _ (by decide +kernel)) ggX3_best_X3_refused
set_option maxRecDepth 20000 in
theorem ggX3_best_X3_saved : GoodIn wsX3_best wsX3_saved := goodIn_r _ [18, 19, 20, 21, 4, 22, 23, 24, 25, 26, 27, 28, 29, 30, 31, 32, 33, 34, 35, 36, 37, 38, 39, 40, 41, 42, 43, 44, 45, 46, 47, 48, 49] (by decide +kernel) (by decide +kernel)
set_option maxRecDepth 20000 in
theorem gX3_best_X3_saved : GoodIn wsX3_best (wsV RX3 85 RX3 yX3_saved wsX3_saved) := goodIn_app (goodIn_of _ (by decide +kernel)) ggX3_best_X3_saved
theorem dX3_best_0 : decode cX3_best 0 = .ok (.aload_n 0, 1) := by decide +kernel
theorem dX3_best_1 : decode cX3_best 1 = .ok (.aload_n 0, 1) := by decide +kernel
theorem dX3_best_2 : decode cX3_best 2 = .ok (.iload_n 1, 1) := by decide +kernel
theorem dX3_best_3 : decode cX3_best 3 = .ok (.invokevirtual 76, 3) := by decide +kernel
theorem dX3_best_6 : decode cX3_best 6 = .ok (.ifCond .eq 7, 3) := by decide +kernel
theorem dX3_best_9 : decode cX3_best 9 = .ok (.iconst 0, 1) := by decide +kernel
theorem dX3_best_10 : decode cX3_best 10 = .ok (.goto 4, 3) := by decide +kernel
theorem dX3_best_13 : decode cX3_best 13 = .ok (.iconst 1, 1) := by decide +kernel
theorem dX3_best_14 : decode cX3_best 14 = .ok (.invokevirtual 72, 3) := by decide +kernel
theorem dX3_best_17 : decode cX3_best 17 = .ok (.ifCond .eq 5, 3) := by decide +kernel
theorem dX3_best_20 : decode cX3_best 20 = .ok (.iconst 0, 1) := by decide +kernel
theorem dX3_best_21 : decode cX3_best 21 = .ok (.ireturn, 1) := by decide +kernel
theorem dX3_best_22 : decode cX3_best 22 = .ok (.iconst (-1), 1) := by decide +kernel
theorem dX3_best_23 : decode cX3_best 23 = .ok (.istore_n 2, 1) := by decide +kernel
theorem dX3_best_24 : decode cX3_best 24 = .ok (.iconst 0, 1) := by decide +kernel
theorem dX3_best_25 : decode cX3_best 25 = .ok (.istore_n 3, 1) := by decide +kernel
theorem dX3_best_26 : decode cX3_best 26 = .ok (.iconst 0, 1) := by decide +kernel
theorem dX3_best_27 : decode cX3_best 27 = .ok (.istore 4, 2) := by decide +kernel
theorem dX3_best_29 : decode cX3_best 29 = .ok (.iload 4, 2) := by decide +kernel
theorem dX3_best_31 : decode cX3_best 31 = .ok (.sipush 144, 3) := by decide +kernel
theorem dX3_best_34 : decode cX3_best 34 = .ok (.if_icmp .ge 69, 3) := by decide +kernel
theorem dX3_best_37 : decode cX3_best 37 = .ok (.iload 4, 2) := by decide +kernel
theorem dX3_best_39 : decode cX3_best 39 = .ok (.bipush 12, 2) := by decide +kernel
theorem dX3_best_41 : decode cX3_best 41 = .ok (.idiv, 1) := by decide +kernel
theorem dX3_best_42 : decode cX3_best 42 = .ok (.iload 4, 2) := by decide +kernel
theorem dX3_best_44 : decode cX3_best 44 = .ok (.bipush 12, 2) := by decide +kernel
theorem dX3_best_46 : decode cX3_best 46 = .ok (.irem, 1) := by decide +kernel
theorem dX3_best_47 : decode cX3_best 47 = .ok (.if_icmp .ge 21, 3) := by decide +kernel
theorem dX3_best_50 : decode cX3_best 50 = .ok (.aload_n 0, 1) := by decide +kernel
theorem dX3_best_51 : decode cX3_best 51 = .ok (.iload_n 1, 1) := by decide +kernel
theorem dX3_best_52 : decode cX3_best 52 = .ok (.iload 4, 2) := by decide +kernel
theorem dX3_best_54 : decode cX3_best 54 = .ok (.bipush 12, 2) := by decide +kernel
theorem dX3_best_56 : decode cX3_best 56 = .ok (.idiv, 1) := by decide +kernel
theorem dX3_best_57 : decode cX3_best 57 = .ok (.iload 4, 2) := by decide +kernel
theorem dX3_best_59 : decode cX3_best 59 = .ok (.bipush 12, 2) := by decide +kernel
theorem dX3_best_61 : decode cX3_best 61 = .ok (.irem, 1) := by decide +kernel
theorem dX3_best_62 : decode cX3_best 62 = .ok (.invokevirtual 85, 3) := by decide +kernel
theorem dX3_best_65 : decode cX3_best 65 = .ok (.goto 4, 3) := by decide +kernel
theorem dX3_best_68 : decode cX3_best 68 = .ok (.iconst 0, 1) := by decide +kernel
theorem dX3_best_69 : decode cX3_best 69 = .ok (.istore 5, 2) := by decide +kernel
theorem dX3_best_71 : decode cX3_best 71 = .ok (.iload 5, 2) := by decide +kernel
theorem dX3_best_73 : decode cX3_best 73 = .ok (.iload_n 3, 1) := by decide +kernel
theorem dX3_best_74 : decode cX3_best 74 = .ok (.if_icmp .le 8, 3) := by decide +kernel
theorem dX3_best_77 : decode cX3_best 77 = .ok (.iload 4, 2) := by decide +kernel
theorem dX3_best_79 : decode cX3_best 79 = .ok (.goto 4, 3) := by decide +kernel
theorem dX3_best_82 : decode cX3_best 82 = .ok (.iload_n 2, 1) := by decide +kernel
theorem dX3_best_83 : decode cX3_best 83 = .ok (.istore_n 2, 1) := by decide +kernel
theorem dX3_best_84 : decode cX3_best 84 = .ok (.iload 5, 2) := by decide +kernel
theorem dX3_best_86 : decode cX3_best 86 = .ok (.iload_n 3, 1) := by decide +kernel
theorem dX3_best_87 : decode cX3_best 87 = .ok (.if_icmp .le 8, 3) := by decide +kernel
theorem dX3_best_90 : decode cX3_best 90 = .ok (.iload 5, 2) := by decide +kernel
theorem dX3_best_92 : decode cX3_best 92 = .ok (.goto 4, 3) := by decide +kernel
theorem dX3_best_95 : decode cX3_best 95 = .ok (.iload_n 3, 1) := by decide +kernel
theorem dX3_best_96 : decode cX3_best 96 = .ok (.istore_n 3, 1) := by decide +kernel
theorem dX3_best_97 : decode cX3_best 97 = .ok (.iinc 4 1, 3) := by decide +kernel
theorem dX3_best_100 : decode cX3_best 100 = .ok (.goto (-71), 3) := by decide +kernel
theorem dX3_best_103 : decode cX3_best 103 = .ok (.iload_n 2, 1) := by decide +kernel
theorem dX3_best_104 : decode cX3_best 104 = .ok (.ireturn, 1) := by decide +kernel
set_option maxRecDepth 20000 in
theorem ggX3_draft_X3_isKey : GoodIn wsX3_draft wsX3_isKey := goodIn_r _ [6, 7, 8, 5, 9] (by decide +kernel) (by decide +kernel)
set_option maxRecDepth 20000 in
theorem gX3_draft_X3_isKey : GoodIn wsX3_draft (va_wsS RX3 79 yX3_isKey wsX3_isKey) := goodIn_app (goodIn_of _ (by decide +kernel)) ggX3_draft_X3_isKey
set_option maxRecDepth 20000 in
theorem ggX3_draft_X3_refused : GoodIn wsX3_draft wsX3_refused := goodIn_r _ [13, 14, 15, 16, 17, 18, 19, 20, 21, 22, 23, 24, 25, 26, 27, 28, 29, 30, 31] (by decide +kernel) (by decide +kernel)
set_option maxRecDepth 20000 in
theorem gX3_draft_X3_refused : GoodIn wsX3_draft (wsV RX3 72 RX3 yX3_refused wsX3_refused) := goodIn_app (goodIn_of _ (by decide +kernel)) ggX3_draft_X3_refused
theorem dX3_draft_0 : decode cX3_draft 0 = .ok (.aload_n 0, 1) := by decide +kernel
theorem dX3_draft_1 : decode cX3_draft 1 = .ok (.iload_n 1, 1) := by decide +kernel
theorem dX3_draft_2 : decode cX3_draft 2 = .ok (.invokestatic 79, 3) := by decide +kernel
theorem dX3_draft_5 : decode cX3_draft 5 = .ok (.ifCond .ne 7, 3) := by decide +kernel
theorem dX3_draft_8 : decode cX3_draft 8 = .ok (.iconst 1, 1) := by decide +kernel
theorem dX3_draft_9 : decode cX3_draft 9 = .ok (.goto 17, 3) := by decide +kernel
theorem dX3_draft_12 : decode cX3_draft 12 = .ok (.aload_n 0, 1) := by decide +kernel
theorem dX3_draft_13 : decode cX3_draft 13 = .ok (.getfield 92, 3) := by decide +kernel
theorem dX3_draft_16 : decode cX3_draft 16 = .ok (.bipush 24, 2) := by decide +kernel
theorem dX3_draft_18 : decode cX3_draft 18 = .ok (.if_icmp .ne 7, 3) := by decide +kernel
theorem dX3_draft_21 : decode cX3_draft 21 = .ok (.iconst 2, 1) := by decide +kernel
theorem dX3_draft_22 : decode cX3_draft 22 = .ok (.goto 4, 3) := by decide +kernel
theorem dX3_draft_25 : decode cX3_draft 25 = .ok (.iconst 0, 1) := by decide +kernel
theorem dX3_draft_26 : decode cX3_draft 26 = .ok (.invokevirtual 72, 3) := by decide +kernel
theorem dX3_draft_29 : decode cX3_draft 29 = .ok (.ifCond .eq 5, 3) := by decide +kernel
theorem dX3_draft_32 : decode cX3_draft 32 = .ok (.iconst 0, 1) := by decide +kernel
theorem dX3_draft_33 : decode cX3_draft 33 = .ok (.ireturn, 1) := by decide +kernel
theorem dX3_draft_34 : decode cX3_draft 34 = .ok (.aload_n 0, 1) := by decide +kernel
theorem dX3_draft_35 : decode cX3_draft 35 = .ok (.getfield 37, 3) := by decide +kernel
theorem dX3_draft_38 : decode cX3_draft 38 = .ok (.aload_n 0, 1) := by decide +kernel
theorem dX3_draft_39 : decode cX3_draft 39 = .ok (.getfield 92, 3) := by decide +kernel
theorem dX3_draft_42 : decode cX3_draft 42 = .ok (.iload_n 1, 1) := by decide +kernel
theorem dX3_draft_43 : decode cX3_draft 43 = .ok (.iastore, 1) := by decide +kernel
theorem dX3_draft_44 : decode cX3_draft 44 = .ok (.aload_n 0, 1) := by decide +kernel
theorem dX3_draft_45 : decode cX3_draft 45 = .ok (.dup, 1) := by decide +kernel
theorem dX3_draft_46 : decode cX3_draft 46 = .ok (.getfield 92, 3) := by decide +kernel
theorem dX3_draft_49 : decode cX3_draft 49 = .ok (.iconst 1, 1) := by decide +kernel
theorem dX3_draft_50 : decode cX3_draft 50 = .ok (.iadd, 1) := by decide +kernel
theorem dX3_draft_51 : decode cX3_draft 51 = .ok (.putfield 92, 3) := by decide +kernel
theorem dX3_draft_54 : decode cX3_draft 54 = .ok (.aload_n 0, 1) := by decide +kernel
theorem dX3_draft_55 : decode cX3_draft 55 = .ok (.getfield 92, 3) := by decide +kernel
theorem dX3_draft_58 : decode cX3_draft 58 = .ok (.ireturn, 1) := by decide +kernel
theorem dX3_clear_0 : decode cX3_clear 0 = .ok (.aload_n 0, 1) := by decide +kernel
theorem dX3_clear_1 : decode cX3_clear 1 = .ok (.iconst 0, 1) := by decide +kernel
theorem dX3_clear_2 : decode cX3_clear 2 = .ok (.putfield 49, 3) := by decide +kernel
theorem dX3_clear_5 : decode cX3_clear 5 = .ok (.aload_n 0, 1) := by decide +kernel
theorem dX3_clear_6 : decode cX3_clear 6 = .ok (.getfield 92, 3) := by decide +kernel
theorem dX3_clear_9 : decode cX3_clear 9 = .ok (.istore_n 1, 1) := by decide +kernel
theorem dX3_clear_10 : decode cX3_clear 10 = .ok (.aload_n 0, 1) := by decide +kernel
theorem dX3_clear_11 : decode cX3_clear 11 = .ok (.iconst 0, 1) := by decide +kernel
theorem dX3_clear_12 : decode cX3_clear 12 = .ok (.putfield 92, 3) := by decide +kernel
theorem dX3_clear_15 : decode cX3_clear 15 = .ok (.iload_n 1, 1) := by decide +kernel
theorem dX3_clear_16 : decode cX3_clear 16 = .ok (.ireturn, 1) := by decide +kernel
set_option maxRecDepth 20000 in
theorem ggX3_contest_X3_refused : GoodIn wsX3_contest wsX3_refused := goodIn_r _ [12, 13, 17, 18, 19, 20, 21, 22, 23, 24, 25, 26, 27, 28, 29, 30, 31, 32, 33] (by decide +kernel) (by decide +kernel)
set_option maxRecDepth 20000 in
theorem gX3_contest_X3_refused : GoodIn wsX3_contest (wsV RX3 72 RX3 yX3_refused wsX3_refused) := goodIn_app (goodIn_of _ (by decide +kernel)) ggX3_contest_X3_refused
set_option maxRecDepth 20000 in
theorem ggX3_contest_X3_step : GoodIn wsX3_contest wsX3_step := goodIn_r _ [16] (by decide +kernel) (by decide +kernel)
set_option maxRecDepth 20000 in
theorem gX3_contest_X3_step : GoodIn wsX3_contest (va_wsS RX3 64 yX3_step wsX3_step) := goodIn_app (goodIn_of _ (by decide +kernel)) ggX3_contest_X3_step
theorem dX3_contest_0 : decode cX3_contest 0 = .ok (.aload_n 0, 1) := by decide +kernel
theorem dX3_contest_1 : decode cX3_contest 1 = .ok (.aload_n 0, 1) := by decide +kernel
theorem dX3_contest_2 : decode cX3_contest 2 = .ok (.getfield 92, 3) := by decide +kernel
theorem dX3_contest_5 : decode cX3_contest 5 = .ok (.ifCond .eq 19, 3) := by decide +kernel
theorem dX3_contest_8 : decode cX3_contest 8 = .ok (.aload_n 0, 1) := by decide +kernel
theorem dX3_contest_9 : decode cX3_contest 9 = .ok (.getfield 53, 3) := by decide +kernel
theorem dX3_contest_12 : decode cX3_contest 12 = .ok (.ifCond .eq 12, 3) := by decide +kernel
theorem dX3_contest_15 : decode cX3_contest 15 = .ok (.aload_n 0, 1) := by decide +kernel
theorem dX3_contest_16 : decode cX3_contest 16 = .ok (.getfield 95, 3) := by decide +kernel
theorem dX3_contest_19 : decode cX3_contest 19 = .ok (.bipush 6, 2) := by decide +kernel
theorem dX3_contest_21 : decode cX3_contest 21 = .ok (.if_icmp .ne 7, 3) := by decide +kernel
theorem dX3_contest_24 : decode cX3_contest 24 = .ok (.iconst 1, 1) := by decide +kernel
theorem dX3_contest_25 : decode cX3_contest 25 = .ok (.goto 4, 3) := by decide +kernel
theorem dX3_contest_28 : decode cX3_contest 28 = .ok (.iconst 0, 1) := by decide +kernel
theorem dX3_contest_29 : decode cX3_contest 29 = .ok (.invokevirtual 72, 3) := by decide +kernel
theorem dX3_contest_32 : decode cX3_contest 32 = .ok (.ifCond .eq 5, 3) := by decide +kernel
theorem dX3_contest_35 : decode cX3_contest 35 = .ok (.iconst 0, 1) := by decide +kernel
theorem dX3_contest_36 : decode cX3_contest 36 = .ok (.ireturn, 1) := by decide +kernel
theorem dX3_contest_37 : decode cX3_contest 37 = .ok (.aload_n 0, 1) := by decide +kernel
theorem dX3_contest_38 : decode cX3_contest 38 = .ok (.getfield 95, 3) := by decide +kernel
theorem dX3_contest_41 : decode cX3_contest 41 = .ok (.istore_n 1, 1) := by decide +kernel
theorem dX3_contest_42 : decode cX3_contest 42 = .ok (.aload_n 0, 1) := by decide +kernel
theorem dX3_contest_43 : decode cX3_contest 43 = .ok (.dup, 1) := by decide +kernel
theorem dX3_contest_44 : decode cX3_contest 44 = .ok (.getfield 95, 3) := by decide +kernel
theorem dX3_contest_47 : decode cX3_contest 47 = .ok (.iconst 1, 1) := by decide +kernel
theorem dX3_contest_48 : decode cX3_contest 48 = .ok (.iadd, 1) := by decide +kernel
theorem dX3_contest_49 : decode cX3_contest 49 = .ok (.putfield 95, 3) := by decide +kernel
theorem dX3_contest_52 : decode cX3_contest 52 = .ok (.aload_n 0, 1) := by decide +kernel
theorem dX3_contest_53 : decode cX3_contest 53 = .ok (.getfield 40, 3) := by decide +kernel
theorem dX3_contest_56 : decode cX3_contest 56 = .ok (.iload_n 1, 1) := by decide +kernel
theorem dX3_contest_57 : decode cX3_contest 57 = .ok (.aload_n 0, 1) := by decide +kernel
theorem dX3_contest_58 : decode cX3_contest 58 = .ok (.getfield 53, 3) := by decide +kernel
theorem dX3_contest_61 : decode cX3_contest 61 = .ok (.iastore, 1) := by decide +kernel
theorem dX3_contest_62 : decode cX3_contest 62 = .ok (.iconst 0, 1) := by decide +kernel
theorem dX3_contest_63 : decode cX3_contest 63 = .ok (.istore_n 2, 1) := by decide +kernel
theorem dX3_contest_64 : decode cX3_contest 64 = .ok (.iload_n 2, 1) := by decide +kernel
theorem dX3_contest_65 : decode cX3_contest 65 = .ok (.aload_n 0, 1) := by decide +kernel
theorem dX3_contest_66 : decode cX3_contest 66 = .ok (.getfield 53, 3) := by decide +kernel
theorem dX3_contest_69 : decode cX3_contest 69 = .ok (.if_icmp .ge 82, 3) := by decide +kernel
theorem dX3_contest_72 : decode cX3_contest 72 = .ok (.iconst 2, 1) := by decide +kernel
theorem dX3_contest_73 : decode cX3_contest 73 = .ok (.istore_n 3, 1) := by decide +kernel
theorem dX3_contest_74 : decode cX3_contest 74 = .ok (.iconst 1, 1) := by decide +kernel
theorem dX3_contest_75 : decode cX3_contest 75 = .ok (.istore 4, 2) := by decide +kernel
theorem dX3_contest_77 : decode cX3_contest 77 = .ok (.iload 4, 2) := by decide +kernel
theorem dX3_contest_79 : decode cX3_contest 79 = .ok (.aload_n 0, 1) := by decide +kernel
theorem dX3_contest_80 : decode cX3_contest 80 = .ok (.getfield 92, 3) := by decide +kernel
theorem dX3_contest_83 : decode cX3_contest 83 = .ok (.if_icmp .ge 51, 3) := by decide +kernel
theorem dX3_contest_86 : decode cX3_contest 86 = .ok (.iload_n 3, 1) := by decide +kernel
theorem dX3_contest_87 : decode cX3_contest 87 = .ok (.aload_n 0, 1) := by decide +kernel
theorem dX3_contest_88 : decode cX3_contest 88 = .ok (.getfield 7, 3) := by decide +kernel
theorem dX3_contest_91 : decode cX3_contest 91 = .ok (.bipush 12, 2) := by decide +kernel
theorem dX3_contest_93 : decode cX3_contest 93 = .ok (.iload_n 2, 1) := by decide +kernel
theorem dX3_contest_94 : decode cX3_contest 94 = .ok (.imul, 1) := by decide +kernel
theorem dX3_contest_95 : decode cX3_contest 95 = .ok (.aload_n 0, 1) := by decide +kernel
theorem dX3_contest_96 : decode cX3_contest 96 = .ok (.getfield 37, 3) := by decide +kernel
theorem dX3_contest_99 : decode cX3_contest 99 = .ok (.iload 4, 2) := by decide +kernel
theorem dX3_contest_101 : decode cX3_contest 101 = .ok (.iconst 1, 1) := by decide +kernel
theorem dX3_contest_102 : decode cX3_contest 102 = .ok (.isub, 1) := by decide +kernel
theorem dX3_contest_103 : decode cX3_contest 103 = .ok (.iaload, 1) := by decide +kernel
theorem dX3_contest_104 : decode cX3_contest 104 = .ok (.iadd, 1) := by decide +kernel
theorem dX3_contest_105 : decode cX3_contest 105 = .ok (.iaload, 1) := by decide +kernel
theorem dX3_contest_106 : decode cX3_contest 106 = .ok (.aload_n 0, 1) := by decide +kernel
theorem dX3_contest_107 : decode cX3_contest 107 = .ok (.getfield 7, 3) := by decide +kernel
theorem dX3_contest_110 : decode cX3_contest 110 = .ok (.bipush 12, 2) := by decide +kernel
theorem dX3_contest_112 : decode cX3_contest 112 = .ok (.iload_n 2, 1) := by decide +kernel
theorem dX3_contest_113 : decode cX3_contest 113 = .ok (.imul, 1) := by decide +kernel
theorem dX3_contest_114 : decode cX3_contest 114 = .ok (.aload_n 0, 1) := by decide +kernel
theorem dX3_contest_115 : decode cX3_contest 115 = .ok (.getfield 37, 3) := by decide +kernel
theorem dX3_contest_118 : decode cX3_contest 118 = .ok (.iload 4, 2) := by decide +kernel
theorem dX3_contest_120 : decode cX3_contest 120 = .ok (.iaload, 1) := by decide +kernel
theorem dX3_contest_121 : decode cX3_contest 121 = .ok (.iadd, 1) := by decide +kernel
theorem dX3_contest_122 : decode cX3_contest 122 = .ok (.iaload, 1) := by decide +kernel
theorem dX3_contest_123 : decode cX3_contest 123 = .ok (.invokestatic 64, 3) := by decide +kernel
theorem dX3_contest_126 : decode cX3_contest 126 = .ok (.iadd, 1) := by decide +kernel
theorem dX3_contest_127 : decode cX3_contest 127 = .ok (.istore_n 3, 1) := by decide +kernel
theorem dX3_contest_128 : decode cX3_contest 128 = .ok (.iinc 4 1, 3) := by decide +kernel
theorem dX3_contest_131 : decode cX3_contest 131 = .ok (.goto (-54), 3) := by decide +kernel
theorem dX3_contest_134 : decode cX3_contest 134 = .ok (.aload_n 0, 1) := by decide +kernel
theorem dX3_contest_135 : decode cX3_contest 135 = .ok (.getfield 43, 3) := by decide +kernel
theorem dX3_contest_138 : decode cX3_contest 138 = .ok (.iconst 5, 1) := by decide +kernel
theorem dX3_contest_139 : decode cX3_contest 139 = .ok (.iload_n 1, 1) := by decide +kernel
theorem dX3_contest_140 : decode cX3_contest 140 = .ok (.imul, 1) := by decide +kernel
theorem dX3_contest_141 : decode cX3_contest 141 = .ok (.iload_n 2, 1) := by decide +kernel
theorem dX3_contest_142 : decode cX3_contest 142 = .ok (.iadd, 1) := by decide +kernel
theorem dX3_contest_143 : decode cX3_contest 143 = .ok (.iload_n 3, 1) := by decide +kernel
theorem dX3_contest_144 : decode cX3_contest 144 = .ok (.iastore, 1) := by decide +kernel
theorem dX3_contest_145 : decode cX3_contest 145 = .ok (.iinc 2 1, 3) := by decide +kernel
theorem dX3_contest_148 : decode cX3_contest 148 = .ok (.goto (-84), 3) := by decide +kernel
theorem dX3_contest_151 : decode cX3_contest 151 = .ok (.aload_n 0, 1) := by decide +kernel
theorem dX3_contest_152 : decode cX3_contest 152 = .ok (.iconst 0, 1) := by decide +kernel
theorem dX3_contest_153 : decode cX3_contest 153 = .ok (.putfield 92, 3) := by decide +kernel
theorem dX3_contest_156 : decode cX3_contest 156 = .ok (.iload_n 1, 1) := by decide +kernel
theorem dX3_contest_157 : decode cX3_contest 157 = .ok (.ireturn, 1) := by decide +kernel
set_option maxRecDepth 20000 in
theorem ggX3_isIn_X3_is : GoodIn wsX3_isIn wsX3_is := goodIn_r _ [6] (by decide +kernel) (by decide +kernel)
set_option maxRecDepth 20000 in
theorem gX3_isIn_X3_is : GoodIn wsX3_isIn (va_wsS RX3 56 yX3_is wsX3_is) := goodIn_app (goodIn_of _ (by decide +kernel)) ggX3_isIn_X3_is
theorem dX3_isIn_0 : decode cX3_isIn 0 = .ok (.iload_n 1, 1) := by decide +kernel
theorem dX3_isIn_1 : decode cX3_isIn 1 = .ok (.iconst 0, 1) := by decide +kernel
theorem dX3_isIn_2 : decode cX3_isIn 2 = .ok (.aload_n 0, 1) := by decide +kernel
theorem dX3_isIn_3 : decode cX3_isIn 3 = .ok (.getfield 95, 3) := by decide +kernel
theorem dX3_isIn_6 : decode cX3_isIn 6 = .ok (.iconst 1, 1) := by decide +kernel
theorem dX3_isIn_7 : decode cX3_isIn 7 = .ok (.isub, 1) := by decide +kernel
theorem dX3_isIn_8 : decode cX3_isIn 8 = .ok (.invokestatic 56, 3) := by decide +kernel
theorem dX3_isIn_11 : decode cX3_isIn 11 = .ok (.ifCond .eq 23, 3) := by decide +kernel
theorem dX3_isIn_14 : decode cX3_isIn 14 = .ok (.iload_n 2, 1) := by decide +kernel
theorem dX3_isIn_15 : decode cX3_isIn 15 = .ok (.iconst 0, 1) := by decide +kernel
theorem dX3_isIn_16 : decode cX3_isIn 16 = .ok (.aload_n 0, 1) := by decide +kernel
theorem dX3_isIn_17 : decode cX3_isIn 17 = .ok (.getfield 40, 3) := by decide +kernel
theorem dX3_isIn_20 : decode cX3_isIn 20 = .ok (.iload_n 1, 1) := by decide +kernel
theorem dX3_isIn_21 : decode cX3_isIn 21 = .ok (.iaload, 1) := by decide +kernel
theorem dX3_isIn_22 : decode cX3_isIn 22 = .ok (.iconst 1, 1) := by decide +kernel
theorem dX3_isIn_23 : decode cX3_isIn 23 = .ok (.isub, 1) := by decide +kernel
theorem dX3_isIn_24 : decode cX3_isIn 24 = .ok (.invokestatic 56, 3) := by decide +kernel
theorem dX3_isIn_27 : decode cX3_isIn 27 = .ok (.ifCond .eq 7, 3) := by decide +kernel
theorem dX3_isIn_30 : decode cX3_isIn 30 = .ok (.iconst 1, 1) := by decide +kernel
theorem dX3_isIn_31 : decode cX3_isIn 31 = .ok (.goto 4, 3) := by decide +kernel
theorem dX3_isIn_34 : decode cX3_isIn 34 = .ok (.iconst 0, 1) := by decide +kernel
theorem dX3_isIn_35 : decode cX3_isIn 35 = .ok (.ireturn, 1) := by decide +kernel
theorem dX3_score_0 : decode cX3_score 0 = .ok (.sipush 1000, 3) := by decide +kernel
theorem dX3_score_3 : decode cX3_score 3 = .ok (.aload_n 0, 1) := by decide +kernel
theorem dX3_score_4 : decode cX3_score 4 = .ok (.getfield 46, 3) := by decide +kernel
theorem dX3_score_7 : decode cX3_score 7 = .ok (.iload_n 1, 1) := by decide +kernel
theorem dX3_score_8 : decode cX3_score 8 = .ok (.iaload, 1) := by decide +kernel
theorem dX3_score_9 : decode cX3_score 9 = .ok (.imul, 1) := by decide +kernel
theorem dX3_score_10 : decode cX3_score 10 = .ok (.aload_n 0, 1) := by decide +kernel
theorem dX3_score_11 : decode cX3_score 11 = .ok (.getfield 43, 3) := by decide +kernel
theorem dX3_score_14 : decode cX3_score 14 = .ok (.iload_n 1, 1) := by decide +kernel
theorem dX3_score_15 : decode cX3_score 15 = .ok (.iaload, 1) := by decide +kernel
theorem dX3_score_16 : decode cX3_score 16 = .ok (.idiv, 1) := by decide +kernel
theorem dX3_score_17 : decode cX3_score 17 = .ok (.ireturn, 1) := by decide +kernel
set_option maxRecDepth 20000 in
theorem ggX3_result_X3_isIn : GoodIn wsX3_result wsX3_isIn := goodIn_r _ [7, 8, 9, 10, 11, 6, 12, 23, 24, 25, 26, 27, 28, 29, 30, 31, 32, 33, 34, 35, 36, 37, 38, 39] (by decide +kernel) (by decide +kernel)
set_option maxRecDepth 20000 in
theorem gX3_result_X3_isIn : GoodIn wsX3_result (wsV RX3 98 RX3 yX3_isIn wsX3_isIn) := goodIn_app (goodIn_of _ (by decide +kernel)) ggX3_result_X3_isIn
set_option maxRecDepth 20000 in
theorem ggX3_result_X3_is : GoodIn wsX3_result wsX3_is := goodIn_r _ [12] (by decide +kernel) (by decide +kernel)
set_option maxRecDepth 20000 in
theorem gX3_result_X3_is : GoodIn wsX3_result (va_wsS RX3 56 yX3_is wsX3_is) := goodIn_app (goodIn_of _ (by decide +kernel)) ggX3_result_X3_is
set_option maxRecDepth 20000 in
theorem ggX3_result_X3_refused : GoodIn wsX3_result wsX3_refused := goodIn_r _ [16, 17, 23, 24, 25, 26, 27, 28, 29, 30, 31, 32, 33, 34, 35, 36, 37, 38, 39] (by decide +kernel) (by decide +kernel)
set_option maxRecDepth 20000 in
theorem gX3_result_X3_refused : GoodIn wsX3_result (wsV RX3 72 RX3 yX3_refused wsX3_refused) := goodIn_app (goodIn_of _ (by decide +kernel)) ggX3_result_X3_refused
set_option maxRecDepth 20000 in
theorem ggX3_result_X3_score : GoodIn wsX3_result wsX3_score := goodIn_r _ [21, 2, 22, 23, 24, 25, 26, 27, 28, 29, 30, 31, 32, 33, 34, 35, 36, 37, 38, 39] (by decide +kernel) (by decide +kernel)
set_option maxRecDepth 20000 in
theorem gX3_result_X3_score : GoodIn wsX3_result (wsV RX3 103 RX3 yX3_score wsX3_score) := goodIn_app (goodIn_of _ (by decide +kernel)) ggX3_result_X3_score
theorem dX3_result_0 : decode cX3_result 0 = .ok (.aload_n 0, 1) := by decide +kernel
theorem dX3_result_1 : decode cX3_result 1 = .ok (.iload_n 1, 1) := by decide +kernel
theorem dX3_result_2 : decode cX3_result 2 = .ok (.iload_n 2, 1) := by decide +kernel
theorem dX3_result_3 : decode cX3_result 3 = .ok (.invokevirtual 98, 3) := by decide +kernel
theorem dX3_result_6 : decode cX3_result 6 = .ok (.istore 4, 2) := by decide +kernel
theorem dX3_result_8 : decode cX3_result 8 = .ok (.iload 4, 2) := by decide +kernel
theorem dX3_result_10 : decode cX3_result 10 = .ok (.ifCond .eq 11, 3) := by decide +kernel
theorem dX3_result_13 : decode cX3_result 13 = .ok (.iconst 5, 1) := by decide +kernel
theorem dX3_result_14 : decode cX3_result 14 = .ok (.iload_n 1, 1) := by decide +kernel
theorem dX3_result_15 : decode cX3_result 15 = .ok (.imul, 1) := by decide +kernel
theorem dX3_result_16 : decode cX3_result 16 = .ok (.iload_n 2, 1) := by decide +kernel
theorem dX3_result_17 : decode cX3_result 17 = .ok (.iadd, 1) := by decide +kernel
theorem dX3_result_18 : decode cX3_result 18 = .ok (.goto 4, 3) := by decide +kernel
theorem dX3_result_21 : decode cX3_result 21 = .ok (.iconst 0, 1) := by decide +kernel
theorem dX3_result_22 : decode cX3_result 22 = .ok (.istore 5, 2) := by decide +kernel
theorem dX3_result_24 : decode cX3_result 24 = .ok (.aload_n 0, 1) := by decide +kernel
theorem dX3_result_25 : decode cX3_result 25 = .ok (.iload 4, 2) := by decide +kernel
theorem dX3_result_27 : decode cX3_result 27 = .ok (.ifCond .ne 7, 3) := by decide +kernel
theorem dX3_result_30 : decode cX3_result 30 = .ok (.iconst 1, 1) := by decide +kernel
theorem dX3_result_31 : decode cX3_result 31 = .ok (.goto 32, 3) := by decide +kernel
theorem dX3_result_34 : decode cX3_result 34 = .ok (.iload_n 3, 1) := by decide +kernel
theorem dX3_result_35 : decode cX3_result 35 = .ok (.iconst 1, 1) := by decide +kernel
theorem dX3_result_36 : decode cX3_result 36 = .ok (.ldc 102, 2) := by decide +kernel
theorem dX3_result_38 : decode cX3_result 38 = .ok (.invokestatic 56, 3) := by decide +kernel
theorem dX3_result_41 : decode cX3_result 41 = .ok (.ifCond .ne 7, 3) := by decide +kernel
theorem dX3_result_44 : decode cX3_result 44 = .ok (.iconst 2, 1) := by decide +kernel
theorem dX3_result_45 : decode cX3_result 45 = .ok (.goto 18, 3) := by decide +kernel
theorem dX3_result_48 : decode cX3_result 48 = .ok (.aload_n 0, 1) := by decide +kernel
theorem dX3_result_49 : decode cX3_result 49 = .ok (.getfield 46, 3) := by decide +kernel
theorem dX3_result_52 : decode cX3_result 52 = .ok (.iload 5, 2) := by decide +kernel
theorem dX3_result_54 : decode cX3_result 54 = .ok (.iaload, 1) := by decide +kernel
theorem dX3_result_55 : decode cX3_result 55 = .ok (.ifCond .le 7, 3) := by decide +kernel
theorem dX3_result_58 : decode cX3_result 58 = .ok (.iconst 3, 1) := by decide +kernel
theorem dX3_result_59 : decode cX3_result 59 = .ok (.goto 4, 3) := by decide +kernel
theorem dX3_result_62 : decode cX3_result 62 = .ok (.iconst 0, 1) := by decide +kernel
theorem dX3_result_63 : decode cX3_result 63 = .ok (.invokevirtual 72, 3) := by decide +kernel
theorem dX3_result_66 : decode cX3_result 66 = .ok (.ifCond .eq 5, 3) := by decide +kernel
theorem dX3_result_69 : decode cX3_result 69 = .ok (.iconst 0, 1) := by decide +kernel
theorem dX3_result_70 : decode cX3_result 70 = .ok (.ireturn, 1) := by decide +kernel
theorem dX3_result_71 : decode cX3_result 71 = .ok (.aload_n 0, 1) := by decide +kernel
theorem dX3_result_72 : decode cX3_result 72 = .ok (.getfield 46, 3) := by decide +kernel
theorem dX3_result_75 : decode cX3_result 75 = .ok (.iload 5, 2) := by decide +kernel
theorem dX3_result_77 : decode cX3_result 77 = .ok (.iload_n 3, 1) := by decide +kernel
theorem dX3_result_78 : decode cX3_result 78 = .ok (.iastore, 1) := by decide +kernel
theorem dX3_result_79 : decode cX3_result 79 = .ok (.aload_n 0, 1) := by decide +kernel
theorem dX3_result_80 : decode cX3_result 80 = .ok (.iload 5, 2) := by decide +kernel
theorem dX3_result_82 : decode cX3_result 82 = .ok (.invokevirtual 103, 3) := by decide +kernel
theorem dX3_result_85 : decode cX3_result 85 = .ok (.ireturn, 1) := by decide +kernel
set_option maxRecDepth 20000 in
theorem ggX3_rank_X3_score : GoodIn wsX3_rank wsX3_score := goodIn_r _ [7, 2, 8, 9, 10, 11, 12, 13, 14, 15, 16, 17, 18, 19, 20, 21, 22, 23, 24, 25] (by decide +kernel) (by decide +kernel)
set_option maxRecDepth 20000 in
theorem gX3_rank_X3_score : GoodIn wsX3_rank (wsV RX3 103 RX3 yX3_score wsX3_score) := goodIn_app (goodIn_of _ (by decide +kernel)) ggX3_rank_X3_score
theorem dX3_rank_0 : decode cX3_rank 0 = .ok (.iconst 0, 1) := by decide +kernel
theorem dX3_rank_1 : decode cX3_rank 1 = .ok (.istore_n 3, 1) := by decide +kernel
theorem dX3_rank_2 : decode cX3_rank 2 = .ok (.aload_n 0, 1) := by decide +kernel
theorem dX3_rank_3 : decode cX3_rank 3 = .ok (.iconst 5, 1) := by decide +kernel
theorem dX3_rank_4 : decode cX3_rank 4 = .ok (.iload_n 1, 1) := by decide +kernel
theorem dX3_rank_5 : decode cX3_rank 5 = .ok (.imul, 1) := by decide +kernel
theorem dX3_rank_6 : decode cX3_rank 6 = .ok (.iload_n 2, 1) := by decide +kernel
theorem dX3_rank_7 : decode cX3_rank 7 = .ok (.iadd, 1) := by decide +kernel
theorem dX3_rank_8 : decode cX3_rank 8 = .ok (.invokevirtual 103, 3) := by decide +kernel
theorem dX3_rank_11 : decode cX3_rank 11 = .ok (.istore 4, 2) := by decide +kernel
theorem dX3_rank_13 : decode cX3_rank 13 = .ok (.iconst 0, 1) := by decide +kernel
theorem dX3_rank_14 : decode cX3_rank 14 = .ok (.istore 5, 2) := by decide +kernel
theorem dX3_rank_16 : decode cX3_rank 16 = .ok (.iload 5, 2) := by decide +kernel
theorem dX3_rank_18 : decode cX3_rank 18 = .ok (.aload_n 0, 1) := by decide +kernel
theorem dX3_rank_19 : decode cX3_rank 19 = .ok (.getfield 40, 3) := by decide +kernel
theorem dX3_rank_22 : decode cX3_rank 22 = .ok (.iload_n 1, 1) := by decide +kernel
theorem dX3_rank_23 : decode cX3_rank 23 = .ok (.iaload, 1) := by decide +kernel
theorem dX3_rank_24 : decode cX3_rank 24 = .ok (.if_icmp .ge 63, 3) := by decide +kernel
theorem dX3_rank_27 : decode cX3_rank 27 = .ok (.iconst 5, 1) := by decide +kernel
theorem dX3_rank_28 : decode cX3_rank 28 = .ok (.iload_n 1, 1) := by decide +kernel
theorem dX3_rank_29 : decode cX3_rank 29 = .ok (.imul, 1) := by decide +kernel
theorem dX3_rank_30 : decode cX3_rank 30 = .ok (.iload 5, 2) := by decide +kernel
theorem dX3_rank_32 : decode cX3_rank 32 = .ok (.iadd, 1) := by decide +kernel
theorem dX3_rank_33 : decode cX3_rank 33 = .ok (.istore 6, 2) := by decide +kernel
theorem dX3_rank_35 : decode cX3_rank 35 = .ok (.iload_n 3, 1) := by decide +kernel
theorem dX3_rank_36 : decode cX3_rank 36 = .ok (.aload_n 0, 1) := by decide +kernel
theorem dX3_rank_37 : decode cX3_rank 37 = .ok (.getfield 46, 3) := by decide +kernel
theorem dX3_rank_40 : decode cX3_rank 40 = .ok (.iload 6, 2) := by decide +kernel
theorem dX3_rank_42 : decode cX3_rank 42 = .ok (.iaload, 1) := by decide +kernel
theorem dX3_rank_43 : decode cX3_rank 43 = .ok (.ifCond .le 35, 3) := by decide +kernel
theorem dX3_rank_46 : decode cX3_rank 46 = .ok (.aload_n 0, 1) := by decide +kernel
theorem dX3_rank_47 : decode cX3_rank 47 = .ok (.iload 6, 2) := by decide +kernel
theorem dX3_rank_49 : decode cX3_rank 49 = .ok (.invokevirtual 103, 3) := by decide +kernel
theorem dX3_rank_52 : decode cX3_rank 52 = .ok (.iload 4, 2) := by decide +kernel
theorem dX3_rank_54 : decode cX3_rank 54 = .ok (.if_icmp .lt 20, 3) := by decide +kernel
end
section
theorem dX3_rank_57 : decode cX3_rank 57 = .ok (.aload_n 0, 1) := by decide +kernel
theorem dX3_rank_58 : decode cX3_rank 58 = .ok (.iload 6, 2) := by decide +kernel
theorem dX3_rank_60 : decode cX3_rank 60 = .ok (.invokevirtual 103, 3) := by decide +kernel
theorem dX3_rank_63 : decode cX3_rank 63 = .ok (.iload 4, 2) := by decide +kernel
theorem dX3_rank_65 : decode cX3_rank 65 = .ok (.if_icmp .ne 13, 3) := by decide +kernel
theorem dX3_rank_68 : decode cX3_rank 68 = .ok (.iload 5, 2) := by decide +kernel
theorem dX3_rank_70 : decode cX3_rank 70 = .ok (.iload_n 2, 1) := by decide +kernel
theorem dX3_rank_71 : decode cX3_rank 71 = .ok (.if_icmp .ge 7, 3) := by decide +kernel
theorem dX3_rank_74 : decode cX3_rank 74 = .ok (.iconst 1, 1) := by decide +kernel
theorem dX3_rank_75 : decode cX3_rank 75 = .ok (.goto 4, 3) := by decide +kernel
theorem dX3_rank_78 : decode cX3_rank 78 = .ok (.iconst 0, 1) := by decide +kernel
theorem dX3_rank_79 : decode cX3_rank 79 = .ok (.iadd, 1) := by decide +kernel
theorem dX3_rank_80 : decode cX3_rank 80 = .ok (.istore_n 3, 1) := by decide +kernel
theorem dX3_rank_81 : decode cX3_rank 81 = .ok (.iinc 5 1, 3) := by decide +kernel
theorem dX3_rank_84 : decode cX3_rank 84 = .ok (.goto (-68), 3) := by decide +kernel
theorem dX3_rank_87 : decode cX3_rank 87 = .ok (.iload_n 3, 1) := by decide +kernel
theorem dX3_rank_88 : decode cX3_rank 88 = .ok (.ireturn, 1) := by decide +kernel
set_option maxRecDepth 20000 in
theorem ggX3_of_X3_isIn : GoodIn wsX3_of wsX3_isIn := goodIn_r _ [7, 8, 9, 10, 11, 6, 12, 26, 27, 28, 29, 30, 31, 32, 33, 34, 35, 36, 37, 38, 39, 40, 41, 42] (by decide +kernel) (by decide +kernel)
set_option maxRecDepth 20000 in
theorem gX3_of_X3_isIn : GoodIn wsX3_of (wsV RX3 98 RX3 yX3_isIn wsX3_isIn) := goodIn_app (goodIn_of _ (by decide +kernel)) ggX3_of_X3_isIn
set_option maxRecDepth 20000 in
theorem ggX3_of_X3_is : GoodIn wsX3_of wsX3_is := goodIn_r _ [12] (by decide +kernel) (by decide +kernel)
set_option maxRecDepth 20000 in
theorem gX3_of_X3_is : GoodIn wsX3_of (va_wsS RX3 56 yX3_is wsX3_is) := goodIn_app (goodIn_of _ (by decide +kernel)) ggX3_of_X3_is
set_option maxRecDepth 20000 in
theorem ggX3_of_X3_refused : GoodIn wsX3_of wsX3_refused := goodIn_r _ [16, 17, 26, 27, 28, 29, 30, 31, 32, 33, 34, 35, 36, 37, 38, 39, 40, 41, 42] (by decide +kernel) (by decide +kernel)
set_option maxRecDepth 20000 in
theorem gX3_of_X3_refused : GoodIn wsX3_of (wsV RX3 72 RX3 yX3_refused wsX3_refused) := goodIn_app (goodIn_of _ (by decide +kernel)) ggX3_of_X3_refused
set_option maxRecDepth 20000 in
theorem ggX3_of_X3_score : GoodIn wsX3_of wsX3_score := goodIn_r _ [21, 2, 1, 26, 27, 28, 29, 30, 31, 32, 33, 34, 35, 36, 37, 38, 39, 40, 41, 42] (by decide +kernel) (by decide +kernel)
set_option maxRecDepth 20000 in
theorem gX3_of_X3_score : GoodIn wsX3_of (wsV RX3 103 RX3 yX3_score wsX3_score) := goodIn_app (goodIn_of _ (by decide +kernel)) ggX3_of_X3_score
set_option maxRecDepth 20000 in
theorem ggX3_of_X3_rank : GoodIn wsX3_of wsX3_rank := goodIn_r _ [25, 9, 2, 18, 19, 20, 6, 21, 1, 26, 27, 28, 29, 30, 31, 32, 33, 34, 35, 36, 37, 38, 39, 40, 41, 42] (by decide +kernel) (by decide +kernel)
set_option maxRecDepth 20000 in
theorem gX3_of_X3_rank : GoodIn wsX3_of (wsV RX3 106 RX3 yX3_rank wsX3_rank) := goodIn_app (goodIn_of _ (by decide +kernel)) ggX3_of_X3_rank
theorem dX3_of_0 : decode cX3_of 0 = .ok (.aload_n 0, 1) := by decide +kernel
theorem dX3_of_1 : decode cX3_of 1 = .ok (.aload_n 0, 1) := by decide +kernel
theorem dX3_of_2 : decode cX3_of 2 = .ok (.iload_n 1, 1) := by decide +kernel
theorem dX3_of_3 : decode cX3_of 3 = .ok (.iload_n 2, 1) := by decide +kernel
theorem dX3_of_4 : decode cX3_of 4 = .ok (.invokevirtual 98, 3) := by decide +kernel
theorem dX3_of_7 : decode cX3_of 7 = .ok (.ifCond .ne 7, 3) := by decide +kernel
theorem dX3_of_10 : decode cX3_of 10 = .ok (.iconst 1, 1) := by decide +kernel
theorem dX3_of_11 : decode cX3_of 11 = .ok (.goto 17, 3) := by decide +kernel
theorem dX3_of_14 : decode cX3_of 14 = .ok (.iload_n 3, 1) := by decide +kernel
theorem dX3_of_15 : decode cX3_of 15 = .ok (.iconst 0, 1) := by decide +kernel
theorem dX3_of_16 : decode cX3_of 16 = .ok (.iconst 3, 1) := by decide +kernel
theorem dX3_of_17 : decode cX3_of 17 = .ok (.invokestatic 56, 3) := by decide +kernel
theorem dX3_of_20 : decode cX3_of 20 = .ok (.ifCond .ne 7, 3) := by decide +kernel
theorem dX3_of_23 : decode cX3_of 23 = .ok (.iconst 2, 1) := by decide +kernel
theorem dX3_of_24 : decode cX3_of 24 = .ok (.goto 4, 3) := by decide +kernel
theorem dX3_of_27 : decode cX3_of 27 = .ok (.iconst 0, 1) := by decide +kernel
theorem dX3_of_28 : decode cX3_of 28 = .ok (.invokevirtual 72, 3) := by decide +kernel
theorem dX3_of_31 : decode cX3_of 31 = .ok (.ifCond .eq 5, 3) := by decide +kernel
theorem dX3_of_34 : decode cX3_of 34 = .ok (.iconst 0, 1) := by decide +kernel
theorem dX3_of_35 : decode cX3_of 35 = .ok (.ireturn, 1) := by decide +kernel
theorem dX3_of_36 : decode cX3_of 36 = .ok (.iconst 5, 1) := by decide +kernel
theorem dX3_of_37 : decode cX3_of 37 = .ok (.iload_n 1, 1) := by decide +kernel
theorem dX3_of_38 : decode cX3_of 38 = .ok (.imul, 1) := by decide +kernel
theorem dX3_of_39 : decode cX3_of 39 = .ok (.iload_n 2, 1) := by decide +kernel
theorem dX3_of_40 : decode cX3_of 40 = .ok (.iadd, 1) := by decide +kernel
theorem dX3_of_41 : decode cX3_of 41 = .ok (.istore 4, 2) := by decide +kernel
theorem dX3_of_43 : decode cX3_of 43 = .ok (.iload_n 3, 1) := by decide +kernel
theorem dX3_of_44 : decode cX3_of 44 = .ok (.ifCond .ne 11, 3) := by decide +kernel
theorem dX3_of_47 : decode cX3_of 47 = .ok (.aload_n 0, 1) := by decide +kernel
theorem dX3_of_48 : decode cX3_of 48 = .ok (.getfield 43, 3) := by decide +kernel
theorem dX3_of_51 : decode cX3_of 51 = .ok (.iload 4, 2) := by decide +kernel
theorem dX3_of_53 : decode cX3_of 53 = .ok (.iaload, 1) := by decide +kernel
theorem dX3_of_54 : decode cX3_of 54 = .ok (.ireturn, 1) := by decide +kernel
theorem dX3_of_55 : decode cX3_of 55 = .ok (.aload_n 0, 1) := by decide +kernel
theorem dX3_of_56 : decode cX3_of 56 = .ok (.getfield 46, 3) := by decide +kernel
theorem dX3_of_59 : decode cX3_of 59 = .ok (.iload 4, 2) := by decide +kernel
theorem dX3_of_61 : decode cX3_of 61 = .ok (.iaload, 1) := by decide +kernel
theorem dX3_of_62 : decode cX3_of 62 = .ok (.ifCond .ne 7, 3) := by decide +kernel
theorem dX3_of_65 : decode cX3_of 65 = .ok (.iconst (-1), 1) := by decide +kernel
theorem dX3_of_66 : decode cX3_of 66 = .ok (.goto 38, 3) := by decide +kernel
theorem dX3_of_69 : decode cX3_of 69 = .ok (.iload_n 3, 1) := by decide +kernel
theorem dX3_of_70 : decode cX3_of 70 = .ok (.iconst 1, 1) := by decide +kernel
theorem dX3_of_71 : decode cX3_of 71 = .ok (.if_icmp .ne 13, 3) := by decide +kernel
theorem dX3_of_74 : decode cX3_of 74 = .ok (.aload_n 0, 1) := by decide +kernel
theorem dX3_of_75 : decode cX3_of 75 = .ok (.getfield 46, 3) := by decide +kernel
theorem dX3_of_78 : decode cX3_of 78 = .ok (.iload 4, 2) := by decide +kernel
theorem dX3_of_80 : decode cX3_of 80 = .ok (.iaload, 1) := by decide +kernel
theorem dX3_of_81 : decode cX3_of 81 = .ok (.goto 23, 3) := by decide +kernel
theorem dX3_of_84 : decode cX3_of 84 = .ok (.iload_n 3, 1) := by decide +kernel
theorem dX3_of_85 : decode cX3_of 85 = .ok (.iconst 2, 1) := by decide +kernel
theorem dX3_of_86 : decode cX3_of 86 = .ok (.if_icmp .ne 12, 3) := by decide +kernel
theorem dX3_of_89 : decode cX3_of 89 = .ok (.aload_n 0, 1) := by decide +kernel
theorem dX3_of_90 : decode cX3_of 90 = .ok (.iload 4, 2) := by decide +kernel
theorem dX3_of_92 : decode cX3_of 92 = .ok (.invokevirtual 103, 3) := by decide +kernel
theorem dX3_of_95 : decode cX3_of 95 = .ok (.goto 9, 3) := by decide +kernel
theorem dX3_of_98 : decode cX3_of 98 = .ok (.aload_n 0, 1) := by decide +kernel
theorem dX3_of_99 : decode cX3_of 99 = .ok (.iload_n 1, 1) := by decide +kernel
theorem dX3_of_100 : decode cX3_of 100 = .ok (.iload_n 2, 1) := by decide +kernel
theorem dX3_of_101 : decode cX3_of 101 = .ok (.invokevirtual 106, 3) := by decide +kernel
theorem dX3_of_104 : decode cX3_of 104 = .ok (.ireturn, 1) := by decide +kernel
set_option maxRecDepth 20000 in
theorem ggX3_ranked_X3_is : GoodIn wsX3_ranked wsX3_is := goodIn_r _ [7] (by decide +kernel) (by decide +kernel)
set_option maxRecDepth 20000 in
theorem gX3_ranked_X3_is : GoodIn wsX3_ranked (va_wsS RX3 56 yX3_is wsX3_is) := goodIn_app (goodIn_of _ (by decide +kernel)) ggX3_ranked_X3_is
set_option maxRecDepth 20000 in
theorem ggX3_ranked_X3_refused : GoodIn wsX3_ranked wsX3_refused := goodIn_r _ [11, 12, 22, 23, 24, 25, 26, 27, 28, 29, 30, 31, 32, 33, 34, 35, 36, 37, 38] (by decide +kernel) (by decide +kernel)
set_option maxRecDepth 20000 in
theorem gX3_ranked_X3_refused : GoodIn wsX3_ranked (wsV RX3 72 RX3 yX3_refused wsX3_refused) := goodIn_app (goodIn_of _ (by decide +kernel)) ggX3_ranked_X3_refused
set_option maxRecDepth 20000 in
theorem ggX3_ranked_X3_rank : GoodIn wsX3_ranked wsX3_rank := goodIn_r _ [16, 2, 3, 17, 18, 19, 6, 20, 21, 22, 23, 24, 25, 26, 27, 28, 29, 30, 31, 32, 33, 34, 35, 36, 37, 38] (by decide +kernel) (by decide +kernel)
set_option maxRecDepth 20000 in
theorem gX3_ranked_X3_rank : GoodIn wsX3_ranked (wsV RX3 106 RX3 yX3_rank wsX3_rank) := goodIn_app (goodIn_of _ (by decide +kernel)) ggX3_ranked_X3_rank
theorem dX3_ranked_0 : decode cX3_ranked 0 = .ok (.aload_n 0, 1) := by decide +kernel
theorem dX3_ranked_1 : decode cX3_ranked 1 = .ok (.iload_n 1, 1) := by decide +kernel
theorem dX3_ranked_2 : decode cX3_ranked 2 = .ok (.iconst 0, 1) := by decide +kernel
theorem dX3_ranked_3 : decode cX3_ranked 3 = .ok (.aload_n 0, 1) := by decide +kernel
theorem dX3_ranked_4 : decode cX3_ranked 4 = .ok (.getfield 95, 3) := by decide +kernel
theorem dX3_ranked_7 : decode cX3_ranked 7 = .ok (.iconst 1, 1) := by decide +kernel
theorem dX3_ranked_8 : decode cX3_ranked 8 = .ok (.isub, 1) := by decide +kernel
theorem dX3_ranked_9 : decode cX3_ranked 9 = .ok (.invokestatic 56, 3) := by decide +kernel
theorem dX3_ranked_12 : decode cX3_ranked 12 = .ok (.ifCond .eq 11, 3) := by decide +kernel
theorem dX3_ranked_15 : decode cX3_ranked 15 = .ok (.iload_n 2, 1) := by decide +kernel
theorem dX3_ranked_16 : decode cX3_ranked 16 = .ok (.ifCond .lt 7, 3) := by decide +kernel
theorem dX3_ranked_19 : decode cX3_ranked 19 = .ok (.iconst 0, 1) := by decide +kernel
theorem dX3_ranked_20 : decode cX3_ranked 20 = .ok (.goto 4, 3) := by decide +kernel
theorem dX3_ranked_23 : decode cX3_ranked 23 = .ok (.iconst 1, 1) := by decide +kernel
theorem dX3_ranked_24 : decode cX3_ranked 24 = .ok (.invokevirtual 72, 3) := by decide +kernel
theorem dX3_ranked_27 : decode cX3_ranked 27 = .ok (.ifCond .eq 5, 3) := by decide +kernel
theorem dX3_ranked_30 : decode cX3_ranked 30 = .ok (.iconst 0, 1) := by decide +kernel
theorem dX3_ranked_31 : decode cX3_ranked 31 = .ok (.ireturn, 1) := by decide +kernel
theorem dX3_ranked_32 : decode cX3_ranked 32 = .ok (.iconst (-1), 1) := by decide +kernel
theorem dX3_ranked_33 : decode cX3_ranked 33 = .ok (.istore_n 3, 1) := by decide +kernel
theorem dX3_ranked_34 : decode cX3_ranked 34 = .ok (.iconst 0, 1) := by decide +kernel
theorem dX3_ranked_35 : decode cX3_ranked 35 = .ok (.istore 4, 2) := by decide +kernel
theorem dX3_ranked_37 : decode cX3_ranked 37 = .ok (.iload 4, 2) := by decide +kernel
theorem dX3_ranked_39 : decode cX3_ranked 39 = .ok (.aload_n 0, 1) := by decide +kernel
theorem dX3_ranked_40 : decode cX3_ranked 40 = .ok (.getfield 40, 3) := by decide +kernel
theorem dX3_ranked_43 : decode cX3_ranked 43 = .ok (.iload_n 1, 1) := by decide +kernel
theorem dX3_ranked_44 : decode cX3_ranked 44 = .ok (.iaload, 1) := by decide +kernel
theorem dX3_ranked_45 : decode cX3_ranked 45 = .ok (.if_icmp .ge 41, 3) := by decide +kernel
theorem dX3_ranked_48 : decode cX3_ranked 48 = .ok (.aload_n 0, 1) := by decide +kernel
theorem dX3_ranked_49 : decode cX3_ranked 49 = .ok (.getfield 46, 3) := by decide +kernel
theorem dX3_ranked_52 : decode cX3_ranked 52 = .ok (.iconst 5, 1) := by decide +kernel
theorem dX3_ranked_53 : decode cX3_ranked 53 = .ok (.iload_n 1, 1) := by decide +kernel
theorem dX3_ranked_54 : decode cX3_ranked 54 = .ok (.imul, 1) := by decide +kernel
theorem dX3_ranked_55 : decode cX3_ranked 55 = .ok (.iload 4, 2) := by decide +kernel
theorem dX3_ranked_57 : decode cX3_ranked 57 = .ok (.iadd, 1) := by decide +kernel
theorem dX3_ranked_58 : decode cX3_ranked 58 = .ok (.iaload, 1) := by decide +kernel
theorem dX3_ranked_59 : decode cX3_ranked 59 = .ok (.ifCond .le 19, 3) := by decide +kernel
theorem dX3_ranked_62 : decode cX3_ranked 62 = .ok (.aload_n 0, 1) := by decide +kernel
theorem dX3_ranked_63 : decode cX3_ranked 63 = .ok (.iload_n 1, 1) := by decide +kernel
theorem dX3_ranked_64 : decode cX3_ranked 64 = .ok (.iload 4, 2) := by decide +kernel
theorem dX3_ranked_66 : decode cX3_ranked 66 = .ok (.invokevirtual 106, 3) := by decide +kernel
theorem dX3_ranked_69 : decode cX3_ranked 69 = .ok (.iload_n 2, 1) := by decide +kernel
theorem dX3_ranked_70 : decode cX3_ranked 70 = .ok (.if_icmp .ne 8, 3) := by decide +kernel
theorem dX3_ranked_73 : decode cX3_ranked 73 = .ok (.iload 4, 2) := by decide +kernel
theorem dX3_ranked_75 : decode cX3_ranked 75 = .ok (.goto 4, 3) := by decide +kernel
theorem dX3_ranked_78 : decode cX3_ranked 78 = .ok (.iload_n 3, 1) := by decide +kernel
theorem dX3_ranked_79 : decode cX3_ranked 79 = .ok (.istore_n 3, 1) := by decide +kernel
theorem dX3_ranked_80 : decode cX3_ranked 80 = .ok (.iinc 4 1, 3) := by decide +kernel
theorem dX3_ranked_83 : decode cX3_ranked 83 = .ok (.goto (-46), 3) := by decide +kernel
theorem dX3_ranked_86 : decode cX3_ranked 86 = .ok (.iload_n 3, 1) := by decide +kernel
theorem dX3_ranked_87 : decode cX3_ranked 87 = .ok (.ireturn, 1) := by decide +kernel
theorem dJ9_abs_0f7a4_0 : decode cJ9_abs_0f7a4 0 = .ok (.iload_n 0, 1) := by decide +kernel
theorem dJ9_abs_0f7a4_1 : decode cJ9_abs_0f7a4 1 = .ok (.ifCond .ge 8, 3) := by decide +kernel
theorem dJ9_abs_0f7a4_4 : decode cJ9_abs_0f7a4 4 = .ok (.iload_n 0, 1) := by decide +kernel
theorem dJ9_abs_0f7a4_5 : decode cJ9_abs_0f7a4 5 = .ok (.ineg, 1) := by decide +kernel
theorem dJ9_abs_0f7a4_6 : decode cJ9_abs_0f7a4 6 = .ok (.goto 4, 3) := by decide +kernel
theorem dJ9_abs_0f7a4_9 : decode cJ9_abs_0f7a4 9 = .ok (.iload_n 0, 1) := by decide +kernel
theorem dJ9_abs_0f7a4_10 : decode cJ9_abs_0f7a4 10 = .ok (.ireturn, 1) := by decide +kernel
theorem dJ7_fill_53178_0 : decode cJ7_fill_53178 0 = .ok (.iconst 0, 1) := by decide +kernel
theorem dJ7_fill_53178_1 : decode cJ7_fill_53178 1 = .ok (.istore_n 2, 1) := by decide +kernel
theorem dJ7_fill_53178_2 : decode cJ7_fill_53178 2 = .ok (.aload_n 0, 1) := by decide +kernel
theorem dJ7_fill_53178_3 : decode cJ7_fill_53178 3 = .ok (.arraylength, 1) := by decide +kernel
theorem dJ7_fill_53178_4 : decode cJ7_fill_53178 4 = .ok (.istore_n 3, 1) := by decide +kernel
theorem dJ7_fill_53178_5 : decode cJ7_fill_53178 5 = .ok (.iload_n 2, 1) := by decide +kernel
theorem dJ7_fill_53178_6 : decode cJ7_fill_53178 6 = .ok (.iload_n 3, 1) := by decide +kernel
theorem dJ7_fill_53178_7 : decode cJ7_fill_53178 7 = .ok (.if_icmp .ge 13, 3) := by decide +kernel
theorem dJ7_fill_53178_10 : decode cJ7_fill_53178 10 = .ok (.aload_n 0, 1) := by decide +kernel
theorem dJ7_fill_53178_11 : decode cJ7_fill_53178 11 = .ok (.iload_n 2, 1) := by decide +kernel
theorem dJ7_fill_53178_12 : decode cJ7_fill_53178 12 = .ok (.iload_n 1, 1) := by decide +kernel
theorem dJ7_fill_53178_13 : decode cJ7_fill_53178 13 = .ok (.iastore, 1) := by decide +kernel
theorem dJ7_fill_53178_14 : decode cJ7_fill_53178 14 = .ok (.iinc 2 1, 3) := by decide +kernel
theorem dJ7_fill_53178_17 : decode cJ7_fill_53178 17 = .ok (.goto (-12), 3) := by decide +kernel
theorem dJ7_fill_53178_20 : decode cJ7_fill_53178 20 = .ok (.return_, 1) := by decide +kernel
set_option maxRecDepth 20000 in
theorem ggL_student_X2_student : GoodIn wsL_student wsX2_student := goodIn_ca (goodIn_r _ [6, 7, 8, 9, 10, 11, 12, 13, 14, 15, 16, 17, 18, 19, 20, 21, 22, 23, 24, 25, 26, 27, 5, 28, 29, 30, 31, 32, 33, 34, 35, 36, 37, 38, 39, 40, 41] (by decide +kernel) (by decide +kernel)) (goodIn_sub (fun _ h => List.mem_cons_of_mem _ (List.mem_append_right _ h)) (by decide +kernel))
set_option maxRecDepth 20000 in
theorem gL_student_X2_student : GoodIn wsL_student (wsV RL 7 RX2 yX2_student wsX2_student) := goodIn_app (goodIn_of _ (by decide +kernel)) ggL_student_X2_student
theorem dL_student_0 : decode cL_student 0 = .ok (.aload_n 1, 1) := by decide +kernel
theorem dL_student_1 : decode cL_student 1 = .ok (.iconst 0, 1) := by decide +kernel
theorem dL_student_2 : decode cL_student 2 = .ok (.aload_n 0, 1) := by decide +kernel
theorem dL_student_3 : decode cL_student 3 = .ok (.invokevirtual 7, 3) := by decide +kernel
theorem dL_student_6 : decode cL_student 6 = .ok (.i2l, 1) := by decide +kernel
theorem dL_student_7 : decode cL_student 7 = .ok (.lastore, 1) := by decide +kernel
theorem dL_student_8 : decode cL_student 8 = .ok (.goto 6, 3) := by decide +kernel
theorem dL_student_11 : decode cL_student 11 = .ok (.astore_n 2, 1) := by decide +kernel
theorem dL_student_12 : decode cL_student 12 = .ok (.iconst 1, 1) := by decide +kernel
theorem dL_student_13 : decode cL_student 13 = .ok (.ireturn, 1) := by decide +kernel
theorem dL_student_14 : decode cL_student 14 = .ok (.iconst 0, 1) := by decide +kernel
theorem dL_student_15 : decode cL_student 15 = .ok (.ireturn, 1) := by decide +kernel
set_option maxRecDepth 20000 in
theorem ggL_carry_X2_carry : GoodIn wsL_carry wsX2_carry := goodIn_ca (goodIn_ca (goodIn_r _ [7, 8, 9, 10, 11, 12, 6, 13, 14, 15, 16, 17, 18, 19, 20, 21, 22, 23, 24, 25, 26, 27, 28, 29] (by decide +kernel) (by decide +kernel)) (goodIn_sub (fun _ h => List.mem_cons_of_mem _ (List.mem_append_left _ (List.mem_append_right _ h))) (by decide +kernel))) (goodIn_sub (fun _ h => List.mem_cons_of_mem _ (List.mem_append_right _ h)) (by decide +kernel))
set_option maxRecDepth 20000 in
theorem gL_carry_X2_carry : GoodIn wsL_carry (wsV RL 15 RX2 yX2_carry wsX2_carry) := goodIn_app (goodIn_of _ (by decide +kernel)) ggL_carry_X2_carry
theorem dL_carry_0 : decode cL_carry 0 = .ok (.aload_n 3, 1) := by decide +kernel
theorem dL_carry_1 : decode cL_carry 1 = .ok (.iconst 0, 1) := by decide +kernel
theorem dL_carry_2 : decode cL_carry 2 = .ok (.aload_n 0, 1) := by decide +kernel
theorem dL_carry_3 : decode cL_carry 3 = .ok (.iload_n 1, 1) := by decide +kernel
theorem dL_carry_4 : decode cL_carry 4 = .ok (.iload_n 2, 1) := by decide +kernel
theorem dL_carry_5 : decode cL_carry 5 = .ok (.invokevirtual 15, 3) := by decide +kernel
theorem dL_carry_8 : decode cL_carry 8 = .ok (.i2l, 1) := by decide +kernel
theorem dL_carry_9 : decode cL_carry 9 = .ok (.lastore, 1) := by decide +kernel
theorem dL_carry_10 : decode cL_carry 10 = .ok (.goto 11, 3) := by decide +kernel
theorem dL_carry_13 : decode cL_carry 13 = .ok (.astore 4, 2) := by decide +kernel
theorem dL_carry_15 : decode cL_carry 15 = .ok (.iconst 1, 1) := by decide +kernel
theorem dL_carry_16 : decode cL_carry 16 = .ok (.ireturn, 1) := by decide +kernel
theorem dL_carry_17 : decode cL_carry 17 = .ok (.astore 4, 2) := by decide +kernel
theorem dL_carry_19 : decode cL_carry 19 = .ok (.iconst 2, 1) := by decide +kernel
theorem dL_carry_20 : decode cL_carry 20 = .ok (.ireturn, 1) := by decide +kernel
theorem dL_carry_21 : decode cL_carry 21 = .ok (.iconst 0, 1) := by decide +kernel
theorem dL_carry_22 : decode cL_carry 22 = .ok (.ireturn, 1) := by decide +kernel
set_option maxRecDepth 20000 in
theorem ggL_swap_X2_swap : GoodIn wsL_swap wsX2_swap := goodIn_ca (goodIn_ca (goodIn_r _ [7, 8, 9, 10, 6, 11, 12, 13, 14, 15, 16, 17, 18, 19, 20, 21, 22, 23, 24, 25, 26, 27, 28, 29, 30, 31, 32, 33, 34, 35, 36, 37, 38, 39, 40, 41, 42, 43, 44, 45, 46, 47, 48, 49, 50, 51, 52, 53, 54, 55, 56, 57, 58, 59, 60, 61, 62, 63, 64, 65, 66, 67, 68, 69, 70, 71, 72, 73, 74, 75, 76, 77, 78] (by decide +kernel) (by decide +kernel)) (goodIn_sub (fun _ h => List.mem_cons_of_mem _ (List.mem_append_left _ (List.mem_append_right _ h))) (by decide +kernel))) (goodIn_sub (fun _ h => List.mem_cons_of_mem _ (List.mem_append_right _ h)) (by decide +kernel))
set_option maxRecDepth 20000 in
theorem gL_swap_X2_swap : GoodIn wsL_swap (wsV RL 23 RX2 yX2_swap wsX2_swap) := goodIn_app (goodIn_of _ (by decide +kernel)) ggL_swap_X2_swap
theorem dL_swap_0 : decode cL_swap 0 = .ok (.aload 4, 2) := by decide +kernel
theorem dL_swap_2 : decode cL_swap 2 = .ok (.iconst 0, 1) := by decide +kernel
theorem dL_swap_3 : decode cL_swap 3 = .ok (.aload_n 0, 1) := by decide +kernel
theorem dL_swap_4 : decode cL_swap 4 = .ok (.iload_n 1, 1) := by decide +kernel
theorem dL_swap_5 : decode cL_swap 5 = .ok (.iload_n 2, 1) := by decide +kernel
theorem dL_swap_6 : decode cL_swap 6 = .ok (.iload_n 3, 1) := by decide +kernel
theorem dL_swap_7 : decode cL_swap 7 = .ok (.invokevirtual 23, 3) := by decide +kernel
theorem dL_swap_10 : decode cL_swap 10 = .ok (.i2l, 1) := by decide +kernel
theorem dL_swap_11 : decode cL_swap 11 = .ok (.lastore, 1) := by decide +kernel
theorem dL_swap_12 : decode cL_swap 12 = .ok (.goto 11, 3) := by decide +kernel
theorem dL_swap_15 : decode cL_swap 15 = .ok (.astore 5, 2) := by decide +kernel
theorem dL_swap_17 : decode cL_swap 17 = .ok (.iconst 1, 1) := by decide +kernel
theorem dL_swap_18 : decode cL_swap 18 = .ok (.ireturn, 1) := by decide +kernel
theorem dL_swap_19 : decode cL_swap 19 = .ok (.astore 5, 2) := by decide +kernel
theorem dL_swap_21 : decode cL_swap 21 = .ok (.iconst 2, 1) := by decide +kernel
theorem dL_swap_22 : decode cL_swap 22 = .ok (.ireturn, 1) := by decide +kernel
theorem dL_swap_23 : decode cL_swap 23 = .ok (.iconst 0, 1) := by decide +kernel
theorem dL_swap_24 : decode cL_swap 24 = .ok (.ireturn, 1) := by decide +kernel
set_option maxRecDepth 20000 in
theorem ggL_keyOf_X2_keyOf : GoodIn wsL_keyOf wsX2_keyOf := goodIn_ca (goodIn_r _ [6, 7, 8, 9, 5, 10, 11, 12, 13, 14, 15, 16, 17, 18, 19, 20, 21, 22, 23, 24, 25, 26, 27, 28, 29, 30, 31, 32] (by decide +kernel) (by decide +kernel)) (goodIn_sub (fun _ h => List.mem_cons_of_mem _ (List.mem_append_right _ h)) (by decide +kernel))
set_option maxRecDepth 20000 in
theorem gL_keyOf_X2_keyOf : GoodIn wsL_keyOf (wsV RL 27 RX2 yX2_keyOf wsX2_keyOf) := goodIn_app (goodIn_of _ (by decide +kernel)) ggL_keyOf_X2_keyOf
theorem dL_keyOf_0 : decode cL_keyOf 0 = .ok (.aload_n 3, 1) := by decide +kernel
theorem dL_keyOf_1 : decode cL_keyOf 1 = .ok (.iconst 0, 1) := by decide +kernel
theorem dL_keyOf_2 : decode cL_keyOf 2 = .ok (.aload_n 0, 1) := by decide +kernel
theorem dL_keyOf_3 : decode cL_keyOf 3 = .ok (.iload_n 1, 1) := by decide +kernel
theorem dL_keyOf_4 : decode cL_keyOf 4 = .ok (.iload_n 2, 1) := by decide +kernel
theorem dL_keyOf_5 : decode cL_keyOf 5 = .ok (.invokevirtual 27, 3) := by decide +kernel
theorem dL_keyOf_8 : decode cL_keyOf 8 = .ok (.i2l, 1) := by decide +kernel
theorem dL_keyOf_9 : decode cL_keyOf 9 = .ok (.lastore, 1) := by decide +kernel
theorem dL_keyOf_10 : decode cL_keyOf 10 = .ok (.goto 7, 3) := by decide +kernel
theorem dL_keyOf_13 : decode cL_keyOf 13 = .ok (.astore 4, 2) := by decide +kernel
theorem dL_keyOf_15 : decode cL_keyOf 15 = .ok (.iconst 1, 1) := by decide +kernel
theorem dL_keyOf_16 : decode cL_keyOf 16 = .ok (.ireturn, 1) := by decide +kernel
theorem dL_keyOf_17 : decode cL_keyOf 17 = .ok (.iconst 0, 1) := by decide +kernel
theorem dL_keyOf_18 : decode cL_keyOf 18 = .ok (.ireturn, 1) := by decide +kernel
set_option maxRecDepth 20000 in
theorem ggL_letterOn_X2_letterOn : GoodIn wsL_letterOn wsX2_letterOn := goodIn_ca (goodIn_r _ [6, 7, 8, 9, 5, 10, 11, 12, 13, 14, 15, 16, 17, 18, 19, 20, 21, 22, 23, 24, 25, 26, 27, 28, 29, 30, 31, 32] (by decide +kernel) (by decide +kernel)) (goodIn_sub (fun _ h => List.mem_cons_of_mem _ (List.mem_append_right _ h)) (by decide +kernel))
set_option maxRecDepth 20000 in
theorem gL_letterOn_X2_letterOn : GoodIn wsL_letterOn (wsV RL 30 RX2 yX2_letterOn wsX2_letterOn) := goodIn_app (goodIn_of _ (by decide +kernel)) ggL_letterOn_X2_letterOn
theorem dL_letterOn_0 : decode cL_letterOn 0 = .ok (.aload_n 3, 1) := by decide +kernel
theorem dL_letterOn_1 : decode cL_letterOn 1 = .ok (.iconst 0, 1) := by decide +kernel
theorem dL_letterOn_2 : decode cL_letterOn 2 = .ok (.aload_n 0, 1) := by decide +kernel
theorem dL_letterOn_3 : decode cL_letterOn 3 = .ok (.iload_n 1, 1) := by decide +kernel
theorem dL_letterOn_4 : decode cL_letterOn 4 = .ok (.iload_n 2, 1) := by decide +kernel
theorem dL_letterOn_5 : decode cL_letterOn 5 = .ok (.invokevirtual 30, 3) := by decide +kernel
theorem dL_letterOn_8 : decode cL_letterOn 8 = .ok (.i2l, 1) := by decide +kernel
theorem dL_letterOn_9 : decode cL_letterOn 9 = .ok (.lastore, 1) := by decide +kernel
theorem dL_letterOn_10 : decode cL_letterOn 10 = .ok (.goto 7, 3) := by decide +kernel
theorem dL_letterOn_13 : decode cL_letterOn 13 = .ok (.astore 4, 2) := by decide +kernel
theorem dL_letterOn_15 : decode cL_letterOn 15 = .ok (.iconst 1, 1) := by decide +kernel
theorem dL_letterOn_16 : decode cL_letterOn 16 = .ok (.ireturn, 1) := by decide +kernel
theorem dL_letterOn_17 : decode cL_letterOn 17 = .ok (.iconst 0, 1) := by decide +kernel
theorem dL_letterOn_18 : decode cL_letterOn 18 = .ok (.ireturn, 1) := by decide +kernel
set_option maxRecDepth 20000 in
theorem ggL_press_X2_press : GoodIn wsL_press wsX2_press := goodIn_ca (goodIn_r _ [6, 7, 8, 9, 5, 10, 11, 12, 13, 14, 15, 16, 17, 18, 19, 20, 21, 22, 23, 24, 25, 26, 27, 28, 29, 30, 31, 32, 33, 34, 35, 36, 37, 38, 39, 40, 41, 42, 43, 44, 45, 46, 47, 48, 49, 50, 51, 52, 53, 54, 55, 56, 57, 58, 59, 60] (by decide +kernel) (by decide +kernel)) (goodIn_sub (fun _ h => List.mem_cons_of_mem _ (List.mem_append_right _ h)) (by decide +kernel))
set_option maxRecDepth 20000 in
theorem gL_press_X2_press : GoodIn wsL_press (wsV RL 33 RX2 yX2_press wsX2_press) := goodIn_app (goodIn_of _ (by decide +kernel)) ggL_press_X2_press
theorem dL_press_0 : decode cL_press 0 = .ok (.aload 4, 2) := by decide +kernel
theorem dL_press_2 : decode cL_press 2 = .ok (.iconst 0, 1) := by decide +kernel
theorem dL_press_3 : decode cL_press 3 = .ok (.aload_n 0, 1) := by decide +kernel
theorem dL_press_4 : decode cL_press 4 = .ok (.iload_n 1, 1) := by decide +kernel
theorem dL_press_5 : decode cL_press 5 = .ok (.iload_n 2, 1) := by decide +kernel
theorem dL_press_6 : decode cL_press 6 = .ok (.iload_n 3, 1) := by decide +kernel
theorem dL_press_7 : decode cL_press 7 = .ok (.invokevirtual 33, 3) := by decide +kernel
theorem dL_press_10 : decode cL_press 10 = .ok (.ifCond .eq 7, 3) := by decide +kernel
theorem dL_press_13 : decode cL_press 13 = .ok (.lconst 1, 1) := by decide +kernel
theorem dL_press_14 : decode cL_press 14 = .ok (.goto 4, 3) := by decide +kernel
theorem dL_press_17 : decode cL_press 17 = .ok (.lconst 0, 1) := by decide +kernel
theorem dL_press_18 : decode cL_press 18 = .ok (.lastore, 1) := by decide +kernel
theorem dL_press_19 : decode cL_press 19 = .ok (.goto 7, 3) := by decide +kernel
theorem dL_press_22 : decode cL_press 22 = .ok (.astore 5, 2) := by decide +kernel
theorem dL_press_24 : decode cL_press 24 = .ok (.iconst 1, 1) := by decide +kernel
theorem dL_press_25 : decode cL_press 25 = .ok (.ireturn, 1) := by decide +kernel
theorem dL_press_26 : decode cL_press 26 = .ok (.iconst 0, 1) := by decide +kernel
theorem dL_press_27 : decode cL_press 27 = .ok (.ireturn, 1) := by decide +kernel
set_option maxRecDepth 20000 in
theorem ggL_slips_X2_slips : GoodIn wsL_slips wsX2_slips := goodIn_ca (goodIn_ca (goodIn_r _ [7, 8, 9, 10, 11, 12, 6, 13, 14, 15, 16, 17, 18, 19, 20, 21, 22, 23, 24, 25, 26, 27, 28, 29, 30, 31, 32, 33, 34, 35, 36, 37, 38, 39, 40, 41, 42, 43, 44, 45, 46, 47] (by decide +kernel) (by decide +kernel)) (goodIn_sub (fun _ h => List.mem_cons_of_mem _ (List.mem_append_left _ (List.mem_append_right _ h))) (by decide +kernel))) (goodIn_sub (fun _ h => List.mem_cons_of_mem _ (List.mem_append_right _ h)) (by decide +kernel))
set_option maxRecDepth 20000 in
theorem gL_slips_X2_slips : GoodIn wsL_slips (wsV RL 37 RX2 yX2_slips wsX2_slips) := goodIn_app (goodIn_of _ (by decide +kernel)) ggL_slips_X2_slips
theorem dL_slips_0 : decode cL_slips 0 = .ok (.aload 4, 2) := by decide +kernel
theorem dL_slips_2 : decode cL_slips 2 = .ok (.iconst 0, 1) := by decide +kernel
theorem dL_slips_3 : decode cL_slips 3 = .ok (.aload_n 0, 1) := by decide +kernel
theorem dL_slips_4 : decode cL_slips 4 = .ok (.iload_n 1, 1) := by decide +kernel
theorem dL_slips_5 : decode cL_slips 5 = .ok (.iload_n 2, 1) := by decide +kernel
theorem dL_slips_6 : decode cL_slips 6 = .ok (.iload_n 3, 1) := by decide +kernel
theorem dL_slips_7 : decode cL_slips 7 = .ok (.invokevirtual 37, 3) := by decide +kernel
theorem dL_slips_10 : decode cL_slips 10 = .ok (.i2l, 1) := by decide +kernel
theorem dL_slips_11 : decode cL_slips 11 = .ok (.lastore, 1) := by decide +kernel
theorem dL_slips_12 : decode cL_slips 12 = .ok (.goto 11, 3) := by decide +kernel
theorem dL_slips_15 : decode cL_slips 15 = .ok (.astore 5, 2) := by decide +kernel
theorem dL_slips_17 : decode cL_slips 17 = .ok (.iconst 1, 1) := by decide +kernel
theorem dL_slips_18 : decode cL_slips 18 = .ok (.ireturn, 1) := by decide +kernel
theorem dL_slips_19 : decode cL_slips 19 = .ok (.astore 5, 2) := by decide +kernel
theorem dL_slips_21 : decode cL_slips 21 = .ok (.iconst 2, 1) := by decide +kernel
theorem dL_slips_22 : decode cL_slips 22 = .ok (.ireturn, 1) := by decide +kernel
theorem dL_slips_23 : decode cL_slips 23 = .ok (.iconst 0, 1) := by decide +kernel
theorem dL_slips_24 : decode cL_slips 24 = .ok (.ireturn, 1) := by decide +kernel
set_option maxRecDepth 20000 in
theorem ggL_pair_X2_pair : GoodIn wsL_pair wsX2_pair := goodIn_ca (goodIn_r _ [6, 7, 8, 9, 5, 10, 11, 12, 13, 14, 15, 16, 17, 18, 19, 20, 21, 22, 23, 24, 25, 26, 27, 28, 29, 30, 31, 32, 33, 34, 35] (by decide +kernel) (by decide +kernel)) (goodIn_sub (fun _ h => List.mem_cons_of_mem _ (List.mem_append_right _ h)) (by decide +kernel))
set_option maxRecDepth 20000 in
theorem gL_pair_X2_pair : GoodIn wsL_pair (wsV RL 40 RX2 yX2_pair wsX2_pair) := goodIn_app (goodIn_of _ (by decide +kernel)) ggL_pair_X2_pair
theorem dL_pair_0 : decode cL_pair 0 = .ok (.aload 4, 2) := by decide +kernel
theorem dL_pair_2 : decode cL_pair 2 = .ok (.iconst 0, 1) := by decide +kernel
theorem dL_pair_3 : decode cL_pair 3 = .ok (.aload_n 0, 1) := by decide +kernel
theorem dL_pair_4 : decode cL_pair 4 = .ok (.iload_n 1, 1) := by decide +kernel
theorem dL_pair_5 : decode cL_pair 5 = .ok (.iload_n 2, 1) := by decide +kernel
theorem dL_pair_6 : decode cL_pair 6 = .ok (.iload_n 3, 1) := by decide +kernel
theorem dL_pair_7 : decode cL_pair 7 = .ok (.invokevirtual 40, 3) := by decide +kernel
theorem dL_pair_10 : decode cL_pair 10 = .ok (.i2l, 1) := by decide +kernel
theorem dL_pair_11 : decode cL_pair 11 = .ok (.lastore, 1) := by decide +kernel
theorem dL_pair_12 : decode cL_pair 12 = .ok (.goto 7, 3) := by decide +kernel
theorem dL_pair_15 : decode cL_pair 15 = .ok (.astore 5, 2) := by decide +kernel
theorem dL_pair_17 : decode cL_pair 17 = .ok (.iconst 1, 1) := by decide +kernel
theorem dL_pair_18 : decode cL_pair 18 = .ok (.ireturn, 1) := by decide +kernel
theorem dL_pair_19 : decode cL_pair 19 = .ok (.iconst 0, 1) := by decide +kernel
theorem dL_pair_20 : decode cL_pair 20 = .ok (.ireturn, 1) := by decide +kernel
set_option maxRecDepth 20000 in
theorem ggL_pressed_X2_pressed : GoodIn wsL_pressed wsX2_pressed := goodIn_ca (goodIn_r _ [6, 7, 8, 9, 5, 10, 11, 12, 13, 14, 15, 16, 17, 18, 19, 20, 21, 22, 23, 24, 25, 26] (by decide +kernel) (by decide +kernel)) (goodIn_sub (fun _ h => List.mem_cons_of_mem _ (List.mem_append_right _ h)) (by decide +kernel))
set_option maxRecDepth 20000 in
theorem gL_pressed_X2_pressed : GoodIn wsL_pressed (wsV RL 43 RX2 yX2_pressed wsX2_pressed) := goodIn_app (goodIn_of _ (by decide +kernel)) ggL_pressed_X2_pressed
theorem dL_pressed_0 : decode cL_pressed 0 = .ok (.aload_n 2, 1) := by decide +kernel
theorem dL_pressed_1 : decode cL_pressed 1 = .ok (.iconst 0, 1) := by decide +kernel
theorem dL_pressed_2 : decode cL_pressed 2 = .ok (.aload_n 0, 1) := by decide +kernel
theorem dL_pressed_3 : decode cL_pressed 3 = .ok (.iload_n 1, 1) := by decide +kernel
theorem dL_pressed_4 : decode cL_pressed 4 = .ok (.invokevirtual 43, 3) := by decide +kernel
theorem dL_pressed_7 : decode cL_pressed 7 = .ok (.i2l, 1) := by decide +kernel
theorem dL_pressed_8 : decode cL_pressed 8 = .ok (.lastore, 1) := by decide +kernel
theorem dL_pressed_9 : decode cL_pressed 9 = .ok (.goto 6, 3) := by decide +kernel
theorem dL_pressed_12 : decode cL_pressed 12 = .ok (.astore_n 3, 1) := by decide +kernel
theorem dL_pressed_13 : decode cL_pressed 13 = .ok (.iconst 1, 1) := by decide +kernel
theorem dL_pressed_14 : decode cL_pressed 14 = .ok (.ireturn, 1) := by decide +kernel
theorem dL_pressed_15 : decode cL_pressed 15 = .ok (.iconst 0, 1) := by decide +kernel
theorem dL_pressed_16 : decode cL_pressed 16 = .ok (.ireturn, 1) := by decide +kernel
set_option maxRecDepth 20000 in
theorem ggL_history_X2_history : GoodIn wsL_history wsX2_history := goodIn_ca (goodIn_r _ [6, 7, 8, 9, 10, 11, 5, 12, 13, 14, 15, 16, 17, 18, 19, 20, 21, 22, 23, 24, 25, 26, 27, 28, 29] (by decide +kernel) (by decide +kernel)) (goodIn_sub (fun _ h => List.mem_cons_of_mem _ (List.mem_append_right _ h)) (by decide +kernel))
set_option maxRecDepth 20000 in
theorem gL_history_X2_history : GoodIn wsL_history (wsV RL 47 RX2 yX2_history wsX2_history) := goodIn_app (goodIn_of _ (by decide +kernel)) ggL_history_X2_history
theorem dL_history_0 : decode cL_history 0 = .ok (.aload_n 3, 1) := by decide +kernel
theorem dL_history_1 : decode cL_history 1 = .ok (.iconst 0, 1) := by decide +kernel
theorem dL_history_2 : decode cL_history 2 = .ok (.aload_n 0, 1) := by decide +kernel
theorem dL_history_3 : decode cL_history 3 = .ok (.iload_n 1, 1) := by decide +kernel
theorem dL_history_4 : decode cL_history 4 = .ok (.iload_n 2, 1) := by decide +kernel
theorem dL_history_5 : decode cL_history 5 = .ok (.invokevirtual 47, 3) := by decide +kernel
theorem dL_history_8 : decode cL_history 8 = .ok (.i2l, 1) := by decide +kernel
theorem dL_history_9 : decode cL_history 9 = .ok (.lastore, 1) := by decide +kernel
theorem dL_history_10 : decode cL_history 10 = .ok (.goto 7, 3) := by decide +kernel
theorem dL_history_13 : decode cL_history 13 = .ok (.astore 4, 2) := by decide +kernel
theorem dL_history_15 : decode cL_history 15 = .ok (.iconst 1, 1) := by decide +kernel
theorem dL_history_16 : decode cL_history 16 = .ok (.ireturn, 1) := by decide +kernel
theorem dL_history_17 : decode cL_history 17 = .ok (.iconst 0, 1) := by decide +kernel
theorem dL_history_18 : decode cL_history 18 = .ok (.ireturn, 1) := by decide +kernel
set_option maxRecDepth 20000 in
theorem ggL_time_X2_time : GoodIn wsL_time wsX2_time := goodIn_ca (goodIn_r _ [6, 7, 8, 9, 5, 10, 11, 12, 13, 14, 15, 16, 17, 18, 19, 20, 21, 22, 23, 24, 25, 26, 27, 28, 29, 30, 31, 32, 33, 34, 35, 36, 37, 38, 39, 40, 41, 42, 43, 44, 45, 46, 47, 48, 49, 50, 51, 52, 53, 54, 55, 56, 57] (by decide +kernel) (by decide +kernel)) (goodIn_sub (fun _ h => List.mem_cons_of_mem _ (List.mem_append_right _ h)) (by decide +kernel))
set_option maxRecDepth 20000 in
theorem gL_time_X2_time : GoodIn wsL_time (wsV RL 50 RX2 yX2_time wsX2_time) := goodIn_app (goodIn_of _ (by decide +kernel)) ggL_time_X2_time
theorem dL_time_0 : decode cL_time 0 = .ok (.aload_n 2, 1) := by decide +kernel
theorem dL_time_1 : decode cL_time 1 = .ok (.iconst 0, 1) := by decide +kernel
theorem dL_time_2 : decode cL_time 2 = .ok (.aload_n 0, 1) := by decide +kernel
theorem dL_time_3 : decode cL_time 3 = .ok (.iload_n 1, 1) := by decide +kernel
theorem dL_time_4 : decode cL_time 4 = .ok (.invokevirtual 50, 3) := by decide +kernel
theorem dL_time_7 : decode cL_time 7 = .ok (.i2l, 1) := by decide +kernel
theorem dL_time_8 : decode cL_time 8 = .ok (.lastore, 1) := by decide +kernel
theorem dL_time_9 : decode cL_time 9 = .ok (.goto 6, 3) := by decide +kernel
theorem dL_time_12 : decode cL_time 12 = .ok (.astore_n 3, 1) := by decide +kernel
theorem dL_time_13 : decode cL_time 13 = .ok (.iconst 1, 1) := by decide +kernel
theorem dL_time_14 : decode cL_time 14 = .ok (.ireturn, 1) := by decide +kernel
theorem dL_time_15 : decode cL_time 15 = .ok (.iconst 0, 1) := by decide +kernel
theorem dL_time_16 : decode cL_time 16 = .ok (.ireturn, 1) := by decide +kernel
set_option maxRecDepth 20000 in
theorem ggL_timeAnew_X2_timeAnew : GoodIn wsL_timeAnew wsX2_timeAnew := goodIn_ca (goodIn_r _ [6, 7, 8, 9, 10, 5, 11, 12, 13, 14, 15, 16, 17, 18, 19, 20, 21, 22, 23, 24, 25, 26, 27, 28, 29, 30, 31, 32, 33, 34, 35, 36, 37, 38, 39, 40, 41, 42, 43, 44, 45, 46, 47, 48, 49, 50, 51, 52, 53, 54, 55, 56, 57, 58, 59, 60, 61, 62, 63] (by decide +kernel) (by decide +kernel)) (goodIn_sub (fun _ h => List.mem_cons_of_mem _ (List.mem_append_right _ h)) (by decide +kernel))
set_option maxRecDepth 20000 in
theorem gL_timeAnew_X2_timeAnew : GoodIn wsL_timeAnew (wsV RL 53 RX2 yX2_timeAnew wsX2_timeAnew) := goodIn_app (goodIn_of _ (by decide +kernel)) ggL_timeAnew_X2_timeAnew
theorem dL_timeAnew_0 : decode cL_timeAnew 0 = .ok (.aload_n 2, 1) := by decide +kernel
theorem dL_timeAnew_1 : decode cL_timeAnew 1 = .ok (.iconst 0, 1) := by decide +kernel
theorem dL_timeAnew_2 : decode cL_timeAnew 2 = .ok (.aload_n 0, 1) := by decide +kernel
theorem dL_timeAnew_3 : decode cL_timeAnew 3 = .ok (.iload_n 1, 1) := by decide +kernel
theorem dL_timeAnew_4 : decode cL_timeAnew 4 = .ok (.invokevirtual 53, 3) := by decide +kernel
theorem dL_timeAnew_7 : decode cL_timeAnew 7 = .ok (.i2l, 1) := by decide +kernel
theorem dL_timeAnew_8 : decode cL_timeAnew 8 = .ok (.lastore, 1) := by decide +kernel
theorem dL_timeAnew_9 : decode cL_timeAnew 9 = .ok (.goto 6, 3) := by decide +kernel
theorem dL_timeAnew_12 : decode cL_timeAnew 12 = .ok (.astore_n 3, 1) := by decide +kernel
theorem dL_timeAnew_13 : decode cL_timeAnew 13 = .ok (.iconst 1, 1) := by decide +kernel
theorem dL_timeAnew_14 : decode cL_timeAnew 14 = .ok (.ireturn, 1) := by decide +kernel
theorem dL_timeAnew_15 : decode cL_timeAnew 15 = .ok (.iconst 0, 1) := by decide +kernel
theorem dL_timeAnew_16 : decode cL_timeAnew 16 = .ok (.ireturn, 1) := by decide +kernel
set_option maxRecDepth 20000 in
theorem ggL_lesson_X2_lesson : GoodIn wsL_lesson wsX2_lesson := goodIn_ca (goodIn_r _ [6, 7, 8, 9, 10, 11, 5, 12, 13, 14, 15, 16, 17, 18, 19, 20, 21, 22, 23, 24, 25, 26, 27, 28, 29, 30, 31, 32, 33, 34, 35, 36, 37, 38, 39, 40, 41, 42] (by decide +kernel) (by decide +kernel)) (goodIn_sub (fun _ h => List.mem_cons_of_mem _ (List.mem_append_right _ h)) (by decide +kernel))
set_option maxRecDepth 20000 in
theorem gL_lesson_X2_lesson : GoodIn wsL_lesson (wsV RL 56 RX2 yX2_lesson wsX2_lesson) := goodIn_app (goodIn_of _ (by decide +kernel)) ggL_lesson_X2_lesson
theorem dL_lesson_0 : decode cL_lesson 0 = .ok (.aload_n 3, 1) := by decide +kernel
theorem dL_lesson_1 : decode cL_lesson 1 = .ok (.iconst 0, 1) := by decide +kernel
theorem dL_lesson_2 : decode cL_lesson 2 = .ok (.aload_n 0, 1) := by decide +kernel
theorem dL_lesson_3 : decode cL_lesson 3 = .ok (.iload_n 1, 1) := by decide +kernel
theorem dL_lesson_4 : decode cL_lesson 4 = .ok (.iload_n 2, 1) := by decide +kernel
theorem dL_lesson_5 : decode cL_lesson 5 = .ok (.invokevirtual 56, 3) := by decide +kernel
theorem dL_lesson_8 : decode cL_lesson 8 = .ok (.i2l, 1) := by decide +kernel
theorem dL_lesson_9 : decode cL_lesson 9 = .ok (.lastore, 1) := by decide +kernel
theorem dL_lesson_10 : decode cL_lesson 10 = .ok (.goto 7, 3) := by decide +kernel
theorem dL_lesson_13 : decode cL_lesson 13 = .ok (.astore 4, 2) := by decide +kernel
theorem dL_lesson_15 : decode cL_lesson 15 = .ok (.iconst 1, 1) := by decide +kernel
theorem dL_lesson_16 : decode cL_lesson 16 = .ok (.ireturn, 1) := by decide +kernel
theorem dL_lesson_17 : decode cL_lesson 17 = .ok (.iconst 0, 1) := by decide +kernel
theorem dL_lesson_18 : decode cL_lesson 18 = .ok (.ireturn, 1) := by decide +kernel
set_option maxRecDepth 20000 in
theorem ggL_saves_X2_saves : GoodIn wsL_saves wsX2_saves := goodIn_ca (goodIn_ca (goodIn_r _ [7, 8, 9, 10, 6, 11, 12, 13, 14, 15, 16, 17, 18, 19, 20, 21, 22, 23, 24, 25, 26, 27, 28, 29, 30, 31, 32, 33, 34, 35, 36, 37, 38, 39, 40, 41, 42, 43, 44, 45, 46, 47, 48, 49, 50, 51, 52, 53, 54, 55, 56, 57, 58, 59, 60, 61, 62, 63, 64, 65, 66, 67, 68, 69, 70] (by decide +kernel) (by decide +kernel)) (goodIn_sub (fun _ h => List.mem_cons_of_mem _ (List.mem_append_left _ (List.mem_append_right _ h))) (by decide +kernel))) (goodIn_sub (fun _ h => List.mem_cons_of_mem _ (List.mem_append_right _ h)) (by decide +kernel))
set_option maxRecDepth 20000 in
theorem gL_saves_X2_saves : GoodIn wsL_saves (wsV RL 59 RX2 yX2_saves wsX2_saves) := goodIn_app (goodIn_of _ (by decide +kernel)) ggL_saves_X2_saves
theorem dL_saves_0 : decode cL_saves 0 = .ok (.aload 4, 2) := by decide +kernel
theorem dL_saves_2 : decode cL_saves 2 = .ok (.iconst 0, 1) := by decide +kernel
theorem dL_saves_3 : decode cL_saves 3 = .ok (.aload_n 0, 1) := by decide +kernel
theorem dL_saves_4 : decode cL_saves 4 = .ok (.iload_n 1, 1) := by decide +kernel
theorem dL_saves_5 : decode cL_saves 5 = .ok (.iload_n 2, 1) := by decide +kernel
theorem dL_saves_6 : decode cL_saves 6 = .ok (.iload_n 3, 1) := by decide +kernel
theorem dL_saves_7 : decode cL_saves 7 = .ok (.invokevirtual 59, 3) := by decide +kernel
theorem dL_saves_10 : decode cL_saves 10 = .ok (.i2l, 1) := by decide +kernel
theorem dL_saves_11 : decode cL_saves 11 = .ok (.lastore, 1) := by decide +kernel
theorem dL_saves_12 : decode cL_saves 12 = .ok (.goto 11, 3) := by decide +kernel
theorem dL_saves_15 : decode cL_saves 15 = .ok (.astore 5, 2) := by decide +kernel
theorem dL_saves_17 : decode cL_saves 17 = .ok (.iconst 1, 1) := by decide +kernel
theorem dL_saves_18 : decode cL_saves 18 = .ok (.ireturn, 1) := by decide +kernel
theorem dL_saves_19 : decode cL_saves 19 = .ok (.astore 5, 2) := by decide +kernel
theorem dL_saves_21 : decode cL_saves 21 = .ok (.iconst 2, 1) := by decide +kernel
theorem dL_saves_22 : decode cL_saves 22 = .ok (.ireturn, 1) := by decide +kernel
theorem dL_saves_23 : decode cL_saves 23 = .ok (.iconst 0, 1) := by decide +kernel
theorem dL_saves_24 : decode cL_saves 24 = .ok (.ireturn, 1) := by decide +kernel
set_option maxRecDepth 20000 in
theorem ggL_best_X2_best : GoodIn wsL_best wsX2_best := goodIn_ca (goodIn_r _ [6, 7, 8, 9, 5, 10, 11, 12, 13, 14, 15, 16, 17, 18, 19, 20, 21, 22, 23, 24, 25, 26, 27, 28, 29, 30, 31, 32, 33, 34, 35, 36, 37, 38, 39, 40, 41, 42, 43, 44, 45, 46, 47, 48, 49, 50, 51, 52, 53, 54, 55, 56, 57, 58, 59, 60, 61] (by decide +kernel) (by decide +kernel)) (goodIn_sub (fun _ h => List.mem_cons_of_mem _ (List.mem_append_right _ h)) (by decide +kernel))
set_option maxRecDepth 20000 in
theorem gL_best_X2_best : GoodIn wsL_best (wsV RL 62 RX2 yX2_best wsX2_best) := goodIn_app (goodIn_of _ (by decide +kernel)) ggL_best_X2_best
theorem dL_best_0 : decode cL_best 0 = .ok (.aload_n 2, 1) := by decide +kernel
theorem dL_best_1 : decode cL_best 1 = .ok (.iconst 0, 1) := by decide +kernel
theorem dL_best_2 : decode cL_best 2 = .ok (.aload_n 0, 1) := by decide +kernel
theorem dL_best_3 : decode cL_best 3 = .ok (.iload_n 1, 1) := by decide +kernel
theorem dL_best_4 : decode cL_best 4 = .ok (.invokevirtual 62, 3) := by decide +kernel
theorem dL_best_7 : decode cL_best 7 = .ok (.i2l, 1) := by decide +kernel
theorem dL_best_8 : decode cL_best 8 = .ok (.lastore, 1) := by decide +kernel
theorem dL_best_9 : decode cL_best 9 = .ok (.goto 6, 3) := by decide +kernel
theorem dL_best_12 : decode cL_best 12 = .ok (.astore_n 3, 1) := by decide +kernel
theorem dL_best_13 : decode cL_best 13 = .ok (.iconst 1, 1) := by decide +kernel
theorem dL_best_14 : decode cL_best 14 = .ok (.ireturn, 1) := by decide +kernel
theorem dL_best_15 : decode cL_best 15 = .ok (.iconst 0, 1) := by decide +kernel
theorem dL_best_16 : decode cL_best 16 = .ok (.ireturn, 1) := by decide +kernel
set_option maxRecDepth 20000 in
theorem ggL_draft_X2_draft : GoodIn wsL_draft wsX2_draft := goodIn_ca (goodIn_ca (goodIn_r _ [7, 8, 9, 10, 11, 12, 13, 6, 14, 15, 16, 17, 18, 19, 20, 21, 22, 23, 24] (by decide +kernel) (by decide +kernel)) (goodIn_sub (fun _ h => List.mem_cons_of_mem _ (List.mem_append_left _ (List.mem_append_right _ h))) (by decide +kernel))) (goodIn_sub (fun _ h => List.mem_cons_of_mem _ (List.mem_append_right _ h)) (by decide +kernel))
set_option maxRecDepth 20000 in
theorem gL_draft_X2_draft : GoodIn wsL_draft (wsV RL 65 RX2 yX2_draft wsX2_draft) := goodIn_app (goodIn_of _ (by decide +kernel)) ggL_draft_X2_draft
theorem dL_draft_0 : decode cL_draft 0 = .ok (.aload_n 2, 1) := by decide +kernel
theorem dL_draft_1 : decode cL_draft 1 = .ok (.iconst 0, 1) := by decide +kernel
theorem dL_draft_2 : decode cL_draft 2 = .ok (.aload_n 0, 1) := by decide +kernel
theorem dL_draft_3 : decode cL_draft 3 = .ok (.iload_n 1, 1) := by decide +kernel
theorem dL_draft_4 : decode cL_draft 4 = .ok (.invokevirtual 65, 3) := by decide +kernel
theorem dL_draft_7 : decode cL_draft 7 = .ok (.i2l, 1) := by decide +kernel
theorem dL_draft_8 : decode cL_draft 8 = .ok (.lastore, 1) := by decide +kernel
theorem dL_draft_9 : decode cL_draft 9 = .ok (.goto 9, 3) := by decide +kernel
theorem dL_draft_12 : decode cL_draft 12 = .ok (.astore_n 3, 1) := by decide +kernel
theorem dL_draft_13 : decode cL_draft 13 = .ok (.iconst 1, 1) := by decide +kernel
theorem dL_draft_14 : decode cL_draft 14 = .ok (.ireturn, 1) := by decide +kernel
theorem dL_draft_15 : decode cL_draft 15 = .ok (.astore_n 3, 1) := by decide +kernel
theorem dL_draft_16 : decode cL_draft 16 = .ok (.iconst 2, 1) := by decide +kernel
theorem dL_draft_17 : decode cL_draft 17 = .ok (.ireturn, 1) := by decide +kernel
theorem dL_draft_18 : decode cL_draft 18 = .ok (.iconst 0, 1) := by decide +kernel
theorem dL_draft_19 : decode cL_draft 19 = .ok (.ireturn, 1) := by decide +kernel
set_option maxRecDepth 20000 in
theorem ggL_contest_X2_contest : GoodIn wsL_contest wsX2_contest := goodIn_ca (goodIn_r _ [6, 7, 8, 9, 10, 11, 12, 13, 14, 5, 15, 16, 17, 18, 19, 20, 21, 22, 23, 24, 25, 26, 27, 28, 29, 30, 31, 32, 33, 34, 35, 36, 37, 38, 39, 40, 41, 42, 43, 44, 45, 46, 47, 48, 49, 50, 51, 52, 53, 54, 55, 56, 57, 58, 59, 60, 61, 62, 63, 64, 65, 66, 67, 68, 69, 70, 71, 72] (by decide +kernel) (by decide +kernel)) (goodIn_sub (fun _ h => List.mem_cons_of_mem _ (List.mem_append_right _ h)) (by decide +kernel))
set_option maxRecDepth 20000 in
theorem gL_contest_X2_contest : GoodIn wsL_contest (wsV RL 68 RX2 yX2_contest wsX2_contest) := goodIn_app (goodIn_of _ (by decide +kernel)) ggL_contest_X2_contest
theorem dL_contest_0 : decode cL_contest 0 = .ok (.aload_n 1, 1) := by decide +kernel
theorem dL_contest_1 : decode cL_contest 1 = .ok (.iconst 0, 1) := by decide +kernel
theorem dL_contest_2 : decode cL_contest 2 = .ok (.aload_n 0, 1) := by decide +kernel
theorem dL_contest_3 : decode cL_contest 3 = .ok (.invokevirtual 68, 3) := by decide +kernel
theorem dL_contest_6 : decode cL_contest 6 = .ok (.i2l, 1) := by decide +kernel
theorem dL_contest_7 : decode cL_contest 7 = .ok (.lastore, 1) := by decide +kernel
theorem dL_contest_8 : decode cL_contest 8 = .ok (.goto 6, 3) := by decide +kernel
theorem dL_contest_11 : decode cL_contest 11 = .ok (.astore_n 2, 1) := by decide +kernel
theorem dL_contest_12 : decode cL_contest 12 = .ok (.iconst 1, 1) := by decide +kernel
theorem dL_contest_13 : decode cL_contest 13 = .ok (.ireturn, 1) := by decide +kernel
theorem dL_contest_14 : decode cL_contest 14 = .ok (.iconst 0, 1) := by decide +kernel
theorem dL_contest_15 : decode cL_contest 15 = .ok (.ireturn, 1) := by decide +kernel
set_option maxRecDepth 20000 in
theorem ggL_result_X2_result : GoodIn wsL_result wsX2_result := goodIn_ca (goodIn_ca (goodIn_ca (goodIn_r _ [8, 9, 10, 11, 12, 13, 14, 15, 16, 7, 17, 18, 19, 20, 21, 22, 23, 24, 25, 26, 27, 28, 29, 30, 31, 32, 33, 34, 35, 36, 37, 38, 39, 40, 41, 42] (by decide +kernel) (by decide +kernel)) (goodIn_sub (fun _ h => List.mem_cons_of_mem _ (List.mem_append_left _ (List.mem_append_left _ (List.mem_append_right _ h)))) (by decide +kernel))) (goodIn_sub (fun _ h => List.mem_cons_of_mem _ (List.mem_append_left _ (List.mem_append_right _ h))) (by decide +kernel))) (goodIn_sub (fun _ h => List.mem_cons_of_mem _ (List.mem_append_right _ h)) (by decide +kernel))
set_option maxRecDepth 20000 in
theorem gL_result_X2_result : GoodIn wsL_result (wsV RL 71 RX2 yX2_result wsX2_result) := goodIn_app (goodIn_of _ (by decide +kernel)) ggL_result_X2_result
theorem dL_result_0 : decode cL_result 0 = .ok (.aload 4, 2) := by decide +kernel
theorem dL_result_2 : decode cL_result 2 = .ok (.iconst 0, 1) := by decide +kernel
theorem dL_result_3 : decode cL_result 3 = .ok (.aload_n 0, 1) := by decide +kernel
theorem dL_result_4 : decode cL_result 4 = .ok (.iload_n 1, 1) := by decide +kernel
theorem dL_result_5 : decode cL_result 5 = .ok (.iload_n 2, 1) := by decide +kernel
theorem dL_result_6 : decode cL_result 6 = .ok (.iload_n 3, 1) := by decide +kernel
theorem dL_result_7 : decode cL_result 7 = .ok (.invokevirtual 71, 3) := by decide +kernel
theorem dL_result_10 : decode cL_result 10 = .ok (.i2l, 1) := by decide +kernel
theorem dL_result_11 : decode cL_result 11 = .ok (.lastore, 1) := by decide +kernel
theorem dL_result_12 : decode cL_result 12 = .ok (.goto 15, 3) := by decide +kernel
theorem dL_result_15 : decode cL_result 15 = .ok (.astore 5, 2) := by decide +kernel
theorem dL_result_17 : decode cL_result 17 = .ok (.iconst 1, 1) := by decide +kernel
theorem dL_result_18 : decode cL_result 18 = .ok (.ireturn, 1) := by decide +kernel
theorem dL_result_19 : decode cL_result 19 = .ok (.astore 5, 2) := by decide +kernel
theorem dL_result_21 : decode cL_result 21 = .ok (.iconst 2, 1) := by decide +kernel
theorem dL_result_22 : decode cL_result 22 = .ok (.ireturn, 1) := by decide +kernel
theorem dL_result_23 : decode cL_result 23 = .ok (.astore 5, 2) := by decide +kernel
theorem dL_result_25 : decode cL_result 25 = .ok (.iconst 3, 1) := by decide +kernel
theorem dL_result_26 : decode cL_result 26 = .ok (.ireturn, 1) := by decide +kernel
theorem dL_result_27 : decode cL_result 27 = .ok (.iconst 0, 1) := by decide +kernel
theorem dL_result_28 : decode cL_result 28 = .ok (.ireturn, 1) := by decide +kernel
set_option maxRecDepth 20000 in
theorem ggL_of_X2_of : GoodIn wsL_of wsX2_of := goodIn_ca (goodIn_ca (goodIn_r _ [7, 8, 9, 10, 11, 12, 6, 13, 14, 15, 16, 17, 18, 19, 20, 21, 22, 23, 24, 25, 26, 27, 28, 29, 30, 31, 32, 33, 34, 35, 36, 37, 38, 39, 40, 41, 42, 43, 44] (by decide +kernel) (by decide +kernel)) (goodIn_sub (fun _ h => List.mem_cons_of_mem _ (List.mem_append_left _ (List.mem_append_right _ h))) (by decide +kernel))) (goodIn_sub (fun _ h => List.mem_cons_of_mem _ (List.mem_append_right _ h)) (by decide +kernel))
set_option maxRecDepth 20000 in
theorem gL_of_X2_of : GoodIn wsL_of (wsV RL 74 RX2 yX2_of wsX2_of) := goodIn_app (goodIn_of _ (by decide +kernel)) ggL_of_X2_of
theorem dL_of_0 : decode cL_of 0 = .ok (.aload 4, 2) := by decide +kernel
theorem dL_of_2 : decode cL_of 2 = .ok (.iconst 0, 1) := by decide +kernel
theorem dL_of_3 : decode cL_of 3 = .ok (.aload_n 0, 1) := by decide +kernel
theorem dL_of_4 : decode cL_of 4 = .ok (.iload_n 1, 1) := by decide +kernel
theorem dL_of_5 : decode cL_of 5 = .ok (.iload_n 2, 1) := by decide +kernel
theorem dL_of_6 : decode cL_of 6 = .ok (.iload_n 3, 1) := by decide +kernel
theorem dL_of_7 : decode cL_of 7 = .ok (.invokevirtual 74, 3) := by decide +kernel
theorem dL_of_10 : decode cL_of 10 = .ok (.i2l, 1) := by decide +kernel
theorem dL_of_11 : decode cL_of 11 = .ok (.lastore, 1) := by decide +kernel
theorem dL_of_12 : decode cL_of 12 = .ok (.goto 11, 3) := by decide +kernel
theorem dL_of_15 : decode cL_of 15 = .ok (.astore 5, 2) := by decide +kernel
theorem dL_of_17 : decode cL_of 17 = .ok (.iconst 1, 1) := by decide +kernel
theorem dL_of_18 : decode cL_of 18 = .ok (.ireturn, 1) := by decide +kernel
theorem dL_of_19 : decode cL_of 19 = .ok (.astore 5, 2) := by decide +kernel
theorem dL_of_21 : decode cL_of 21 = .ok (.iconst 2, 1) := by decide +kernel
theorem dL_of_22 : decode cL_of 22 = .ok (.ireturn, 1) := by decide +kernel
theorem dL_of_23 : decode cL_of 23 = .ok (.iconst 0, 1) := by decide +kernel
theorem dL_of_24 : decode cL_of 24 = .ok (.ireturn, 1) := by decide +kernel
set_option maxRecDepth 20000 in
theorem ggL_ranked_X2_ranked : GoodIn wsL_ranked wsX2_ranked := goodIn_ca (goodIn_r _ [6, 7, 8, 9, 10, 11, 5, 12, 13, 14, 15, 16, 17, 18, 19, 20, 21, 22, 23, 24, 25, 26, 27, 28, 29, 30, 31, 32, 33, 34, 35, 36, 37] (by decide +kernel) (by decide +kernel)) (goodIn_sub (fun _ h => List.mem_cons_of_mem _ (List.mem_append_right _ h)) (by decide +kernel))
set_option maxRecDepth 20000 in
theorem gL_ranked_X2_ranked : GoodIn wsL_ranked (wsV RL 77 RX2 yX2_ranked wsX2_ranked) := goodIn_app (goodIn_of _ (by decide +kernel)) ggL_ranked_X2_ranked
theorem dL_ranked_0 : decode cL_ranked 0 = .ok (.aload_n 3, 1) := by decide +kernel
theorem dL_ranked_1 : decode cL_ranked 1 = .ok (.iconst 0, 1) := by decide +kernel
theorem dL_ranked_2 : decode cL_ranked 2 = .ok (.aload_n 0, 1) := by decide +kernel
theorem dL_ranked_3 : decode cL_ranked 3 = .ok (.iload_n 1, 1) := by decide +kernel
theorem dL_ranked_4 : decode cL_ranked 4 = .ok (.iload_n 2, 1) := by decide +kernel
theorem dL_ranked_5 : decode cL_ranked 5 = .ok (.invokevirtual 77, 3) := by decide +kernel
theorem dL_ranked_8 : decode cL_ranked 8 = .ok (.i2l, 1) := by decide +kernel
theorem dL_ranked_9 : decode cL_ranked 9 = .ok (.lastore, 1) := by decide +kernel
theorem dL_ranked_10 : decode cL_ranked 10 = .ok (.goto 7, 3) := by decide +kernel
theorem dL_ranked_13 : decode cL_ranked 13 = .ok (.astore 4, 2) := by decide +kernel
theorem dL_ranked_15 : decode cL_ranked 15 = .ok (.iconst 1, 1) := by decide +kernel
theorem dL_ranked_16 : decode cL_ranked 16 = .ok (.ireturn, 1) := by decide +kernel
theorem dL_ranked_17 : decode cL_ranked 17 = .ok (.iconst 0, 1) := by decide +kernel
theorem dL_ranked_18 : decode cL_ranked 18 = .ok (.ireturn, 1) := by decide +kernel
set_option maxRecDepth 20000 in
theorem ggL_law_X2_init : GoodIn wsL_law wsX2_init := goodIn_r _ [9, 10, 11, 12, 13, 14, 15, 16, 17, 18, 19, 20, 474, 475, 476, 477, 478] (by decide +kernel) (by decide +kernel)
set_option maxRecDepth 20000 in
theorem gL_law_X2_init : GoodIn wsL_law (wsX2_init) := ggL_law_X2_init
set_option maxRecDepth 20000 in
theorem ggL_law_X3_init : GoodIn wsL_law wsX3_init := goodIn_r _ [23, 24, 11, 12, 17, 25, 26, 27, 28, 29, 30, 31, 32, 33, 34, 35, 36, 37, 479, 480, 481, 482, 483, 484, 485, 486, 487, 488, 489, 490, 491, 492, 493, 494, 495] (by decide +kernel) (by decide +kernel)
set_option maxRecDepth 20000 in
theorem gL_law_X3_init : GoodIn wsL_law (wsX3_init) := ggL_law_X3_init
set_option maxRecDepth 20000 in
theorem ggL_law_L_student : GoodIn wsL_law wsL_student := goodIn_ca (goodIn_r _ [41, 42, 43, 44, 45, 2, 46, 47, 48, 14, 13, 49, 50, 51, 52, 53, 11, 12, 17, 54, 55, 56, 57, 58, 59, 60, 61, 62, 63, 474, 475, 476, 477, 478, 496, 497, 498, 499, 500, 501, 502, 503] (by decide +kernel) (by decide +kernel)) (goodIn_sub (fun _ h => List.mem_append_left _ (List.mem_append_left _ (List.mem_append_right _ h))) (by decide +kernel))
set_option maxRecDepth 20000 in
theorem gL_law_L_student : GoodIn wsL_law (va_wsS RL 84 yL_student wsL_student) := goodIn_app (goodIn_of _ (by decide +kernel)) ggL_law_L_student
set_option maxRecDepth 20000 in
theorem ggL_law_X3_student : GoodIn wsL_law wsX3_student := goodIn_r _ [67, 68, 31, 69, 70, 71, 5, 72, 73, 479, 480, 481, 482, 483, 484, 485, 486, 487, 488, 489, 490, 491, 492, 493, 494, 495] (by decide +kernel) (by decide +kernel)
set_option maxRecDepth 20000 in
theorem gL_law_X3_student : GoodIn wsL_law (wsV RL 89 RX3 yX3_student wsX3_student) := goodIn_app (goodIn_of _ (by decide +kernel)) ggL_law_X3_student
set_option maxRecDepth 20000 in
theorem ggL_law_X3_thrown : GoodIn wsL_law wsX3_thrown := goodIn_r _ [77, 73, 479, 480, 481, 482, 483, 484, 485, 486, 487, 488, 489, 490, 491, 492, 493, 494, 495] (by decide +kernel) (by decide +kernel)
set_option maxRecDepth 20000 in
theorem gL_law_X3_thrown : GoodIn wsL_law (wsV RL 90 RX3 yX3_thrown wsX3_thrown) := goodIn_app (goodIn_of _ (by decide +kernel)) ggL_law_X3_thrown
set_option maxRecDepth 20000 in
theorem ggL_law_L_carry : GoodIn wsL_law wsL_carry := goodIn_ca (goodIn_ca (goodIn_r _ [80, 81, 82, 83, 84, 85, 2, 86, 87, 88, 89, 90, 91, 92, 93, 94, 14, 496, 497, 498, 499, 500, 501, 502, 503, 474, 475, 476, 477, 478] (by decide +kernel) (by decide +kernel)) (goodIn_sub (fun _ h => List.mem_append_left _ (List.mem_append_right _ h)) (by decide +kernel))) (goodIn_sub (fun _ h => List.mem_append_right _ h) (by decide +kernel))
set_option maxRecDepth 20000 in
theorem gL_law_L_carry : GoodIn wsL_law (va_wsS RL 93 yL_carry wsL_carry) := goodIn_app (goodIn_of _ (by decide +kernel)) ggL_law_L_carry
set_option maxRecDepth 20000 in
theorem ggL_law_X3_carry : GoodIn wsL_law wsX3_carry := goodIn_r _ [98, 27, 99, 100, 101, 5, 102, 68, 103, 104, 105, 69, 70, 71, 72, 73, 479, 480, 481, 482, 483, 484, 485, 486, 487, 488, 489, 490, 491, 492, 493, 494, 495] (by decide +kernel) (by decide +kernel)
set_option maxRecDepth 20000 in
theorem gL_law_X3_carry : GoodIn wsL_law (wsV RL 96 RX3 yX3_carry wsX3_carry) := goodIn_app (goodIn_of _ (by decide +kernel)) ggL_law_X3_carry
set_option maxRecDepth 20000 in
theorem ggL_law_L_swap : GoodIn wsL_law wsL_swap := goodIn_ca (goodIn_ca (goodIn_r _ [108, 81, 82, 109, 110, 111, 2, 112, 89, 90, 91, 92, 93, 94, 14, 113, 114, 115, 87, 88, 116, 117, 118, 119, 50, 120, 121, 122, 123, 124, 125, 59, 60, 54, 126, 127, 128, 129, 130, 131, 132, 133, 134, 135, 136, 137, 138, 139, 140, 141, 142, 143, 144, 145, 146, 147, 148, 149, 150, 151, 152, 55, 56, 57, 62, 63, 474, 475, 476, 477, 478, 496, 497, 498, 499, 500, 501, 502, 503] (by decide +kernel) (by decide +kernel)) (goodIn_sub (fun _ h => List.mem_append_right _ h) (by decide +kernel))) (goodIn_sub (fun _ h => List.mem_append_left _ (List.mem_append_right _ h)) (by decide +kernel))
set_option maxRecDepth 20000 in
theorem gL_law_L_swap : GoodIn wsL_law (va_wsS RL 97 yL_swap wsL_swap) := goodIn_app (goodIn_of _ (by decide +kernel)) ggL_law_L_swap
set_option maxRecDepth 20000 in
theorem ggL_law_X3_swap : GoodIn wsL_law wsX3_swap := goodIn_r _ [156, 26, 25, 27, 28, 157, 158, 159, 5, 160, 99, 100, 101, 102, 68, 103, 104, 105, 161, 162, 163, 69, 70, 71, 72, 73, 164, 165, 166, 167, 168, 169, 170, 171, 32, 33, 172, 173, 174, 175, 176, 177, 178, 479, 480, 481, 482, 483, 484, 485, 486, 487, 488, 489, 490, 491, 492, 493, 494, 495] (by decide +kernel) (by decide +kernel)
set_option maxRecDepth 20000 in
theorem gL_law_X3_swap : GoodIn wsL_law (wsV RL 100 RX3 yX3_swap wsX3_swap) := goodIn_app (goodIn_of _ (by decide +kernel)) ggL_law_X3_swap
set_option maxRecDepth 20000 in
theorem ggL_law_L_keyOf : GoodIn wsL_law wsL_keyOf := goodIn_ca (goodIn_r _ [181, 81, 182, 183, 184, 2, 185, 89, 90, 91, 92, 93, 94, 14, 186, 187, 188, 128, 129, 130, 496, 497, 498, 499, 500, 501, 502, 503, 474, 475, 476, 477, 478] (by decide +kernel) (by decide +kernel)) (goodIn_sub (fun _ h => List.mem_append_right _ h) (by decide +kernel))
set_option maxRecDepth 20000 in
theorem gL_law_L_keyOf : GoodIn wsL_law (va_wsS RL 101 yL_keyOf wsL_keyOf) := goodIn_app (goodIn_of _ (by decide +kernel)) ggL_law_L_keyOf
set_option maxRecDepth 20000 in
theorem ggL_law_X3_keyOf : GoodIn wsL_law wsX3_keyOf := goodIn_r _ [192, 25, 99, 100, 101, 5, 102, 68, 103, 104, 105, 161, 162, 163, 69, 70, 71, 72, 73, 479, 480, 481, 482, 483, 484, 485, 486, 487, 488, 489, 490, 491, 492, 493, 494, 495] (by decide +kernel) (by decide +kernel)
set_option maxRecDepth 20000 in
theorem gL_law_X3_keyOf : GoodIn wsL_law (wsV RL 103 RX3 yX3_keyOf wsX3_keyOf) := goodIn_app (goodIn_of _ (by decide +kernel)) ggL_law_X3_keyOf
set_option maxRecDepth 20000 in
theorem ggL_law_L_letterOn : GoodIn wsL_law wsL_letterOn := goodIn_ca (goodIn_r _ [195, 81, 196, 197, 198, 2, 199, 89, 90, 91, 92, 93, 94, 14, 116, 117, 118, 128, 129, 130, 496, 497, 498, 499, 500, 501, 502, 503, 474, 475, 476, 477, 478] (by decide +kernel) (by decide +kernel)) (goodIn_sub (fun _ h => List.mem_append_right _ h) (by decide +kernel))
set_option maxRecDepth 20000 in
theorem gL_law_L_letterOn : GoodIn wsL_law (va_wsS RL 104 yL_letterOn wsL_letterOn) := goodIn_app (goodIn_of _ (by decide +kernel)) ggL_law_L_letterOn
set_option maxRecDepth 20000 in
theorem ggL_law_X3_letterOn : GoodIn wsL_law wsX3_letterOn := goodIn_r _ [203, 26, 99, 100, 101, 5, 102, 68, 103, 104, 105, 161, 162, 163, 69, 70, 71, 72, 73, 479, 480, 481, 482, 483, 484, 485, 486, 487, 488, 489, 490, 491, 492, 493, 494, 495] (by decide +kernel) (by decide +kernel)
set_option maxRecDepth 20000 in
theorem gL_law_X3_letterOn : GoodIn wsL_law (wsV RL 106 RX3 yX3_letterOn wsX3_letterOn) := goodIn_app (goodIn_of _ (by decide +kernel)) ggL_law_X3_letterOn
set_option maxRecDepth 20000 in
theorem ggL_law_L_press : GoodIn wsL_law wsL_press := goodIn_ca (goodIn_r _ [206, 81, 207, 208, 209, 2, 210, 89, 90, 91, 92, 93, 94, 14, 186, 187, 188, 116, 117, 118, 211, 50, 212, 213, 54, 57, 60, 58, 59, 61, 129, 130, 214, 215, 128, 216, 62, 63, 217, 218, 219, 220, 221, 222, 223, 224, 225, 226, 474, 475, 476, 477, 478, 496, 497, 498, 499, 500, 501, 502, 503] (by decide +kernel) (by decide +kernel)) (goodIn_sub (fun _ h => List.mem_append_right _ h) (by decide +kernel))
set_option maxRecDepth 20000 in
theorem gL_law_L_press : GoodIn wsL_law (va_wsS RL 107 yL_press wsL_press) := goodIn_app (goodIn_of _ (by decide +kernel)) ggL_law_L_press
set_option maxRecDepth 20000 in
theorem ggL_law_X3_press : GoodIn wsL_law wsX3_press := goodIn_r _ [230, 25, 28, 31, 29, 30, 32, 33, 99, 100, 101, 5, 102, 68, 103, 104, 105, 161, 162, 163, 69, 70, 71, 72, 73, 479, 480, 481, 482, 483, 484, 485, 486, 487, 488, 489, 490, 491, 492, 493, 494, 495] (by decide +kernel) (by decide +kernel)
set_option maxRecDepth 20000 in
theorem gL_law_X3_press : GoodIn wsL_law (wsV RL 109 RX3 yX3_press wsX3_press) := goodIn_app (goodIn_of _ (by decide +kernel)) ggL_law_X3_press
set_option maxRecDepth 20000 in
theorem ggL_law_L_slips : GoodIn wsL_law wsL_slips := goodIn_ca (goodIn_ca (goodIn_r _ [233, 81, 82, 234, 235, 236, 2, 237, 87, 88, 89, 90, 91, 92, 93, 94, 14, 238, 239, 240, 241, 50, 242, 243, 57, 244, 245, 141, 142, 143, 147, 148, 149, 129, 130, 474, 475, 476, 477, 478, 496, 497, 498, 499, 500, 501, 502, 503] (by decide +kernel) (by decide +kernel)) (goodIn_sub (fun _ h => List.mem_append_left _ (List.mem_append_right _ h)) (by decide +kernel))) (goodIn_sub (fun _ h => List.mem_append_right _ h) (by decide +kernel))
set_option maxRecDepth 20000 in
theorem gL_law_L_slips : GoodIn wsL_law (va_wsS RL 110 yL_slips wsL_slips) := goodIn_app (goodIn_of _ (by decide +kernel)) ggL_law_L_slips
set_option maxRecDepth 20000 in
theorem ggL_law_X3_slips : GoodIn wsL_law wsX3_slips := goodIn_r _ [249, 28, 99, 100, 101, 5, 102, 68, 103, 104, 105, 69, 70, 71, 72, 73, 479, 480, 481, 482, 483, 484, 485, 486, 487, 488, 489, 490, 491, 492, 493, 494, 495] (by decide +kernel) (by decide +kernel)
set_option maxRecDepth 20000 in
theorem gL_law_X3_slips : GoodIn wsL_law (wsV RL 112 RX3 yX3_slips wsX3_slips) := goodIn_app (goodIn_of _ (by decide +kernel)) ggL_law_X3_slips
set_option maxRecDepth 20000 in
theorem ggL_law_L_pair : GoodIn wsL_law wsL_pair := goodIn_ca (goodIn_r _ [252, 81, 253, 254, 255, 2, 256, 89, 90, 91, 92, 93, 94, 14, 186, 187, 188, 257, 217, 218, 128, 129, 130, 496, 497, 498, 499, 500, 501, 502, 503, 474, 475, 476, 477, 478] (by decide +kernel) (by decide +kernel)) (goodIn_sub (fun _ h => List.mem_append_right _ h) (by decide +kernel))
set_option maxRecDepth 20000 in
theorem gL_law_L_pair : GoodIn wsL_law (va_wsS RL 113 yL_pair wsL_pair) := goodIn_app (goodIn_of _ (by decide +kernel)) ggL_law_L_pair
set_option maxRecDepth 20000 in
theorem ggL_law_X3_pair : GoodIn wsL_law wsX3_pair := goodIn_r _ [261, 29, 99, 100, 101, 5, 102, 68, 103, 104, 105, 161, 162, 163, 69, 70, 71, 72, 73, 479, 480, 481, 482, 483, 484, 485, 486, 487, 488, 489, 490, 491, 492, 493, 494, 495] (by decide +kernel) (by decide +kernel)
set_option maxRecDepth 20000 in
theorem gL_law_X3_pair : GoodIn wsL_law (wsV RL 115 RX3 yX3_pair wsX3_pair) := goodIn_app (goodIn_of _ (by decide +kernel)) ggL_law_X3_pair
set_option maxRecDepth 20000 in
theorem ggL_law_L_pressed : GoodIn wsL_law wsL_pressed := goodIn_ca (goodIn_r _ [264, 81, 265, 266, 267, 2, 268, 89, 90, 91, 92, 93, 94, 14, 496, 497, 498, 499, 500, 501, 502, 503, 474, 475, 476, 477, 478] (by decide +kernel) (by decide +kernel)) (goodIn_sub (fun _ h => List.mem_append_right _ h) (by decide +kernel))
set_option maxRecDepth 20000 in
theorem gL_law_L_pressed : GoodIn wsL_law (va_wsS RL 116 yL_pressed wsL_pressed) := goodIn_app (goodIn_of _ (by decide +kernel)) ggL_law_L_pressed
set_option maxRecDepth 20000 in
theorem ggL_law_X3_pressed : GoodIn wsL_law wsX3_pressed := goodIn_r _ [272, 30, 99, 100, 101, 5, 102, 68, 103, 104, 105, 69, 70, 71, 72, 73, 479, 480, 481, 482, 483, 484, 485, 486, 487, 488, 489, 490, 491, 492, 493, 494, 495] (by decide +kernel) (by decide +kernel)
set_option maxRecDepth 20000 in
theorem gL_law_X3_pressed : GoodIn wsL_law (wsV RL 119 RX3 yX3_pressed wsX3_pressed) := goodIn_app (goodIn_of _ (by decide +kernel)) ggL_law_X3_pressed
set_option maxRecDepth 20000 in
theorem ggL_law_L_history : GoodIn wsL_law wsL_history := goodIn_ca (goodIn_r _ [275, 81, 276, 277, 278, 2, 279, 93, 94, 89, 90, 91, 92, 14, 128, 129, 130, 496, 497, 498, 499, 500, 501, 502, 503, 474, 475, 476, 477, 478] (by decide +kernel) (by decide +kernel)) (goodIn_sub (fun _ h => List.mem_append_right _ h) (by decide +kernel))
set_option maxRecDepth 20000 in
theorem gL_law_L_history : GoodIn wsL_law (va_wsS RL 120 yL_history wsL_history) := goodIn_app (goodIn_of _ (by decide +kernel)) ggL_law_L_history
set_option maxRecDepth 20000 in
theorem ggL_law_X3_history : GoodIn wsL_law wsX3_history := goodIn_r _ [283, 32, 33, 99, 100, 101, 5, 102, 68, 103, 104, 105, 69, 70, 71, 72, 73, 479, 480, 481, 482, 483, 484, 485, 486, 487, 488, 489, 490, 491, 492, 493, 494, 495] (by decide +kernel) (by decide +kernel)
set_option maxRecDepth 20000 in
theorem gL_law_X3_history : GoodIn wsL_law (wsV RL 122 RX3 yX3_history wsX3_history) := goodIn_app (goodIn_of _ (by decide +kernel)) ggL_law_X3_history
set_option maxRecDepth 20000 in
theorem ggL_law_L_time : GoodIn wsL_law wsL_time := goodIn_ca (goodIn_r _ [286, 81, 287, 288, 289, 2, 290, 89, 90, 91, 92, 93, 94, 14, 123, 50, 124, 125, 59, 60, 54, 126, 127, 128, 129, 130, 131, 132, 133, 134, 135, 136, 137, 138, 139, 140, 141, 142, 143, 144, 145, 146, 147, 148, 149, 474, 475, 476, 477, 478, 496, 497, 498, 499, 500, 501, 502, 503] (by decide +kernel) (by decide +kernel)) (goodIn_sub (fun _ h => List.mem_append_right _ h) (by decide +kernel))
set_option maxRecDepth 20000 in
theorem gL_law_L_time : GoodIn wsL_law (va_wsS RL 123 yL_time wsL_time) := goodIn_app (goodIn_of _ (by decide +kernel)) ggL_law_L_time
set_option maxRecDepth 20000 in
theorem ggL_law_X3_time : GoodIn wsL_law wsX3_time := goodIn_r _ [294, 99, 100, 101, 5, 102, 68, 103, 104, 105, 69, 70, 71, 72, 73, 168, 169, 170, 171, 32, 33, 172, 173, 174, 175, 25, 176, 177, 178, 479, 480, 481, 482, 483, 484, 485, 486, 487, 488, 489, 490, 491, 492, 493, 494, 495] (by decide +kernel) (by decide +kernel)
set_option maxRecDepth 20000 in
theorem gL_law_X3_time : GoodIn wsL_law (wsV RL 125 RX3 yX3_time wsX3_time) := goodIn_app (goodIn_of _ (by decide +kernel)) ggL_law_X3_time
set_option maxRecDepth 20000 in
theorem ggL_law_L_timeAnew : GoodIn wsL_law wsL_timeAnew := goodIn_ca (goodIn_r _ [297, 81, 298, 299, 300, 2, 301, 20, 89, 90, 91, 92, 93, 94, 14, 302, 50, 303, 304, 60, 59, 54, 305, 306, 307, 308, 129, 130, 217, 218, 214, 215, 128, 216, 62, 63, 135, 136, 137, 138, 139, 140, 141, 142, 143, 144, 145, 146, 147, 148, 149, 474, 475, 476, 477, 478, 496, 497, 498, 499, 500, 501, 502, 503] (by decide +kernel) (by decide +kernel)) (goodIn_sub (fun _ h => List.mem_append_right _ h) (by decide +kernel))
set_option maxRecDepth 20000 in
theorem gL_law_L_timeAnew : GoodIn wsL_law (va_wsS RL 126 yL_timeAnew wsL_timeAnew) := goodIn_app (goodIn_of _ (by decide +kernel)) ggL_law_L_timeAnew
set_option maxRecDepth 20000 in
theorem ggL_law_X3_timeAnew : GoodIn wsL_law wsX3_timeAnew := goodIn_r _ [312, 313, 292, 293, 5, 294, 99, 100, 101, 102, 68, 103, 104, 105, 69, 70, 71, 72, 73, 168, 169, 170, 171, 32, 33, 172, 173, 174, 175, 25, 176, 177, 178, 479, 480, 481, 482, 483, 484, 485, 486, 487, 488, 489, 490, 491, 492, 493, 494, 495] (by decide +kernel) (by decide +kernel)
set_option maxRecDepth 20000 in
theorem gL_law_X3_timeAnew : GoodIn wsL_law (wsV RL 128 RX3 yX3_timeAnew wsX3_timeAnew) := goodIn_app (goodIn_of _ (by decide +kernel)) ggL_law_X3_timeAnew
set_option maxRecDepth 20000 in
theorem ggL_law_L_lesson : GoodIn wsL_law wsL_lesson := goodIn_ca (goodIn_r _ [316, 81, 317, 318, 319, 2, 320, 93, 94, 89, 90, 91, 92, 14, 321, 50, 322, 323, 324, 325, 326, 327, 328, 329, 330, 331, 57, 54, 129, 130, 474, 475, 476, 477, 478, 496, 497, 498, 499, 500, 501, 502, 503] (by decide +kernel) (by decide +kernel)) (goodIn_sub (fun _ h => List.mem_append_right _ h) (by decide +kernel))
set_option maxRecDepth 20000 in
theorem gL_law_L_lesson : GoodIn wsL_law (va_wsS RL 129 yL_lesson wsL_lesson) := goodIn_app (goodIn_of _ (by decide +kernel)) ggL_law_L_lesson
set_option maxRecDepth 20000 in
theorem ggL_law_X3_lesson : GoodIn wsL_law wsX3_lesson := goodIn_r _ [335, 28, 25, 99, 100, 101, 5, 102, 68, 103, 104, 105, 69, 70, 71, 72, 73, 479, 480, 481, 482, 483, 484, 485, 486, 487, 488, 489, 490, 491, 492, 493, 494, 495] (by decide +kernel) (by decide +kernel)
set_option maxRecDepth 20000 in
theorem gL_law_X3_lesson : GoodIn wsL_law (wsV RL 131 RX3 yX3_lesson wsX3_lesson) := goodIn_app (goodIn_of _ (by decide +kernel)) ggL_law_X3_lesson
set_option maxRecDepth 20000 in
theorem ggL_law_L_saves : GoodIn wsL_law wsL_saves := goodIn_ca (goodIn_ca (goodIn_r _ [338, 81, 82, 339, 340, 341, 2, 342, 89, 90, 91, 92, 93, 94, 14, 113, 114, 115, 87, 88, 116, 117, 118, 119, 50, 120, 121, 122, 123, 124, 125, 59, 60, 54, 126, 127, 128, 129, 130, 131, 132, 133, 134, 135, 136, 137, 138, 139, 140, 141, 142, 143, 144, 145, 146, 147, 148, 149, 474, 475, 476, 477, 478, 496, 497, 498, 499, 500, 501, 502, 503] (by decide +kernel) (by decide +kernel)) (goodIn_sub (fun _ h => List.mem_append_right _ h) (by decide +kernel))) (goodIn_sub (fun _ h => List.mem_append_left _ (List.mem_append_right _ h)) (by decide +kernel))
set_option maxRecDepth 20000 in
theorem gL_law_L_saves : GoodIn wsL_law (va_wsS RL 132 yL_saves wsL_saves) := goodIn_app (goodIn_of _ (by decide +kernel)) ggL_law_L_saves
set_option maxRecDepth 20000 in
theorem ggL_law_X3_saves : GoodIn wsL_law wsX3_saves := goodIn_r _ [346, 157, 158, 159, 5, 160, 99, 100, 101, 102, 68, 103, 104, 105, 161, 162, 163, 69, 70, 71, 72, 73, 164, 165, 166, 167, 168, 169, 170, 171, 32, 33, 172, 173, 174, 175, 25, 176, 177, 178, 479, 480, 481, 482, 483, 484, 485, 486, 487, 488, 489, 490, 491, 492, 493, 494, 495] (by decide +kernel) (by decide +kernel)
set_option maxRecDepth 20000 in
theorem gL_law_X3_saves : GoodIn wsL_law (wsV RL 134 RX3 yX3_saves wsX3_saves) := goodIn_app (goodIn_of _ (by decide +kernel)) ggL_law_X3_saves
set_option maxRecDepth 20000 in
theorem ggL_law_L_best : GoodIn wsL_law wsL_best := goodIn_ca (goodIn_r _ [349, 81, 350, 351, 352, 2, 353, 89, 90, 91, 92, 93, 94, 14, 354, 50, 355, 356, 122, 123, 124, 125, 59, 60, 54, 126, 127, 128, 129, 130, 131, 132, 133, 134, 135, 136, 137, 138, 139, 140, 141, 142, 143, 144, 145, 146, 147, 148, 149, 474, 475, 476, 477, 478, 496, 497, 498, 499, 500, 501, 502, 503] (by decide +kernel) (by decide +kernel)) (goodIn_sub (fun _ h => List.mem_append_right _ h) (by decide +kernel))
set_option maxRecDepth 20000 in
theorem gL_law_L_best : GoodIn wsL_law (va_wsS RL 135 yL_best wsL_best) := goodIn_app (goodIn_of _ (by decide +kernel)) ggL_law_L_best
set_option maxRecDepth 20000 in
theorem ggL_law_X3_best : GoodIn wsL_law wsX3_best := goodIn_r _ [360, 99, 100, 101, 5, 102, 68, 103, 104, 105, 69, 70, 71, 72, 73, 164, 165, 166, 167, 168, 169, 170, 171, 32, 33, 172, 173, 174, 175, 25, 176, 177, 178, 479, 480, 481, 482, 483, 484, 485, 486, 487, 488, 489, 490, 491, 492, 493, 494, 495] (by decide +kernel) (by decide +kernel)
set_option maxRecDepth 20000 in
theorem gL_law_X3_best : GoodIn wsL_law (wsV RL 137 RX3 yX3_best wsX3_best) := goodIn_app (goodIn_of _ (by decide +kernel)) ggL_law_X3_best
set_option maxRecDepth 20000 in
theorem ggL_law_L_draft : GoodIn wsL_law wsL_draft := goodIn_ca (goodIn_ca (goodIn_r _ [363, 81, 42, 364, 365, 366, 2, 367, 47, 48, 19, 18, 186, 187, 188, 93, 94, 216, 62, 63, 474, 475, 476, 477, 478] (by decide +kernel) (by decide +kernel)) (goodIn_sub (fun _ h => List.mem_append_left _ (List.mem_append_left _ (List.mem_append_right _ h))) (by decide +kernel))) (goodIn_sub (fun _ h => List.mem_append_right _ h) (by decide +kernel))
set_option maxRecDepth 20000 in
theorem gL_law_L_draft : GoodIn wsL_law (va_wsS RL 138 yL_draft wsL_draft) := goodIn_app (goodIn_of _ (by decide +kernel)) ggL_law_L_draft
set_option maxRecDepth 20000 in
theorem ggL_law_X3_draft : GoodIn wsL_law wsX3_draft := goodIn_r _ [371, 372, 34, 161, 162, 5, 163, 103, 104, 105, 69, 70, 71, 72, 73, 479, 480, 481, 482, 483, 484, 485, 486, 487, 488, 489, 490, 491, 492, 493, 494, 495] (by decide +kernel) (by decide +kernel)
set_option maxRecDepth 20000 in
theorem gL_law_X3_draft : GoodIn wsL_law (wsV RL 140 RX3 yX3_draft wsX3_draft) := goodIn_app (goodIn_of _ (by decide +kernel)) ggL_law_X3_draft
set_option maxRecDepth 20000 in
theorem ggL_law_X2_clear : GoodIn wsL_law wsX2_clear := goodIn_r _ [376, 19, 474, 475, 476, 477, 478] (by decide +kernel) (by decide +kernel)
set_option maxRecDepth 20000 in
theorem gL_law_X2_clear : GoodIn wsL_law (wsV RL 141 RX2 yX2_clear wsX2_clear) := goodIn_app (goodIn_of _ (by decide +kernel)) ggL_law_X2_clear
set_option maxRecDepth 20000 in
theorem ggL_law_X3_clear : GoodIn wsL_law wsX3_clear := goodIn_r _ [380, 73, 372, 479, 480, 481, 482, 483, 484, 485, 486, 487, 488, 489, 490, 491, 492, 493, 494, 495] (by decide +kernel) (by decide +kernel)
set_option maxRecDepth 20000 in
theorem gL_law_X3_clear : GoodIn wsL_law (wsV RL 144 RX3 yX3_clear wsX3_clear) := goodIn_app (goodIn_of _ (by decide +kernel)) ggL_law_X3_clear
set_option maxRecDepth 20000 in
theorem ggL_law_L_contest : GoodIn wsL_law wsL_contest := goodIn_ca (goodIn_r _ [383, 42, 384, 385, 386, 2, 387, 47, 48, 19, 14, 16, 388, 389, 390, 391, 15, 392, 393, 18, 394, 395, 396, 11, 12, 17, 397, 398, 399, 400, 126, 127, 128, 129, 130, 131, 132, 133, 134, 135, 136, 137, 138, 139, 140, 141, 142, 143, 144, 145, 146, 147, 148, 149, 216, 62, 63, 474, 475, 476, 477, 478, 504, 505, 506, 496, 497, 498, 499, 500, 501, 502, 503] (by decide +kernel) (by decide +kernel)) (goodIn_sub (fun _ h => List.mem_append_left _ (List.mem_append_left _ (List.mem_append_right _ h))) (by decide +kernel))
set_option maxRecDepth 20000 in
theorem gL_law_L_contest : GoodIn wsL_law (va_wsS RL 145 yL_contest wsL_contest) := goodIn_app (goodIn_of _ (by decide +kernel)) ggL_law_L_contest
set_option maxRecDepth 20000 in
theorem ggL_law_X3_contest : GoodIn wsL_law wsX3_contest := goodIn_r _ [404, 372, 68, 405, 35, 25, 34, 36, 69, 70, 71, 5, 72, 73, 176, 177, 178, 479, 480, 481, 482, 483, 484, 485, 486, 487, 488, 489, 490, 491, 492, 493, 494, 495] (by decide +kernel) (by decide +kernel)
set_option maxRecDepth 20000 in
theorem gL_law_X3_contest : GoodIn wsL_law (wsV RL 147 RX3 yX3_contest wsX3_contest) := goodIn_app (goodIn_of _ (by decide +kernel)) ggL_law_X3_contest
set_option maxRecDepth 20000 in
theorem ggL_law_L_result : GoodIn wsL_law wsL_result := goodIn_ca (goodIn_ca (goodIn_ca (goodIn_r _ [408, 81, 82, 42, 409, 410, 411, 2, 412, 87, 88, 47, 48, 413, 414, 415, 416, 417, 93, 94, 16, 418, 419, 420, 128, 129, 130, 421, 393, 422, 423, 398, 216, 62, 63, 504, 505, 506, 474, 475, 476, 477, 478] (by decide +kernel) (by decide +kernel)) (goodIn_sub (fun _ h => List.mem_append_left _ (List.mem_append_right _ h)) (by decide +kernel))) (goodIn_sub (fun _ h => List.mem_append_left _ (List.mem_append_left _ (List.mem_append_right _ h))) (by decide +kernel))) (goodIn_sub (fun _ h => List.mem_append_right _ h) (by decide +kernel))
set_option maxRecDepth 20000 in
theorem gL_law_L_result : GoodIn wsL_law (va_wsS RL 148 yL_result wsL_result) := goodIn_app (goodIn_of _ (by decide +kernel)) ggL_law_L_result
set_option maxRecDepth 20000 in
theorem ggL_law_X3_result : GoodIn wsL_law wsX3_result := goodIn_r _ [427, 428, 37, 429, 430, 431, 5, 432, 405, 35, 103, 104, 105, 69, 70, 71, 72, 73, 433, 434, 435, 436, 36, 479, 480, 481, 482, 483, 484, 485, 486, 487, 488, 489, 490, 491, 492, 493, 494, 495] (by decide +kernel) (by decide +kernel)
set_option maxRecDepth 20000 in
theorem gL_law_X3_result : GoodIn wsL_law (wsV RL 150 RX3 yX3_result wsX3_result) := goodIn_app (goodIn_of _ (by decide +kernel)) ggL_law_X3_result
set_option maxRecDepth 20000 in
theorem ggL_law_L_of : GoodIn wsL_law wsL_of := goodIn_ca (goodIn_ca (goodIn_r _ [439, 81, 82, 440, 441, 442, 2, 443, 87, 88, 414, 415, 416, 417, 93, 94, 16, 418, 419, 420, 128, 129, 130, 421, 393, 422, 423, 398, 444, 445, 446, 399, 447, 448, 449, 450, 451, 474, 475, 476, 477, 478, 504, 505, 506] (by decide +kernel) (by decide +kernel)) (goodIn_sub (fun _ h => List.mem_append_left _ (List.mem_append_right _ h)) (by decide +kernel))) (goodIn_sub (fun _ h => List.mem_append_right _ h) (by decide +kernel))
set_option maxRecDepth 20000 in
theorem gL_law_L_of : GoodIn wsL_law (va_wsS RL 151 yL_of wsL_of) := goodIn_app (goodIn_of _ (by decide +kernel)) ggL_law_L_of
set_option maxRecDepth 20000 in
theorem ggL_law_X3_of : GoodIn wsL_law wsX3_of := goodIn_r _ [455, 36, 37, 429, 430, 431, 5, 432, 405, 35, 103, 104, 105, 69, 70, 71, 72, 73, 433, 434, 435, 436, 456, 457, 458, 459, 479, 480, 481, 482, 483, 484, 485, 486, 487, 488, 489, 490, 491, 492, 493, 494, 495] (by decide +kernel) (by decide +kernel)
set_option maxRecDepth 20000 in
theorem gL_law_X3_of : GoodIn wsL_law (wsV RL 153 RX3 yX3_of wsX3_of) := goodIn_app (goodIn_of _ (by decide +kernel)) ggL_law_X3_of
set_option maxRecDepth 20000 in
theorem ggL_law_L_ranked : GoodIn wsL_law wsL_ranked := goodIn_ca (goodIn_r _ [462, 81, 463, 464, 465, 2, 466, 93, 94, 414, 415, 416, 417, 16, 467, 393, 468, 469, 451, 421, 422, 423, 398, 129, 130, 447, 448, 449, 450, 399, 474, 475, 476, 477, 478, 504, 505, 506] (by decide +kernel) (by decide +kernel)) (goodIn_sub (fun _ h => List.mem_append_right _ h) (by decide +kernel))
set_option maxRecDepth 20000 in
theorem gL_law_L_ranked : GoodIn wsL_law (va_wsS RL 154 yL_ranked wsL_ranked) := goodIn_app (goodIn_of _ (by decide +kernel)) ggL_law_L_ranked
set_option maxRecDepth 20000 in
theorem ggL_law_X3_ranked : GoodIn wsL_law wsX3_ranked := goodIn_r _ [473, 405, 35, 37, 103, 104, 5, 105, 69, 70, 71, 72, 73, 456, 457, 458, 459, 433, 434, 435, 436, 36, 479, 480, 481, 482, 483, 484, 485, 486, 487, 488, 489, 490, 491, 492, 493, 494, 495] (by decide +kernel) (by decide +kernel)
set_option maxRecDepth 20000 in
theorem gL_law_X3_ranked : GoodIn wsL_law (wsV RL 156 RX3 yX3_ranked wsX3_ranked) := goodIn_app (goodIn_of _ (by decide +kernel)) ggL_law_X3_ranked
theorem dL_law_0 : decode cL_law 0 = .ok (.new 8, 3) := by decide +kernel
theorem dL_law_3 : decode cL_law 3 = .ok (.dup, 1) := by decide +kernel
theorem dL_law_4 : decode cL_law 4 = .ok (.invokespecial 80, 3) := by decide +kernel
theorem dL_law_7 : decode cL_law 7 = .ok (.astore_n 1, 1) := by decide +kernel
theorem dL_law_8 : decode cL_law 8 = .ok (.new 81, 3) := by decide +kernel
theorem dL_law_11 : decode cL_law 11 = .ok (.dup, 1) := by decide +kernel
theorem dL_law_12 : decode cL_law 12 = .ok (.invokespecial 83, 3) := by decide +kernel
theorem dL_law_15 : decode cL_law 15 = .ok (.astore_n 2, 1) := by decide +kernel
theorem dL_law_16 : decode cL_law 16 = .ok (.iconst 1, 1) := by decide +kernel
theorem dL_law_17 : decode cL_law 17 = .ok (.newarray .long, 2) := by decide +kernel
theorem dL_law_19 : decode cL_law 19 = .ok (.astore_n 3, 1) := by decide +kernel
theorem dL_law_20 : decode cL_law 20 = .ok (.iconst 0, 1) := by decide +kernel
theorem dL_law_21 : decode cL_law 21 = .ok (.istore 4, 2) := by decide +kernel
theorem dL_law_23 : decode cL_law 23 = .ok (.iload 4, 2) := by decide +kernel
theorem dL_law_25 : decode cL_law 25 = .ok (.aload_n 0, 1) := by decide +kernel
theorem dL_law_26 : decode cL_law 26 = .ok (.arraylength, 1) := by decide +kernel
theorem dL_law_27 : decode cL_law 27 = .ok (.iconst 4, 1) := by decide +kernel
theorem dL_law_28 : decode cL_law 28 = .ok (.isub, 1) := by decide +kernel
theorem dL_law_29 : decode cL_law 29 = .ok (.if_icmp .gt 1469, 3) := by decide +kernel
theorem dL_law_32 : decode cL_law 32 = .ok (.aload_n 0, 1) := by decide +kernel
theorem dL_law_33 : decode cL_law 33 = .ok (.iload 4, 2) := by decide +kernel
theorem dL_law_35 : decode cL_law 35 = .ok (.iaload, 1) := by decide +kernel
theorem dL_law_36 : decode cL_law 36 = .ok (.bipush 31, 2) := by decide +kernel
theorem dL_law_38 : decode cL_law 38 = .ok (.iand, 1) := by decide +kernel
theorem dL_law_39 : decode cL_law 39 = .ok (.tableswitch 1453 0 20 #[97, 141, 209, 289, 357, 425, 512, 592, 672, 728, 796, 852, 908, 976, 1056, 1112, 1168, 1181, 1225, 1305, 1385], 97) := by decide +kernel
theorem dL_law_136 : decode cL_law 136 = .ok (.aload_n 1, 1) := by decide +kernel
theorem dL_law_137 : decode cL_law 137 = .ok (.aload_n 3, 1) := by decide +kernel
theorem dL_law_138 : decode cL_law 138 = .ok (.invokestatic 84, 3) := by decide +kernel
theorem dL_law_141 : decode cL_law 141 = .ok (.istore 5, 2) := by decide +kernel
theorem dL_law_143 : decode cL_law 143 = .ok (.aload_n 2, 1) := by decide +kernel
theorem dL_law_144 : decode cL_law 144 = .ok (.invokevirtual 89, 3) := by decide +kernel
theorem dL_law_147 : decode cL_law 147 = .ok (.istore 6, 2) := by decide +kernel
theorem dL_law_149 : decode cL_law 149 = .ok (.aload_n 2, 1) := by decide +kernel
theorem dL_law_150 : decode cL_law 150 = .ok (.invokevirtual 90, 3) := by decide +kernel
theorem dL_law_153 : decode cL_law 153 = .ok (.iload 5, 2) := by decide +kernel
theorem dL_law_155 : decode cL_law 155 = .ok (.if_icmp .eq 5, 3) := by decide +kernel
theorem dL_law_158 : decode cL_law 158 = .ok (.iconst 0, 1) := by decide +kernel
theorem dL_law_159 : decode cL_law 159 = .ok (.ireturn, 1) := by decide +kernel
theorem dL_law_160 : decode cL_law 160 = .ok (.iload 5, 2) := by decide +kernel
theorem dL_law_162 : decode cL_law 162 = .ok (.ifCond .ne 15, 3) := by decide +kernel
theorem dL_law_165 : decode cL_law 165 = .ok (.aload_n 3, 1) := by decide +kernel
theorem dL_law_166 : decode cL_law 166 = .ok (.iconst 0, 1) := by decide +kernel
theorem dL_law_167 : decode cL_law 167 = .ok (.laload, 1) := by decide +kernel
theorem dL_law_168 : decode cL_law 168 = .ok (.iload 6, 2) := by decide +kernel
theorem dL_law_170 : decode cL_law 170 = .ok (.i2l, 1) := by decide +kernel
theorem dL_law_171 : decode cL_law 171 = .ok (.lcmp, 1) := by decide +kernel
theorem dL_law_172 : decode cL_law 172 = .ok (.ifCond .eq 5, 3) := by decide +kernel
theorem dL_law_175 : decode cL_law 175 = .ok (.iconst 0, 1) := by decide +kernel
theorem dL_law_176 : decode cL_law 176 = .ok (.ireturn, 1) := by decide +kernel
theorem dL_law_177 : decode cL_law 177 = .ok (.goto 1315, 3) := by decide +kernel
theorem dL_law_180 : decode cL_law 180 = .ok (.aload_n 1, 1) := by decide +kernel
theorem dL_law_181 : decode cL_law 181 = .ok (.aload_n 0, 1) := by decide +kernel
theorem dL_law_182 : decode cL_law 182 = .ok (.iload 4, 2) := by decide +kernel
theorem dL_law_184 : decode cL_law 184 = .ok (.iconst 1, 1) := by decide +kernel
theorem dL_law_185 : decode cL_law 185 = .ok (.iadd, 1) := by decide +kernel
theorem dL_law_186 : decode cL_law 186 = .ok (.iaload, 1) := by decide +kernel
theorem dL_law_187 : decode cL_law 187 = .ok (.aload_n 0, 1) := by decide +kernel
theorem dL_law_188 : decode cL_law 188 = .ok (.iload 4, 2) := by decide +kernel
theorem dL_law_190 : decode cL_law 190 = .ok (.iconst 2, 1) := by decide +kernel
theorem dL_law_191 : decode cL_law 191 = .ok (.iadd, 1) := by decide +kernel
theorem dL_law_192 : decode cL_law 192 = .ok (.iaload, 1) := by decide +kernel
theorem dL_law_193 : decode cL_law 193 = .ok (.aload_n 3, 1) := by decide +kernel
theorem dL_law_194 : decode cL_law 194 = .ok (.invokestatic 93, 3) := by decide +kernel
theorem dL_law_197 : decode cL_law 197 = .ok (.istore 5, 2) := by decide +kernel
theorem dL_law_199 : decode cL_law 199 = .ok (.aload_n 2, 1) := by decide +kernel
theorem dL_law_200 : decode cL_law 200 = .ok (.aload_n 0, 1) := by decide +kernel
theorem dL_law_201 : decode cL_law 201 = .ok (.iload 4, 2) := by decide +kernel
theorem dL_law_203 : decode cL_law 203 = .ok (.iconst 1, 1) := by decide +kernel
theorem dL_law_204 : decode cL_law 204 = .ok (.iadd, 1) := by decide +kernel
theorem dL_law_205 : decode cL_law 205 = .ok (.iaload, 1) := by decide +kernel
theorem dL_law_206 : decode cL_law 206 = .ok (.aload_n 0, 1) := by decide +kernel
theorem dL_law_207 : decode cL_law 207 = .ok (.iload 4, 2) := by decide +kernel
theorem dL_law_209 : decode cL_law 209 = .ok (.iconst 2, 1) := by decide +kernel
theorem dL_law_210 : decode cL_law 210 = .ok (.iadd, 1) := by decide +kernel
theorem dL_law_211 : decode cL_law 211 = .ok (.iaload, 1) := by decide +kernel
theorem dL_law_212 : decode cL_law 212 = .ok (.invokevirtual 96, 3) := by decide +kernel
theorem dL_law_215 : decode cL_law 215 = .ok (.istore 6, 2) := by decide +kernel
theorem dL_law_217 : decode cL_law 217 = .ok (.aload_n 2, 1) := by decide +kernel
theorem dL_law_218 : decode cL_law 218 = .ok (.invokevirtual 90, 3) := by decide +kernel
theorem dL_law_221 : decode cL_law 221 = .ok (.iload 5, 2) := by decide +kernel
theorem dL_law_223 : decode cL_law 223 = .ok (.if_icmp .eq 5, 3) := by decide +kernel
theorem dL_law_226 : decode cL_law 226 = .ok (.iconst 0, 1) := by decide +kernel
theorem dL_law_227 : decode cL_law 227 = .ok (.ireturn, 1) := by decide +kernel
theorem dL_law_228 : decode cL_law 228 = .ok (.iload 5, 2) := by decide +kernel
theorem dL_law_230 : decode cL_law 230 = .ok (.ifCond .ne 15, 3) := by decide +kernel
theorem dL_law_233 : decode cL_law 233 = .ok (.aload_n 3, 1) := by decide +kernel
theorem dL_law_234 : decode cL_law 234 = .ok (.iconst 0, 1) := by decide +kernel
theorem dL_law_235 : decode cL_law 235 = .ok (.laload, 1) := by decide +kernel
theorem dL_law_236 : decode cL_law 236 = .ok (.iload 6, 2) := by decide +kernel
theorem dL_law_238 : decode cL_law 238 = .ok (.i2l, 1) := by decide +kernel
theorem dL_law_239 : decode cL_law 239 = .ok (.lcmp, 1) := by decide +kernel
theorem dL_law_240 : decode cL_law 240 = .ok (.ifCond .eq 5, 3) := by decide +kernel
theorem dL_law_243 : decode cL_law 243 = .ok (.iconst 0, 1) := by decide +kernel
theorem dL_law_244 : decode cL_law 244 = .ok (.ireturn, 1) := by decide +kernel
theorem dL_law_245 : decode cL_law 245 = .ok (.goto 1247, 3) := by decide +kernel
theorem dL_law_248 : decode cL_law 248 = .ok (.aload_n 1, 1) := by decide +kernel
theorem dL_law_249 : decode cL_law 249 = .ok (.aload_n 0, 1) := by decide +kernel
theorem dL_law_250 : decode cL_law 250 = .ok (.iload 4, 2) := by decide +kernel
theorem dL_law_252 : decode cL_law 252 = .ok (.iconst 1, 1) := by decide +kernel
theorem dL_law_253 : decode cL_law 253 = .ok (.iadd, 1) := by decide +kernel
theorem dL_law_254 : decode cL_law 254 = .ok (.iaload, 1) := by decide +kernel
theorem dL_law_255 : decode cL_law 255 = .ok (.aload_n 0, 1) := by decide +kernel
theorem dL_law_256 : decode cL_law 256 = .ok (.iload 4, 2) := by decide +kernel
theorem dL_law_258 : decode cL_law 258 = .ok (.iconst 2, 1) := by decide +kernel
theorem dL_law_259 : decode cL_law 259 = .ok (.iadd, 1) := by decide +kernel
theorem dL_law_260 : decode cL_law 260 = .ok (.iaload, 1) := by decide +kernel
theorem dL_law_261 : decode cL_law 261 = .ok (.aload_n 0, 1) := by decide +kernel
theorem dL_law_262 : decode cL_law 262 = .ok (.iload 4, 2) := by decide +kernel
theorem dL_law_264 : decode cL_law 264 = .ok (.iconst 3, 1) := by decide +kernel
theorem dL_law_265 : decode cL_law 265 = .ok (.iadd, 1) := by decide +kernel
theorem dL_law_266 : decode cL_law 266 = .ok (.iaload, 1) := by decide +kernel
theorem dL_law_267 : decode cL_law 267 = .ok (.aload_n 3, 1) := by decide +kernel
theorem dL_law_268 : decode cL_law 268 = .ok (.invokestatic 97, 3) := by decide +kernel
theorem dL_law_271 : decode cL_law 271 = .ok (.istore 5, 2) := by decide +kernel
theorem dL_law_273 : decode cL_law 273 = .ok (.aload_n 2, 1) := by decide +kernel
theorem dL_law_274 : decode cL_law 274 = .ok (.aload_n 0, 1) := by decide +kernel
theorem dL_law_275 : decode cL_law 275 = .ok (.iload 4, 2) := by decide +kernel
theorem dL_law_277 : decode cL_law 277 = .ok (.iconst 1, 1) := by decide +kernel
theorem dL_law_278 : decode cL_law 278 = .ok (.iadd, 1) := by decide +kernel
theorem dL_law_279 : decode cL_law 279 = .ok (.iaload, 1) := by decide +kernel
theorem dL_law_280 : decode cL_law 280 = .ok (.aload_n 0, 1) := by decide +kernel
theorem dL_law_281 : decode cL_law 281 = .ok (.iload 4, 2) := by decide +kernel
theorem dL_law_283 : decode cL_law 283 = .ok (.iconst 2, 1) := by decide +kernel
theorem dL_law_284 : decode cL_law 284 = .ok (.iadd, 1) := by decide +kernel
theorem dL_law_285 : decode cL_law 285 = .ok (.iaload, 1) := by decide +kernel
theorem dL_law_286 : decode cL_law 286 = .ok (.aload_n 0, 1) := by decide +kernel
theorem dL_law_287 : decode cL_law 287 = .ok (.iload 4, 2) := by decide +kernel
theorem dL_law_289 : decode cL_law 289 = .ok (.iconst 3, 1) := by decide +kernel
theorem dL_law_290 : decode cL_law 290 = .ok (.iadd, 1) := by decide +kernel
theorem dL_law_291 : decode cL_law 291 = .ok (.iaload, 1) := by decide +kernel
theorem dL_law_292 : decode cL_law 292 = .ok (.invokevirtual 100, 3) := by decide +kernel
theorem dL_law_295 : decode cL_law 295 = .ok (.istore 6, 2) := by decide +kernel
theorem dL_law_297 : decode cL_law 297 = .ok (.aload_n 2, 1) := by decide +kernel
theorem dL_law_298 : decode cL_law 298 = .ok (.invokevirtual 90, 3) := by decide +kernel
theorem dL_law_301 : decode cL_law 301 = .ok (.iload 5, 2) := by decide +kernel
theorem dL_law_303 : decode cL_law 303 = .ok (.if_icmp .eq 5, 3) := by decide +kernel
theorem dL_law_306 : decode cL_law 306 = .ok (.iconst 0, 1) := by decide +kernel
theorem dL_law_307 : decode cL_law 307 = .ok (.ireturn, 1) := by decide +kernel
theorem dL_law_308 : decode cL_law 308 = .ok (.iload 5, 2) := by decide +kernel
theorem dL_law_310 : decode cL_law 310 = .ok (.ifCond .ne 15, 3) := by decide +kernel
theorem dL_law_313 : decode cL_law 313 = .ok (.aload_n 3, 1) := by decide +kernel
theorem dL_law_314 : decode cL_law 314 = .ok (.iconst 0, 1) := by decide +kernel
theorem dL_law_315 : decode cL_law 315 = .ok (.laload, 1) := by decide +kernel
theorem dL_law_316 : decode cL_law 316 = .ok (.iload 6, 2) := by decide +kernel
theorem dL_law_318 : decode cL_law 318 = .ok (.i2l, 1) := by decide +kernel
theorem dL_law_319 : decode cL_law 319 = .ok (.lcmp, 1) := by decide +kernel
theorem dL_law_320 : decode cL_law 320 = .ok (.ifCond .eq 5, 3) := by decide +kernel
theorem dL_law_323 : decode cL_law 323 = .ok (.iconst 0, 1) := by decide +kernel
theorem dL_law_324 : decode cL_law 324 = .ok (.ireturn, 1) := by decide +kernel
theorem dL_law_325 : decode cL_law 325 = .ok (.goto 1167, 3) := by decide +kernel
theorem dL_law_328 : decode cL_law 328 = .ok (.aload_n 1, 1) := by decide +kernel
theorem dL_law_329 : decode cL_law 329 = .ok (.aload_n 0, 1) := by decide +kernel
theorem dL_law_330 : decode cL_law 330 = .ok (.iload 4, 2) := by decide +kernel
theorem dL_law_332 : decode cL_law 332 = .ok (.iconst 1, 1) := by decide +kernel
theorem dL_law_333 : decode cL_law 333 = .ok (.iadd, 1) := by decide +kernel
theorem dL_law_334 : decode cL_law 334 = .ok (.iaload, 1) := by decide +kernel
theorem dL_law_335 : decode cL_law 335 = .ok (.aload_n 0, 1) := by decide +kernel
theorem dL_law_336 : decode cL_law 336 = .ok (.iload 4, 2) := by decide +kernel
theorem dL_law_338 : decode cL_law 338 = .ok (.iconst 2, 1) := by decide +kernel
theorem dL_law_339 : decode cL_law 339 = .ok (.iadd, 1) := by decide +kernel
theorem dL_law_340 : decode cL_law 340 = .ok (.iaload, 1) := by decide +kernel
theorem dL_law_341 : decode cL_law 341 = .ok (.aload_n 3, 1) := by decide +kernel
theorem dL_law_342 : decode cL_law 342 = .ok (.invokestatic 101, 3) := by decide +kernel
theorem dL_law_345 : decode cL_law 345 = .ok (.istore 5, 2) := by decide +kernel
theorem dL_law_347 : decode cL_law 347 = .ok (.aload_n 2, 1) := by decide +kernel
theorem dL_law_348 : decode cL_law 348 = .ok (.aload_n 0, 1) := by decide +kernel
theorem dL_law_349 : decode cL_law 349 = .ok (.iload 4, 2) := by decide +kernel
theorem dL_law_351 : decode cL_law 351 = .ok (.iconst 1, 1) := by decide +kernel
theorem dL_law_352 : decode cL_law 352 = .ok (.iadd, 1) := by decide +kernel
theorem dL_law_353 : decode cL_law 353 = .ok (.iaload, 1) := by decide +kernel
theorem dL_law_354 : decode cL_law 354 = .ok (.aload_n 0, 1) := by decide +kernel
theorem dL_law_355 : decode cL_law 355 = .ok (.iload 4, 2) := by decide +kernel
theorem dL_law_357 : decode cL_law 357 = .ok (.iconst 2, 1) := by decide +kernel
theorem dL_law_358 : decode cL_law 358 = .ok (.iadd, 1) := by decide +kernel
theorem dL_law_359 : decode cL_law 359 = .ok (.iaload, 1) := by decide +kernel
theorem dL_law_360 : decode cL_law 360 = .ok (.invokevirtual 103, 3) := by decide +kernel
theorem dL_law_363 : decode cL_law 363 = .ok (.istore 6, 2) := by decide +kernel
theorem dL_law_365 : decode cL_law 365 = .ok (.aload_n 2, 1) := by decide +kernel
theorem dL_law_366 : decode cL_law 366 = .ok (.invokevirtual 90, 3) := by decide +kernel
theorem dL_law_369 : decode cL_law 369 = .ok (.iload 5, 2) := by decide +kernel
theorem dL_law_371 : decode cL_law 371 = .ok (.if_icmp .eq 5, 3) := by decide +kernel
theorem dL_law_374 : decode cL_law 374 = .ok (.iconst 0, 1) := by decide +kernel
theorem dL_law_375 : decode cL_law 375 = .ok (.ireturn, 1) := by decide +kernel
theorem dL_law_376 : decode cL_law 376 = .ok (.iload 5, 2) := by decide +kernel
theorem dL_law_378 : decode cL_law 378 = .ok (.ifCond .ne 15, 3) := by decide +kernel
theorem dL_law_381 : decode cL_law 381 = .ok (.aload_n 3, 1) := by decide +kernel
theorem dL_law_382 : decode cL_law 382 = .ok (.iconst 0, 1) := by decide +kernel
theorem dL_law_383 : decode cL_law 383 = .ok (.laload, 1) := by decide +kernel
theorem dL_law_384 : decode cL_law 384 = .ok (.iload 6, 2) := by decide +kernel
theorem dL_law_386 : decode cL_law 386 = .ok (.i2l, 1) := by decide +kernel
theorem dL_law_387 : decode cL_law 387 = .ok (.lcmp, 1) := by decide +kernel
theorem dL_law_388 : decode cL_law 388 = .ok (.ifCond .eq 5, 3) := by decide +kernel
theorem dL_law_391 : decode cL_law 391 = .ok (.iconst 0, 1) := by decide +kernel
theorem dL_law_392 : decode cL_law 392 = .ok (.ireturn, 1) := by decide +kernel
theorem dL_law_393 : decode cL_law 393 = .ok (.goto 1099, 3) := by decide +kernel
theorem dL_law_396 : decode cL_law 396 = .ok (.aload_n 1, 1) := by decide +kernel
theorem dL_law_397 : decode cL_law 397 = .ok (.aload_n 0, 1) := by decide +kernel
theorem dL_law_398 : decode cL_law 398 = .ok (.iload 4, 2) := by decide +kernel
theorem dL_law_400 : decode cL_law 400 = .ok (.iconst 1, 1) := by decide +kernel
theorem dL_law_401 : decode cL_law 401 = .ok (.iadd, 1) := by decide +kernel
theorem dL_law_402 : decode cL_law 402 = .ok (.iaload, 1) := by decide +kernel
theorem dL_law_403 : decode cL_law 403 = .ok (.aload_n 0, 1) := by decide +kernel
theorem dL_law_404 : decode cL_law 404 = .ok (.iload 4, 2) := by decide +kernel
theorem dL_law_406 : decode cL_law 406 = .ok (.iconst 2, 1) := by decide +kernel
theorem dL_law_407 : decode cL_law 407 = .ok (.iadd, 1) := by decide +kernel
theorem dL_law_408 : decode cL_law 408 = .ok (.iaload, 1) := by decide +kernel
theorem dL_law_409 : decode cL_law 409 = .ok (.aload_n 3, 1) := by decide +kernel
theorem dL_law_410 : decode cL_law 410 = .ok (.invokestatic 104, 3) := by decide +kernel
theorem dL_law_413 : decode cL_law 413 = .ok (.istore 5, 2) := by decide +kernel
theorem dL_law_415 : decode cL_law 415 = .ok (.aload_n 2, 1) := by decide +kernel
theorem dL_law_416 : decode cL_law 416 = .ok (.aload_n 0, 1) := by decide +kernel
theorem dL_law_417 : decode cL_law 417 = .ok (.iload 4, 2) := by decide +kernel
theorem dL_law_419 : decode cL_law 419 = .ok (.iconst 1, 1) := by decide +kernel
theorem dL_law_420 : decode cL_law 420 = .ok (.iadd, 1) := by decide +kernel
theorem dL_law_421 : decode cL_law 421 = .ok (.iaload, 1) := by decide +kernel
theorem dL_law_422 : decode cL_law 422 = .ok (.aload_n 0, 1) := by decide +kernel
theorem dL_law_423 : decode cL_law 423 = .ok (.iload 4, 2) := by decide +kernel
theorem dL_law_425 : decode cL_law 425 = .ok (.iconst 2, 1) := by decide +kernel
theorem dL_law_426 : decode cL_law 426 = .ok (.iadd, 1) := by decide +kernel
theorem dL_law_427 : decode cL_law 427 = .ok (.iaload, 1) := by decide +kernel
theorem dL_law_428 : decode cL_law 428 = .ok (.invokevirtual 106, 3) := by decide +kernel
theorem dL_law_431 : decode cL_law 431 = .ok (.istore 6, 2) := by decide +kernel
theorem dL_law_433 : decode cL_law 433 = .ok (.aload_n 2, 1) := by decide +kernel
theorem dL_law_434 : decode cL_law 434 = .ok (.invokevirtual 90, 3) := by decide +kernel
theorem dL_law_437 : decode cL_law 437 = .ok (.iload 5, 2) := by decide +kernel
theorem dL_law_439 : decode cL_law 439 = .ok (.if_icmp .eq 5, 3) := by decide +kernel
theorem dL_law_442 : decode cL_law 442 = .ok (.iconst 0, 1) := by decide +kernel
theorem dL_law_443 : decode cL_law 443 = .ok (.ireturn, 1) := by decide +kernel
theorem dL_law_444 : decode cL_law 444 = .ok (.iload 5, 2) := by decide +kernel
theorem dL_law_446 : decode cL_law 446 = .ok (.ifCond .ne 15, 3) := by decide +kernel
theorem dL_law_449 : decode cL_law 449 = .ok (.aload_n 3, 1) := by decide +kernel
theorem dL_law_450 : decode cL_law 450 = .ok (.iconst 0, 1) := by decide +kernel
theorem dL_law_451 : decode cL_law 451 = .ok (.laload, 1) := by decide +kernel
theorem dL_law_452 : decode cL_law 452 = .ok (.iload 6, 2) := by decide +kernel
theorem dL_law_454 : decode cL_law 454 = .ok (.i2l, 1) := by decide +kernel
theorem dL_law_455 : decode cL_law 455 = .ok (.lcmp, 1) := by decide +kernel
theorem dL_law_456 : decode cL_law 456 = .ok (.ifCond .eq 5, 3) := by decide +kernel
theorem dL_law_459 : decode cL_law 459 = .ok (.iconst 0, 1) := by decide +kernel
theorem dL_law_460 : decode cL_law 460 = .ok (.ireturn, 1) := by decide +kernel
theorem dL_law_461 : decode cL_law 461 = .ok (.goto 1031, 3) := by decide +kernel
theorem dL_law_464 : decode cL_law 464 = .ok (.aload_n 1, 1) := by decide +kernel
theorem dL_law_465 : decode cL_law 465 = .ok (.aload_n 0, 1) := by decide +kernel
theorem dL_law_466 : decode cL_law 466 = .ok (.iload 4, 2) := by decide +kernel
theorem dL_law_468 : decode cL_law 468 = .ok (.iconst 1, 1) := by decide +kernel
theorem dL_law_469 : decode cL_law 469 = .ok (.iadd, 1) := by decide +kernel
theorem dL_law_470 : decode cL_law 470 = .ok (.iaload, 1) := by decide +kernel
theorem dL_law_471 : decode cL_law 471 = .ok (.aload_n 0, 1) := by decide +kernel
theorem dL_law_472 : decode cL_law 472 = .ok (.iload 4, 2) := by decide +kernel
theorem dL_law_474 : decode cL_law 474 = .ok (.iconst 2, 1) := by decide +kernel
theorem dL_law_475 : decode cL_law 475 = .ok (.iadd, 1) := by decide +kernel
theorem dL_law_476 : decode cL_law 476 = .ok (.iaload, 1) := by decide +kernel
theorem dL_law_477 : decode cL_law 477 = .ok (.aload_n 0, 1) := by decide +kernel
theorem dL_law_478 : decode cL_law 478 = .ok (.iload 4, 2) := by decide +kernel
theorem dL_law_480 : decode cL_law 480 = .ok (.iconst 3, 1) := by decide +kernel
end
section
theorem dL_law_481 : decode cL_law 481 = .ok (.iadd, 1) := by decide +kernel
theorem dL_law_482 : decode cL_law 482 = .ok (.iaload, 1) := by decide +kernel
theorem dL_law_483 : decode cL_law 483 = .ok (.aload_n 3, 1) := by decide +kernel
theorem dL_law_484 : decode cL_law 484 = .ok (.invokestatic 107, 3) := by decide +kernel
theorem dL_law_487 : decode cL_law 487 = .ok (.istore 5, 2) := by decide +kernel
theorem dL_law_489 : decode cL_law 489 = .ok (.aload_n 2, 1) := by decide +kernel
theorem dL_law_490 : decode cL_law 490 = .ok (.aload_n 0, 1) := by decide +kernel
theorem dL_law_491 : decode cL_law 491 = .ok (.iload 4, 2) := by decide +kernel
theorem dL_law_493 : decode cL_law 493 = .ok (.iconst 1, 1) := by decide +kernel
theorem dL_law_494 : decode cL_law 494 = .ok (.iadd, 1) := by decide +kernel
theorem dL_law_495 : decode cL_law 495 = .ok (.iaload, 1) := by decide +kernel
theorem dL_law_496 : decode cL_law 496 = .ok (.aload_n 0, 1) := by decide +kernel
theorem dL_law_497 : decode cL_law 497 = .ok (.iload 4, 2) := by decide +kernel
theorem dL_law_499 : decode cL_law 499 = .ok (.iconst 2, 1) := by decide +kernel
theorem dL_law_500 : decode cL_law 500 = .ok (.iadd, 1) := by decide +kernel
theorem dL_law_501 : decode cL_law 501 = .ok (.iaload, 1) := by decide +kernel
theorem dL_law_502 : decode cL_law 502 = .ok (.aload_n 0, 1) := by decide +kernel
theorem dL_law_503 : decode cL_law 503 = .ok (.iload 4, 2) := by decide +kernel
theorem dL_law_505 : decode cL_law 505 = .ok (.iconst 3, 1) := by decide +kernel
theorem dL_law_506 : decode cL_law 506 = .ok (.iadd, 1) := by decide +kernel
theorem dL_law_507 : decode cL_law 507 = .ok (.iaload, 1) := by decide +kernel
theorem dL_law_508 : decode cL_law 508 = .ok (.invokevirtual 109, 3) := by decide +kernel
theorem dL_law_511 : decode cL_law 511 = .ok (.istore 6, 2) := by decide +kernel
theorem dL_law_513 : decode cL_law 513 = .ok (.aload_n 2, 1) := by decide +kernel
theorem dL_law_514 : decode cL_law 514 = .ok (.invokevirtual 90, 3) := by decide +kernel
theorem dL_law_517 : decode cL_law 517 = .ok (.iload 5, 2) := by decide +kernel
theorem dL_law_519 : decode cL_law 519 = .ok (.if_icmp .eq 5, 3) := by decide +kernel
theorem dL_law_522 : decode cL_law 522 = .ok (.iconst 0, 1) := by decide +kernel
theorem dL_law_523 : decode cL_law 523 = .ok (.ireturn, 1) := by decide +kernel
theorem dL_law_524 : decode cL_law 524 = .ok (.iload 5, 2) := by decide +kernel
theorem dL_law_526 : decode cL_law 526 = .ok (.ifCond .ne 22, 3) := by decide +kernel
theorem dL_law_529 : decode cL_law 529 = .ok (.aload_n 3, 1) := by decide +kernel
theorem dL_law_530 : decode cL_law 530 = .ok (.iconst 0, 1) := by decide +kernel
theorem dL_law_531 : decode cL_law 531 = .ok (.laload, 1) := by decide +kernel
theorem dL_law_532 : decode cL_law 532 = .ok (.iload 6, 2) := by decide +kernel
theorem dL_law_534 : decode cL_law 534 = .ok (.ifCond .eq 7, 3) := by decide +kernel
theorem dL_law_537 : decode cL_law 537 = .ok (.lconst 1, 1) := by decide +kernel
theorem dL_law_538 : decode cL_law 538 = .ok (.goto 4, 3) := by decide +kernel
theorem dL_law_541 : decode cL_law 541 = .ok (.lconst 0, 1) := by decide +kernel
theorem dL_law_542 : decode cL_law 542 = .ok (.lcmp, 1) := by decide +kernel
theorem dL_law_543 : decode cL_law 543 = .ok (.ifCond .eq 5, 3) := by decide +kernel
theorem dL_law_546 : decode cL_law 546 = .ok (.iconst 0, 1) := by decide +kernel
theorem dL_law_547 : decode cL_law 547 = .ok (.ireturn, 1) := by decide +kernel
theorem dL_law_548 : decode cL_law 548 = .ok (.goto 944, 3) := by decide +kernel
theorem dL_law_551 : decode cL_law 551 = .ok (.aload_n 1, 1) := by decide +kernel
theorem dL_law_552 : decode cL_law 552 = .ok (.aload_n 0, 1) := by decide +kernel
theorem dL_law_553 : decode cL_law 553 = .ok (.iload 4, 2) := by decide +kernel
theorem dL_law_555 : decode cL_law 555 = .ok (.iconst 1, 1) := by decide +kernel
theorem dL_law_556 : decode cL_law 556 = .ok (.iadd, 1) := by decide +kernel
theorem dL_law_557 : decode cL_law 557 = .ok (.iaload, 1) := by decide +kernel
theorem dL_law_558 : decode cL_law 558 = .ok (.aload_n 0, 1) := by decide +kernel
theorem dL_law_559 : decode cL_law 559 = .ok (.iload 4, 2) := by decide +kernel
theorem dL_law_561 : decode cL_law 561 = .ok (.iconst 2, 1) := by decide +kernel
theorem dL_law_562 : decode cL_law 562 = .ok (.iadd, 1) := by decide +kernel
theorem dL_law_563 : decode cL_law 563 = .ok (.iaload, 1) := by decide +kernel
theorem dL_law_564 : decode cL_law 564 = .ok (.aload_n 0, 1) := by decide +kernel
theorem dL_law_565 : decode cL_law 565 = .ok (.iload 4, 2) := by decide +kernel
theorem dL_law_567 : decode cL_law 567 = .ok (.iconst 3, 1) := by decide +kernel
theorem dL_law_568 : decode cL_law 568 = .ok (.iadd, 1) := by decide +kernel
theorem dL_law_569 : decode cL_law 569 = .ok (.iaload, 1) := by decide +kernel
theorem dL_law_570 : decode cL_law 570 = .ok (.aload_n 3, 1) := by decide +kernel
theorem dL_law_571 : decode cL_law 571 = .ok (.invokestatic 110, 3) := by decide +kernel
theorem dL_law_574 : decode cL_law 574 = .ok (.istore 5, 2) := by decide +kernel
theorem dL_law_576 : decode cL_law 576 = .ok (.aload_n 2, 1) := by decide +kernel
theorem dL_law_577 : decode cL_law 577 = .ok (.aload_n 0, 1) := by decide +kernel
theorem dL_law_578 : decode cL_law 578 = .ok (.iload 4, 2) := by decide +kernel
theorem dL_law_580 : decode cL_law 580 = .ok (.iconst 1, 1) := by decide +kernel
theorem dL_law_581 : decode cL_law 581 = .ok (.iadd, 1) := by decide +kernel
theorem dL_law_582 : decode cL_law 582 = .ok (.iaload, 1) := by decide +kernel
theorem dL_law_583 : decode cL_law 583 = .ok (.aload_n 0, 1) := by decide +kernel
theorem dL_law_584 : decode cL_law 584 = .ok (.iload 4, 2) := by decide +kernel
theorem dL_law_586 : decode cL_law 586 = .ok (.iconst 2, 1) := by decide +kernel
theorem dL_law_587 : decode cL_law 587 = .ok (.iadd, 1) := by decide +kernel
theorem dL_law_588 : decode cL_law 588 = .ok (.iaload, 1) := by decide +kernel
theorem dL_law_589 : decode cL_law 589 = .ok (.aload_n 0, 1) := by decide +kernel
theorem dL_law_590 : decode cL_law 590 = .ok (.iload 4, 2) := by decide +kernel
theorem dL_law_592 : decode cL_law 592 = .ok (.iconst 3, 1) := by decide +kernel
theorem dL_law_593 : decode cL_law 593 = .ok (.iadd, 1) := by decide +kernel
theorem dL_law_594 : decode cL_law 594 = .ok (.iaload, 1) := by decide +kernel
theorem dL_law_595 : decode cL_law 595 = .ok (.invokevirtual 112, 3) := by decide +kernel
theorem dL_law_598 : decode cL_law 598 = .ok (.istore 6, 2) := by decide +kernel
theorem dL_law_600 : decode cL_law 600 = .ok (.aload_n 2, 1) := by decide +kernel
theorem dL_law_601 : decode cL_law 601 = .ok (.invokevirtual 90, 3) := by decide +kernel
theorem dL_law_604 : decode cL_law 604 = .ok (.iload 5, 2) := by decide +kernel
theorem dL_law_606 : decode cL_law 606 = .ok (.if_icmp .eq 5, 3) := by decide +kernel
theorem dL_law_609 : decode cL_law 609 = .ok (.iconst 0, 1) := by decide +kernel
theorem dL_law_610 : decode cL_law 610 = .ok (.ireturn, 1) := by decide +kernel
theorem dL_law_611 : decode cL_law 611 = .ok (.iload 5, 2) := by decide +kernel
theorem dL_law_613 : decode cL_law 613 = .ok (.ifCond .ne 15, 3) := by decide +kernel
theorem dL_law_616 : decode cL_law 616 = .ok (.aload_n 3, 1) := by decide +kernel
theorem dL_law_617 : decode cL_law 617 = .ok (.iconst 0, 1) := by decide +kernel
theorem dL_law_618 : decode cL_law 618 = .ok (.laload, 1) := by decide +kernel
theorem dL_law_619 : decode cL_law 619 = .ok (.iload 6, 2) := by decide +kernel
theorem dL_law_621 : decode cL_law 621 = .ok (.i2l, 1) := by decide +kernel
theorem dL_law_622 : decode cL_law 622 = .ok (.lcmp, 1) := by decide +kernel
theorem dL_law_623 : decode cL_law 623 = .ok (.ifCond .eq 5, 3) := by decide +kernel
theorem dL_law_626 : decode cL_law 626 = .ok (.iconst 0, 1) := by decide +kernel
theorem dL_law_627 : decode cL_law 627 = .ok (.ireturn, 1) := by decide +kernel
theorem dL_law_628 : decode cL_law 628 = .ok (.goto 864, 3) := by decide +kernel
theorem dL_law_631 : decode cL_law 631 = .ok (.aload_n 1, 1) := by decide +kernel
theorem dL_law_632 : decode cL_law 632 = .ok (.aload_n 0, 1) := by decide +kernel
theorem dL_law_633 : decode cL_law 633 = .ok (.iload 4, 2) := by decide +kernel
theorem dL_law_635 : decode cL_law 635 = .ok (.iconst 1, 1) := by decide +kernel
theorem dL_law_636 : decode cL_law 636 = .ok (.iadd, 1) := by decide +kernel
theorem dL_law_637 : decode cL_law 637 = .ok (.iaload, 1) := by decide +kernel
theorem dL_law_638 : decode cL_law 638 = .ok (.aload_n 0, 1) := by decide +kernel
theorem dL_law_639 : decode cL_law 639 = .ok (.iload 4, 2) := by decide +kernel
theorem dL_law_641 : decode cL_law 641 = .ok (.iconst 2, 1) := by decide +kernel
theorem dL_law_642 : decode cL_law 642 = .ok (.iadd, 1) := by decide +kernel
theorem dL_law_643 : decode cL_law 643 = .ok (.iaload, 1) := by decide +kernel
theorem dL_law_644 : decode cL_law 644 = .ok (.aload_n 0, 1) := by decide +kernel
theorem dL_law_645 : decode cL_law 645 = .ok (.iload 4, 2) := by decide +kernel
theorem dL_law_647 : decode cL_law 647 = .ok (.iconst 3, 1) := by decide +kernel
theorem dL_law_648 : decode cL_law 648 = .ok (.iadd, 1) := by decide +kernel
theorem dL_law_649 : decode cL_law 649 = .ok (.iaload, 1) := by decide +kernel
theorem dL_law_650 : decode cL_law 650 = .ok (.aload_n 3, 1) := by decide +kernel
theorem dL_law_651 : decode cL_law 651 = .ok (.invokestatic 113, 3) := by decide +kernel
theorem dL_law_654 : decode cL_law 654 = .ok (.istore 5, 2) := by decide +kernel
theorem dL_law_656 : decode cL_law 656 = .ok (.aload_n 2, 1) := by decide +kernel
theorem dL_law_657 : decode cL_law 657 = .ok (.aload_n 0, 1) := by decide +kernel
theorem dL_law_658 : decode cL_law 658 = .ok (.iload 4, 2) := by decide +kernel
theorem dL_law_660 : decode cL_law 660 = .ok (.iconst 1, 1) := by decide +kernel
theorem dL_law_661 : decode cL_law 661 = .ok (.iadd, 1) := by decide +kernel
theorem dL_law_662 : decode cL_law 662 = .ok (.iaload, 1) := by decide +kernel
theorem dL_law_663 : decode cL_law 663 = .ok (.aload_n 0, 1) := by decide +kernel
theorem dL_law_664 : decode cL_law 664 = .ok (.iload 4, 2) := by decide +kernel
theorem dL_law_666 : decode cL_law 666 = .ok (.iconst 2, 1) := by decide +kernel
theorem dL_law_667 : decode cL_law 667 = .ok (.iadd, 1) := by decide +kernel
theorem dL_law_668 : decode cL_law 668 = .ok (.iaload, 1) := by decide +kernel
theorem dL_law_669 : decode cL_law 669 = .ok (.aload_n 0, 1) := by decide +kernel
theorem dL_law_670 : decode cL_law 670 = .ok (.iload 4, 2) := by decide +kernel
theorem dL_law_672 : decode cL_law 672 = .ok (.iconst 3, 1) := by decide +kernel
theorem dL_law_673 : decode cL_law 673 = .ok (.iadd, 1) := by decide +kernel
theorem dL_law_674 : decode cL_law 674 = .ok (.iaload, 1) := by decide +kernel
theorem dL_law_675 : decode cL_law 675 = .ok (.invokevirtual 115, 3) := by decide +kernel
theorem dL_law_678 : decode cL_law 678 = .ok (.istore 6, 2) := by decide +kernel
theorem dL_law_680 : decode cL_law 680 = .ok (.aload_n 2, 1) := by decide +kernel
theorem dL_law_681 : decode cL_law 681 = .ok (.invokevirtual 90, 3) := by decide +kernel
theorem dL_law_684 : decode cL_law 684 = .ok (.iload 5, 2) := by decide +kernel
theorem dL_law_686 : decode cL_law 686 = .ok (.if_icmp .eq 5, 3) := by decide +kernel
theorem dL_law_689 : decode cL_law 689 = .ok (.iconst 0, 1) := by decide +kernel
theorem dL_law_690 : decode cL_law 690 = .ok (.ireturn, 1) := by decide +kernel
theorem dL_law_691 : decode cL_law 691 = .ok (.iload 5, 2) := by decide +kernel
theorem dL_law_693 : decode cL_law 693 = .ok (.ifCond .ne 15, 3) := by decide +kernel
theorem dL_law_696 : decode cL_law 696 = .ok (.aload_n 3, 1) := by decide +kernel
theorem dL_law_697 : decode cL_law 697 = .ok (.iconst 0, 1) := by decide +kernel
theorem dL_law_698 : decode cL_law 698 = .ok (.laload, 1) := by decide +kernel
theorem dL_law_699 : decode cL_law 699 = .ok (.iload 6, 2) := by decide +kernel
theorem dL_law_701 : decode cL_law 701 = .ok (.i2l, 1) := by decide +kernel
theorem dL_law_702 : decode cL_law 702 = .ok (.lcmp, 1) := by decide +kernel
theorem dL_law_703 : decode cL_law 703 = .ok (.ifCond .eq 5, 3) := by decide +kernel
theorem dL_law_706 : decode cL_law 706 = .ok (.iconst 0, 1) := by decide +kernel
theorem dL_law_707 : decode cL_law 707 = .ok (.ireturn, 1) := by decide +kernel
theorem dL_law_708 : decode cL_law 708 = .ok (.goto 784, 3) := by decide +kernel
theorem dL_law_711 : decode cL_law 711 = .ok (.aload_n 1, 1) := by decide +kernel
theorem dL_law_712 : decode cL_law 712 = .ok (.aload_n 0, 1) := by decide +kernel
theorem dL_law_713 : decode cL_law 713 = .ok (.iload 4, 2) := by decide +kernel
theorem dL_law_715 : decode cL_law 715 = .ok (.iconst 1, 1) := by decide +kernel
theorem dL_law_716 : decode cL_law 716 = .ok (.iadd, 1) := by decide +kernel
theorem dL_law_717 : decode cL_law 717 = .ok (.iaload, 1) := by decide +kernel
theorem dL_law_718 : decode cL_law 718 = .ok (.aload_n 3, 1) := by decide +kernel
theorem dL_law_719 : decode cL_law 719 = .ok (.invokestatic 116, 3) := by decide +kernel
theorem dL_law_722 : decode cL_law 722 = .ok (.istore 5, 2) := by decide +kernel
theorem dL_law_724 : decode cL_law 724 = .ok (.aload_n 2, 1) := by decide +kernel
theorem dL_law_725 : decode cL_law 725 = .ok (.aload_n 0, 1) := by decide +kernel
theorem dL_law_726 : decode cL_law 726 = .ok (.iload 4, 2) := by decide +kernel
theorem dL_law_728 : decode cL_law 728 = .ok (.iconst 1, 1) := by decide +kernel
theorem dL_law_729 : decode cL_law 729 = .ok (.iadd, 1) := by decide +kernel
theorem dL_law_730 : decode cL_law 730 = .ok (.iaload, 1) := by decide +kernel
theorem dL_law_731 : decode cL_law 731 = .ok (.invokevirtual 119, 3) := by decide +kernel
theorem dL_law_734 : decode cL_law 734 = .ok (.istore 6, 2) := by decide +kernel
theorem dL_law_736 : decode cL_law 736 = .ok (.aload_n 2, 1) := by decide +kernel
theorem dL_law_737 : decode cL_law 737 = .ok (.invokevirtual 90, 3) := by decide +kernel
theorem dL_law_740 : decode cL_law 740 = .ok (.iload 5, 2) := by decide +kernel
theorem dL_law_742 : decode cL_law 742 = .ok (.if_icmp .eq 5, 3) := by decide +kernel
theorem dL_law_745 : decode cL_law 745 = .ok (.iconst 0, 1) := by decide +kernel
theorem dL_law_746 : decode cL_law 746 = .ok (.ireturn, 1) := by decide +kernel
theorem dL_law_747 : decode cL_law 747 = .ok (.iload 5, 2) := by decide +kernel
theorem dL_law_749 : decode cL_law 749 = .ok (.ifCond .ne 15, 3) := by decide +kernel
theorem dL_law_752 : decode cL_law 752 = .ok (.aload_n 3, 1) := by decide +kernel
theorem dL_law_753 : decode cL_law 753 = .ok (.iconst 0, 1) := by decide +kernel
theorem dL_law_754 : decode cL_law 754 = .ok (.laload, 1) := by decide +kernel
theorem dL_law_755 : decode cL_law 755 = .ok (.iload 6, 2) := by decide +kernel
theorem dL_law_757 : decode cL_law 757 = .ok (.i2l, 1) := by decide +kernel
theorem dL_law_758 : decode cL_law 758 = .ok (.lcmp, 1) := by decide +kernel
theorem dL_law_759 : decode cL_law 759 = .ok (.ifCond .eq 5, 3) := by decide +kernel
theorem dL_law_762 : decode cL_law 762 = .ok (.iconst 0, 1) := by decide +kernel
theorem dL_law_763 : decode cL_law 763 = .ok (.ireturn, 1) := by decide +kernel
theorem dL_law_764 : decode cL_law 764 = .ok (.goto 728, 3) := by decide +kernel
theorem dL_law_767 : decode cL_law 767 = .ok (.aload_n 1, 1) := by decide +kernel
theorem dL_law_768 : decode cL_law 768 = .ok (.aload_n 0, 1) := by decide +kernel
theorem dL_law_769 : decode cL_law 769 = .ok (.iload 4, 2) := by decide +kernel
theorem dL_law_771 : decode cL_law 771 = .ok (.iconst 1, 1) := by decide +kernel
theorem dL_law_772 : decode cL_law 772 = .ok (.iadd, 1) := by decide +kernel
theorem dL_law_773 : decode cL_law 773 = .ok (.iaload, 1) := by decide +kernel
theorem dL_law_774 : decode cL_law 774 = .ok (.aload_n 0, 1) := by decide +kernel
theorem dL_law_775 : decode cL_law 775 = .ok (.iload 4, 2) := by decide +kernel
theorem dL_law_777 : decode cL_law 777 = .ok (.iconst 2, 1) := by decide +kernel
theorem dL_law_778 : decode cL_law 778 = .ok (.iadd, 1) := by decide +kernel
theorem dL_law_779 : decode cL_law 779 = .ok (.iaload, 1) := by decide +kernel
theorem dL_law_780 : decode cL_law 780 = .ok (.aload_n 3, 1) := by decide +kernel
theorem dL_law_781 : decode cL_law 781 = .ok (.invokestatic 120, 3) := by decide +kernel
theorem dL_law_784 : decode cL_law 784 = .ok (.istore 5, 2) := by decide +kernel
theorem dL_law_786 : decode cL_law 786 = .ok (.aload_n 2, 1) := by decide +kernel
theorem dL_law_787 : decode cL_law 787 = .ok (.aload_n 0, 1) := by decide +kernel
theorem dL_law_788 : decode cL_law 788 = .ok (.iload 4, 2) := by decide +kernel
theorem dL_law_790 : decode cL_law 790 = .ok (.iconst 1, 1) := by decide +kernel
theorem dL_law_791 : decode cL_law 791 = .ok (.iadd, 1) := by decide +kernel
theorem dL_law_792 : decode cL_law 792 = .ok (.iaload, 1) := by decide +kernel
theorem dL_law_793 : decode cL_law 793 = .ok (.aload_n 0, 1) := by decide +kernel
theorem dL_law_794 : decode cL_law 794 = .ok (.iload 4, 2) := by decide +kernel
theorem dL_law_796 : decode cL_law 796 = .ok (.iconst 2, 1) := by decide +kernel
theorem dL_law_797 : decode cL_law 797 = .ok (.iadd, 1) := by decide +kernel
theorem dL_law_798 : decode cL_law 798 = .ok (.iaload, 1) := by decide +kernel
theorem dL_law_799 : decode cL_law 799 = .ok (.invokevirtual 122, 3) := by decide +kernel
theorem dL_law_802 : decode cL_law 802 = .ok (.istore 6, 2) := by decide +kernel
theorem dL_law_804 : decode cL_law 804 = .ok (.aload_n 2, 1) := by decide +kernel
theorem dL_law_805 : decode cL_law 805 = .ok (.invokevirtual 90, 3) := by decide +kernel
theorem dL_law_808 : decode cL_law 808 = .ok (.iload 5, 2) := by decide +kernel
theorem dL_law_810 : decode cL_law 810 = .ok (.if_icmp .eq 5, 3) := by decide +kernel
theorem dL_law_813 : decode cL_law 813 = .ok (.iconst 0, 1) := by decide +kernel
theorem dL_law_814 : decode cL_law 814 = .ok (.ireturn, 1) := by decide +kernel
theorem dL_law_815 : decode cL_law 815 = .ok (.iload 5, 2) := by decide +kernel
theorem dL_law_817 : decode cL_law 817 = .ok (.ifCond .ne 15, 3) := by decide +kernel
theorem dL_law_820 : decode cL_law 820 = .ok (.aload_n 3, 1) := by decide +kernel
theorem dL_law_821 : decode cL_law 821 = .ok (.iconst 0, 1) := by decide +kernel
theorem dL_law_822 : decode cL_law 822 = .ok (.laload, 1) := by decide +kernel
theorem dL_law_823 : decode cL_law 823 = .ok (.iload 6, 2) := by decide +kernel
theorem dL_law_825 : decode cL_law 825 = .ok (.i2l, 1) := by decide +kernel
theorem dL_law_826 : decode cL_law 826 = .ok (.lcmp, 1) := by decide +kernel
theorem dL_law_827 : decode cL_law 827 = .ok (.ifCond .eq 5, 3) := by decide +kernel
theorem dL_law_830 : decode cL_law 830 = .ok (.iconst 0, 1) := by decide +kernel
theorem dL_law_831 : decode cL_law 831 = .ok (.ireturn, 1) := by decide +kernel
theorem dL_law_832 : decode cL_law 832 = .ok (.goto 660, 3) := by decide +kernel
theorem dL_law_835 : decode cL_law 835 = .ok (.aload_n 1, 1) := by decide +kernel
theorem dL_law_836 : decode cL_law 836 = .ok (.aload_n 0, 1) := by decide +kernel
theorem dL_law_837 : decode cL_law 837 = .ok (.iload 4, 2) := by decide +kernel
theorem dL_law_839 : decode cL_law 839 = .ok (.iconst 1, 1) := by decide +kernel
theorem dL_law_840 : decode cL_law 840 = .ok (.iadd, 1) := by decide +kernel
theorem dL_law_841 : decode cL_law 841 = .ok (.iaload, 1) := by decide +kernel
theorem dL_law_842 : decode cL_law 842 = .ok (.aload_n 3, 1) := by decide +kernel
theorem dL_law_843 : decode cL_law 843 = .ok (.invokestatic 123, 3) := by decide +kernel
theorem dL_law_846 : decode cL_law 846 = .ok (.istore 5, 2) := by decide +kernel
theorem dL_law_848 : decode cL_law 848 = .ok (.aload_n 2, 1) := by decide +kernel
theorem dL_law_849 : decode cL_law 849 = .ok (.aload_n 0, 1) := by decide +kernel
theorem dL_law_850 : decode cL_law 850 = .ok (.iload 4, 2) := by decide +kernel
theorem dL_law_852 : decode cL_law 852 = .ok (.iconst 1, 1) := by decide +kernel
theorem dL_law_853 : decode cL_law 853 = .ok (.iadd, 1) := by decide +kernel
theorem dL_law_854 : decode cL_law 854 = .ok (.iaload, 1) := by decide +kernel
theorem dL_law_855 : decode cL_law 855 = .ok (.invokevirtual 125, 3) := by decide +kernel
theorem dL_law_858 : decode cL_law 858 = .ok (.istore 6, 2) := by decide +kernel
theorem dL_law_860 : decode cL_law 860 = .ok (.aload_n 2, 1) := by decide +kernel
theorem dL_law_861 : decode cL_law 861 = .ok (.invokevirtual 90, 3) := by decide +kernel
theorem dL_law_864 : decode cL_law 864 = .ok (.iload 5, 2) := by decide +kernel
theorem dL_law_866 : decode cL_law 866 = .ok (.if_icmp .eq 5, 3) := by decide +kernel
theorem dL_law_869 : decode cL_law 869 = .ok (.iconst 0, 1) := by decide +kernel
theorem dL_law_870 : decode cL_law 870 = .ok (.ireturn, 1) := by decide +kernel
theorem dL_law_871 : decode cL_law 871 = .ok (.iload 5, 2) := by decide +kernel
theorem dL_law_873 : decode cL_law 873 = .ok (.ifCond .ne 15, 3) := by decide +kernel
theorem dL_law_876 : decode cL_law 876 = .ok (.aload_n 3, 1) := by decide +kernel
theorem dL_law_877 : decode cL_law 877 = .ok (.iconst 0, 1) := by decide +kernel
theorem dL_law_878 : decode cL_law 878 = .ok (.laload, 1) := by decide +kernel
theorem dL_law_879 : decode cL_law 879 = .ok (.iload 6, 2) := by decide +kernel
theorem dL_law_881 : decode cL_law 881 = .ok (.i2l, 1) := by decide +kernel
theorem dL_law_882 : decode cL_law 882 = .ok (.lcmp, 1) := by decide +kernel
theorem dL_law_883 : decode cL_law 883 = .ok (.ifCond .eq 5, 3) := by decide +kernel
theorem dL_law_886 : decode cL_law 886 = .ok (.iconst 0, 1) := by decide +kernel
theorem dL_law_887 : decode cL_law 887 = .ok (.ireturn, 1) := by decide +kernel
theorem dL_law_888 : decode cL_law 888 = .ok (.goto 604, 3) := by decide +kernel
theorem dL_law_891 : decode cL_law 891 = .ok (.aload_n 1, 1) := by decide +kernel
theorem dL_law_892 : decode cL_law 892 = .ok (.aload_n 0, 1) := by decide +kernel
theorem dL_law_893 : decode cL_law 893 = .ok (.iload 4, 2) := by decide +kernel
theorem dL_law_895 : decode cL_law 895 = .ok (.iconst 1, 1) := by decide +kernel
theorem dL_law_896 : decode cL_law 896 = .ok (.iadd, 1) := by decide +kernel
theorem dL_law_897 : decode cL_law 897 = .ok (.iaload, 1) := by decide +kernel
theorem dL_law_898 : decode cL_law 898 = .ok (.aload_n 3, 1) := by decide +kernel
theorem dL_law_899 : decode cL_law 899 = .ok (.invokestatic 126, 3) := by decide +kernel
theorem dL_law_902 : decode cL_law 902 = .ok (.istore 5, 2) := by decide +kernel
theorem dL_law_904 : decode cL_law 904 = .ok (.aload_n 2, 1) := by decide +kernel
theorem dL_law_905 : decode cL_law 905 = .ok (.aload_n 0, 1) := by decide +kernel
theorem dL_law_906 : decode cL_law 906 = .ok (.iload 4, 2) := by decide +kernel
theorem dL_law_908 : decode cL_law 908 = .ok (.iconst 1, 1) := by decide +kernel
theorem dL_law_909 : decode cL_law 909 = .ok (.iadd, 1) := by decide +kernel
theorem dL_law_910 : decode cL_law 910 = .ok (.iaload, 1) := by decide +kernel
theorem dL_law_911 : decode cL_law 911 = .ok (.invokevirtual 128, 3) := by decide +kernel
theorem dL_law_914 : decode cL_law 914 = .ok (.istore 6, 2) := by decide +kernel
theorem dL_law_916 : decode cL_law 916 = .ok (.aload_n 2, 1) := by decide +kernel
theorem dL_law_917 : decode cL_law 917 = .ok (.invokevirtual 90, 3) := by decide +kernel
theorem dL_law_920 : decode cL_law 920 = .ok (.iload 5, 2) := by decide +kernel
theorem dL_law_922 : decode cL_law 922 = .ok (.if_icmp .eq 5, 3) := by decide +kernel
theorem dL_law_925 : decode cL_law 925 = .ok (.iconst 0, 1) := by decide +kernel
theorem dL_law_926 : decode cL_law 926 = .ok (.ireturn, 1) := by decide +kernel
theorem dL_law_927 : decode cL_law 927 = .ok (.iload 5, 2) := by decide +kernel
theorem dL_law_929 : decode cL_law 929 = .ok (.ifCond .ne 15, 3) := by decide +kernel
theorem dL_law_932 : decode cL_law 932 = .ok (.aload_n 3, 1) := by decide +kernel
theorem dL_law_933 : decode cL_law 933 = .ok (.iconst 0, 1) := by decide +kernel
theorem dL_law_934 : decode cL_law 934 = .ok (.laload, 1) := by decide +kernel
theorem dL_law_935 : decode cL_law 935 = .ok (.iload 6, 2) := by decide +kernel
theorem dL_law_937 : decode cL_law 937 = .ok (.i2l, 1) := by decide +kernel
theorem dL_law_938 : decode cL_law 938 = .ok (.lcmp, 1) := by decide +kernel
theorem dL_law_939 : decode cL_law 939 = .ok (.ifCond .eq 5, 3) := by decide +kernel
theorem dL_law_942 : decode cL_law 942 = .ok (.iconst 0, 1) := by decide +kernel
theorem dL_law_943 : decode cL_law 943 = .ok (.ireturn, 1) := by decide +kernel
theorem dL_law_944 : decode cL_law 944 = .ok (.goto 548, 3) := by decide +kernel
theorem dL_law_947 : decode cL_law 947 = .ok (.aload_n 1, 1) := by decide +kernel
theorem dL_law_948 : decode cL_law 948 = .ok (.aload_n 0, 1) := by decide +kernel
theorem dL_law_949 : decode cL_law 949 = .ok (.iload 4, 2) := by decide +kernel
theorem dL_law_951 : decode cL_law 951 = .ok (.iconst 1, 1) := by decide +kernel
theorem dL_law_952 : decode cL_law 952 = .ok (.iadd, 1) := by decide +kernel
theorem dL_law_953 : decode cL_law 953 = .ok (.iaload, 1) := by decide +kernel
theorem dL_law_954 : decode cL_law 954 = .ok (.aload_n 0, 1) := by decide +kernel
theorem dL_law_955 : decode cL_law 955 = .ok (.iload 4, 2) := by decide +kernel
theorem dL_law_957 : decode cL_law 957 = .ok (.iconst 2, 1) := by decide +kernel
theorem dL_law_958 : decode cL_law 958 = .ok (.iadd, 1) := by decide +kernel
theorem dL_law_959 : decode cL_law 959 = .ok (.iaload, 1) := by decide +kernel
theorem dL_law_960 : decode cL_law 960 = .ok (.aload_n 3, 1) := by decide +kernel
theorem dL_law_961 : decode cL_law 961 = .ok (.invokestatic 129, 3) := by decide +kernel
theorem dL_law_964 : decode cL_law 964 = .ok (.istore 5, 2) := by decide +kernel
theorem dL_law_966 : decode cL_law 966 = .ok (.aload_n 2, 1) := by decide +kernel
theorem dL_law_967 : decode cL_law 967 = .ok (.aload_n 0, 1) := by decide +kernel
theorem dL_law_968 : decode cL_law 968 = .ok (.iload 4, 2) := by decide +kernel
theorem dL_law_970 : decode cL_law 970 = .ok (.iconst 1, 1) := by decide +kernel
theorem dL_law_971 : decode cL_law 971 = .ok (.iadd, 1) := by decide +kernel
theorem dL_law_972 : decode cL_law 972 = .ok (.iaload, 1) := by decide +kernel
theorem dL_law_973 : decode cL_law 973 = .ok (.aload_n 0, 1) := by decide +kernel
theorem dL_law_974 : decode cL_law 974 = .ok (.iload 4, 2) := by decide +kernel
theorem dL_law_976 : decode cL_law 976 = .ok (.iconst 2, 1) := by decide +kernel
theorem dL_law_977 : decode cL_law 977 = .ok (.iadd, 1) := by decide +kernel
theorem dL_law_978 : decode cL_law 978 = .ok (.iaload, 1) := by decide +kernel
theorem dL_law_979 : decode cL_law 979 = .ok (.invokevirtual 131, 3) := by decide +kernel
theorem dL_law_982 : decode cL_law 982 = .ok (.istore 6, 2) := by decide +kernel
theorem dL_law_984 : decode cL_law 984 = .ok (.aload_n 2, 1) := by decide +kernel
theorem dL_law_985 : decode cL_law 985 = .ok (.invokevirtual 90, 3) := by decide +kernel
theorem dL_law_988 : decode cL_law 988 = .ok (.iload 5, 2) := by decide +kernel
theorem dL_law_990 : decode cL_law 990 = .ok (.if_icmp .eq 5, 3) := by decide +kernel
theorem dL_law_993 : decode cL_law 993 = .ok (.iconst 0, 1) := by decide +kernel
theorem dL_law_994 : decode cL_law 994 = .ok (.ireturn, 1) := by decide +kernel
theorem dL_law_995 : decode cL_law 995 = .ok (.iload 5, 2) := by decide +kernel
theorem dL_law_997 : decode cL_law 997 = .ok (.ifCond .ne 15, 3) := by decide +kernel
theorem dL_law_1000 : decode cL_law 1000 = .ok (.aload_n 3, 1) := by decide +kernel
theorem dL_law_1001 : decode cL_law 1001 = .ok (.iconst 0, 1) := by decide +kernel
theorem dL_law_1002 : decode cL_law 1002 = .ok (.laload, 1) := by decide +kernel
theorem dL_law_1003 : decode cL_law 1003 = .ok (.iload 6, 2) := by decide +kernel
theorem dL_law_1005 : decode cL_law 1005 = .ok (.i2l, 1) := by decide +kernel
theorem dL_law_1006 : decode cL_law 1006 = .ok (.lcmp, 1) := by decide +kernel
theorem dL_law_1007 : decode cL_law 1007 = .ok (.ifCond .eq 5, 3) := by decide +kernel
theorem dL_law_1010 : decode cL_law 1010 = .ok (.iconst 0, 1) := by decide +kernel
theorem dL_law_1011 : decode cL_law 1011 = .ok (.ireturn, 1) := by decide +kernel
theorem dL_law_1012 : decode cL_law 1012 = .ok (.goto 480, 3) := by decide +kernel
theorem dL_law_1015 : decode cL_law 1015 = .ok (.aload_n 1, 1) := by decide +kernel
theorem dL_law_1016 : decode cL_law 1016 = .ok (.aload_n 0, 1) := by decide +kernel
theorem dL_law_1017 : decode cL_law 1017 = .ok (.iload 4, 2) := by decide +kernel
theorem dL_law_1019 : decode cL_law 1019 = .ok (.iconst 1, 1) := by decide +kernel
theorem dL_law_1020 : decode cL_law 1020 = .ok (.iadd, 1) := by decide +kernel
theorem dL_law_1021 : decode cL_law 1021 = .ok (.iaload, 1) := by decide +kernel
theorem dL_law_1022 : decode cL_law 1022 = .ok (.aload_n 0, 1) := by decide +kernel
theorem dL_law_1023 : decode cL_law 1023 = .ok (.iload 4, 2) := by decide +kernel
theorem dL_law_1025 : decode cL_law 1025 = .ok (.iconst 2, 1) := by decide +kernel
theorem dL_law_1026 : decode cL_law 1026 = .ok (.iadd, 1) := by decide +kernel
theorem dL_law_1027 : decode cL_law 1027 = .ok (.iaload, 1) := by decide +kernel
theorem dL_law_1028 : decode cL_law 1028 = .ok (.aload_n 0, 1) := by decide +kernel
theorem dL_law_1029 : decode cL_law 1029 = .ok (.iload 4, 2) := by decide +kernel
theorem dL_law_1031 : decode cL_law 1031 = .ok (.iconst 3, 1) := by decide +kernel
theorem dL_law_1032 : decode cL_law 1032 = .ok (.iadd, 1) := by decide +kernel
theorem dL_law_1033 : decode cL_law 1033 = .ok (.iaload, 1) := by decide +kernel
theorem dL_law_1034 : decode cL_law 1034 = .ok (.aload_n 3, 1) := by decide +kernel
theorem dL_law_1035 : decode cL_law 1035 = .ok (.invokestatic 132, 3) := by decide +kernel
theorem dL_law_1038 : decode cL_law 1038 = .ok (.istore 5, 2) := by decide +kernel
theorem dL_law_1040 : decode cL_law 1040 = .ok (.aload_n 2, 1) := by decide +kernel
theorem dL_law_1041 : decode cL_law 1041 = .ok (.aload_n 0, 1) := by decide +kernel
theorem dL_law_1042 : decode cL_law 1042 = .ok (.iload 4, 2) := by decide +kernel
theorem dL_law_1044 : decode cL_law 1044 = .ok (.iconst 1, 1) := by decide +kernel
theorem dL_law_1045 : decode cL_law 1045 = .ok (.iadd, 1) := by decide +kernel
theorem dL_law_1046 : decode cL_law 1046 = .ok (.iaload, 1) := by decide +kernel
theorem dL_law_1047 : decode cL_law 1047 = .ok (.aload_n 0, 1) := by decide +kernel
theorem dL_law_1048 : decode cL_law 1048 = .ok (.iload 4, 2) := by decide +kernel
theorem dL_law_1050 : decode cL_law 1050 = .ok (.iconst 2, 1) := by decide +kernel
theorem dL_law_1051 : decode cL_law 1051 = .ok (.iadd, 1) := by decide +kernel
theorem dL_law_1052 : decode cL_law 1052 = .ok (.iaload, 1) := by decide +kernel
theorem dL_law_1053 : decode cL_law 1053 = .ok (.aload_n 0, 1) := by decide +kernel
theorem dL_law_1054 : decode cL_law 1054 = .ok (.iload 4, 2) := by decide +kernel
theorem dL_law_1056 : decode cL_law 1056 = .ok (.iconst 3, 1) := by decide +kernel
theorem dL_law_1057 : decode cL_law 1057 = .ok (.iadd, 1) := by decide +kernel
theorem dL_law_1058 : decode cL_law 1058 = .ok (.iaload, 1) := by decide +kernel
theorem dL_law_1059 : decode cL_law 1059 = .ok (.invokevirtual 134, 3) := by decide +kernel
theorem dL_law_1062 : decode cL_law 1062 = .ok (.istore 6, 2) := by decide +kernel
theorem dL_law_1064 : decode cL_law 1064 = .ok (.aload_n 2, 1) := by decide +kernel
theorem dL_law_1065 : decode cL_law 1065 = .ok (.invokevirtual 90, 3) := by decide +kernel
theorem dL_law_1068 : decode cL_law 1068 = .ok (.iload 5, 2) := by decide +kernel
theorem dL_law_1070 : decode cL_law 1070 = .ok (.if_icmp .eq 5, 3) := by decide +kernel
theorem dL_law_1073 : decode cL_law 1073 = .ok (.iconst 0, 1) := by decide +kernel
theorem dL_law_1074 : decode cL_law 1074 = .ok (.ireturn, 1) := by decide +kernel
theorem dL_law_1075 : decode cL_law 1075 = .ok (.iload 5, 2) := by decide +kernel
theorem dL_law_1077 : decode cL_law 1077 = .ok (.ifCond .ne 15, 3) := by decide +kernel
theorem dL_law_1080 : decode cL_law 1080 = .ok (.aload_n 3, 1) := by decide +kernel
theorem dL_law_1081 : decode cL_law 1081 = .ok (.iconst 0, 1) := by decide +kernel
theorem dL_law_1082 : decode cL_law 1082 = .ok (.laload, 1) := by decide +kernel
theorem dL_law_1083 : decode cL_law 1083 = .ok (.iload 6, 2) := by decide +kernel
theorem dL_law_1085 : decode cL_law 1085 = .ok (.i2l, 1) := by decide +kernel
theorem dL_law_1086 : decode cL_law 1086 = .ok (.lcmp, 1) := by decide +kernel
theorem dL_law_1087 : decode cL_law 1087 = .ok (.ifCond .eq 5, 3) := by decide +kernel
theorem dL_law_1090 : decode cL_law 1090 = .ok (.iconst 0, 1) := by decide +kernel
theorem dL_law_1091 : decode cL_law 1091 = .ok (.ireturn, 1) := by decide +kernel
theorem dL_law_1092 : decode cL_law 1092 = .ok (.goto 400, 3) := by decide +kernel
theorem dL_law_1095 : decode cL_law 1095 = .ok (.aload_n 1, 1) := by decide +kernel
theorem dL_law_1096 : decode cL_law 1096 = .ok (.aload_n 0, 1) := by decide +kernel
theorem dL_law_1097 : decode cL_law 1097 = .ok (.iload 4, 2) := by decide +kernel
theorem dL_law_1099 : decode cL_law 1099 = .ok (.iconst 1, 1) := by decide +kernel
theorem dL_law_1100 : decode cL_law 1100 = .ok (.iadd, 1) := by decide +kernel
theorem dL_law_1101 : decode cL_law 1101 = .ok (.iaload, 1) := by decide +kernel
theorem dL_law_1102 : decode cL_law 1102 = .ok (.aload_n 3, 1) := by decide +kernel
theorem dL_law_1103 : decode cL_law 1103 = .ok (.invokestatic 135, 3) := by decide +kernel
theorem dL_law_1106 : decode cL_law 1106 = .ok (.istore 5, 2) := by decide +kernel
theorem dL_law_1108 : decode cL_law 1108 = .ok (.aload_n 2, 1) := by decide +kernel
theorem dL_law_1109 : decode cL_law 1109 = .ok (.aload_n 0, 1) := by decide +kernel
theorem dL_law_1110 : decode cL_law 1110 = .ok (.iload 4, 2) := by decide +kernel
theorem dL_law_1112 : decode cL_law 1112 = .ok (.iconst 1, 1) := by decide +kernel
theorem dL_law_1113 : decode cL_law 1113 = .ok (.iadd, 1) := by decide +kernel
theorem dL_law_1114 : decode cL_law 1114 = .ok (.iaload, 1) := by decide +kernel
theorem dL_law_1115 : decode cL_law 1115 = .ok (.invokevirtual 137, 3) := by decide +kernel
theorem dL_law_1118 : decode cL_law 1118 = .ok (.istore 6, 2) := by decide +kernel
theorem dL_law_1120 : decode cL_law 1120 = .ok (.aload_n 2, 1) := by decide +kernel
theorem dL_law_1121 : decode cL_law 1121 = .ok (.invokevirtual 90, 3) := by decide +kernel
theorem dL_law_1124 : decode cL_law 1124 = .ok (.iload 5, 2) := by decide +kernel
theorem dL_law_1126 : decode cL_law 1126 = .ok (.if_icmp .eq 5, 3) := by decide +kernel
theorem dL_law_1129 : decode cL_law 1129 = .ok (.iconst 0, 1) := by decide +kernel
theorem dL_law_1130 : decode cL_law 1130 = .ok (.ireturn, 1) := by decide +kernel
theorem dL_law_1131 : decode cL_law 1131 = .ok (.iload 5, 2) := by decide +kernel
theorem dL_law_1133 : decode cL_law 1133 = .ok (.ifCond .ne 15, 3) := by decide +kernel
theorem dL_law_1136 : decode cL_law 1136 = .ok (.aload_n 3, 1) := by decide +kernel
theorem dL_law_1137 : decode cL_law 1137 = .ok (.iconst 0, 1) := by decide +kernel
theorem dL_law_1138 : decode cL_law 1138 = .ok (.laload, 1) := by decide +kernel
theorem dL_law_1139 : decode cL_law 1139 = .ok (.iload 6, 2) := by decide +kernel
theorem dL_law_1141 : decode cL_law 1141 = .ok (.i2l, 1) := by decide +kernel
theorem dL_law_1142 : decode cL_law 1142 = .ok (.lcmp, 1) := by decide +kernel
theorem dL_law_1143 : decode cL_law 1143 = .ok (.ifCond .eq 5, 3) := by decide +kernel
theorem dL_law_1146 : decode cL_law 1146 = .ok (.iconst 0, 1) := by decide +kernel
theorem dL_law_1147 : decode cL_law 1147 = .ok (.ireturn, 1) := by decide +kernel
theorem dL_law_1148 : decode cL_law 1148 = .ok (.goto 344, 3) := by decide +kernel
theorem dL_law_1151 : decode cL_law 1151 = .ok (.aload_n 1, 1) := by decide +kernel
theorem dL_law_1152 : decode cL_law 1152 = .ok (.aload_n 0, 1) := by decide +kernel
theorem dL_law_1153 : decode cL_law 1153 = .ok (.iload 4, 2) := by decide +kernel
theorem dL_law_1155 : decode cL_law 1155 = .ok (.iconst 1, 1) := by decide +kernel
theorem dL_law_1156 : decode cL_law 1156 = .ok (.iadd, 1) := by decide +kernel
theorem dL_law_1157 : decode cL_law 1157 = .ok (.iaload, 1) := by decide +kernel
theorem dL_law_1158 : decode cL_law 1158 = .ok (.aload_n 3, 1) := by decide +kernel
theorem dL_law_1159 : decode cL_law 1159 = .ok (.invokestatic 138, 3) := by decide +kernel
theorem dL_law_1162 : decode cL_law 1162 = .ok (.istore 5, 2) := by decide +kernel
theorem dL_law_1164 : decode cL_law 1164 = .ok (.aload_n 2, 1) := by decide +kernel
theorem dL_law_1165 : decode cL_law 1165 = .ok (.aload_n 0, 1) := by decide +kernel
theorem dL_law_1166 : decode cL_law 1166 = .ok (.iload 4, 2) := by decide +kernel
theorem dL_law_1168 : decode cL_law 1168 = .ok (.iconst 1, 1) := by decide +kernel
theorem dL_law_1169 : decode cL_law 1169 = .ok (.iadd, 1) := by decide +kernel
theorem dL_law_1170 : decode cL_law 1170 = .ok (.iaload, 1) := by decide +kernel
theorem dL_law_1171 : decode cL_law 1171 = .ok (.invokevirtual 140, 3) := by decide +kernel
theorem dL_law_1174 : decode cL_law 1174 = .ok (.istore 6, 2) := by decide +kernel
theorem dL_law_1176 : decode cL_law 1176 = .ok (.aload_n 2, 1) := by decide +kernel
theorem dL_law_1177 : decode cL_law 1177 = .ok (.invokevirtual 90, 3) := by decide +kernel
theorem dL_law_1180 : decode cL_law 1180 = .ok (.iload 5, 2) := by decide +kernel
theorem dL_law_1182 : decode cL_law 1182 = .ok (.if_icmp .eq 5, 3) := by decide +kernel
theorem dL_law_1185 : decode cL_law 1185 = .ok (.iconst 0, 1) := by decide +kernel
theorem dL_law_1186 : decode cL_law 1186 = .ok (.ireturn, 1) := by decide +kernel
theorem dL_law_1187 : decode cL_law 1187 = .ok (.iload 5, 2) := by decide +kernel
theorem dL_law_1189 : decode cL_law 1189 = .ok (.ifCond .ne 15, 3) := by decide +kernel
theorem dL_law_1192 : decode cL_law 1192 = .ok (.aload_n 3, 1) := by decide +kernel
theorem dL_law_1193 : decode cL_law 1193 = .ok (.iconst 0, 1) := by decide +kernel
theorem dL_law_1194 : decode cL_law 1194 = .ok (.laload, 1) := by decide +kernel
theorem dL_law_1195 : decode cL_law 1195 = .ok (.iload 6, 2) := by decide +kernel
theorem dL_law_1197 : decode cL_law 1197 = .ok (.i2l, 1) := by decide +kernel
theorem dL_law_1198 : decode cL_law 1198 = .ok (.lcmp, 1) := by decide +kernel
theorem dL_law_1199 : decode cL_law 1199 = .ok (.ifCond .eq 5, 3) := by decide +kernel
theorem dL_law_1202 : decode cL_law 1202 = .ok (.iconst 0, 1) := by decide +kernel
theorem dL_law_1203 : decode cL_law 1203 = .ok (.ireturn, 1) := by decide +kernel
theorem dL_law_1204 : decode cL_law 1204 = .ok (.goto 288, 3) := by decide +kernel
theorem dL_law_1207 : decode cL_law 1207 = .ok (.aload_n 1, 1) := by decide +kernel
theorem dL_law_1208 : decode cL_law 1208 = .ok (.invokevirtual 141, 3) := by decide +kernel
theorem dL_law_1211 : decode cL_law 1211 = .ok (.aload_n 2, 1) := by decide +kernel
theorem dL_law_1212 : decode cL_law 1212 = .ok (.invokevirtual 144, 3) := by decide +kernel
theorem dL_law_1215 : decode cL_law 1215 = .ok (.if_icmp .eq 277, 3) := by decide +kernel
theorem dL_law_1218 : decode cL_law 1218 = .ok (.iconst 0, 1) := by decide +kernel
theorem dL_law_1219 : decode cL_law 1219 = .ok (.ireturn, 1) := by decide +kernel
theorem dL_law_1220 : decode cL_law 1220 = .ok (.aload_n 1, 1) := by decide +kernel
theorem dL_law_1221 : decode cL_law 1221 = .ok (.aload_n 3, 1) := by decide +kernel
theorem dL_law_1222 : decode cL_law 1222 = .ok (.invokestatic 145, 3) := by decide +kernel
theorem dL_law_1225 : decode cL_law 1225 = .ok (.istore 5, 2) := by decide +kernel
theorem dL_law_1227 : decode cL_law 1227 = .ok (.aload_n 2, 1) := by decide +kernel
theorem dL_law_1228 : decode cL_law 1228 = .ok (.invokevirtual 147, 3) := by decide +kernel
theorem dL_law_1231 : decode cL_law 1231 = .ok (.istore 6, 2) := by decide +kernel
theorem dL_law_1233 : decode cL_law 1233 = .ok (.aload_n 2, 1) := by decide +kernel
theorem dL_law_1234 : decode cL_law 1234 = .ok (.invokevirtual 90, 3) := by decide +kernel
theorem dL_law_1237 : decode cL_law 1237 = .ok (.iload 5, 2) := by decide +kernel
theorem dL_law_1239 : decode cL_law 1239 = .ok (.if_icmp .eq 5, 3) := by decide +kernel
theorem dL_law_1242 : decode cL_law 1242 = .ok (.iconst 0, 1) := by decide +kernel
theorem dL_law_1243 : decode cL_law 1243 = .ok (.ireturn, 1) := by decide +kernel
theorem dL_law_1244 : decode cL_law 1244 = .ok (.iload 5, 2) := by decide +kernel
theorem dL_law_1246 : decode cL_law 1246 = .ok (.ifCond .ne 15, 3) := by decide +kernel
theorem dL_law_1249 : decode cL_law 1249 = .ok (.aload_n 3, 1) := by decide +kernel
theorem dL_law_1250 : decode cL_law 1250 = .ok (.iconst 0, 1) := by decide +kernel
theorem dL_law_1251 : decode cL_law 1251 = .ok (.laload, 1) := by decide +kernel
theorem dL_law_1252 : decode cL_law 1252 = .ok (.iload 6, 2) := by decide +kernel
theorem dL_law_1254 : decode cL_law 1254 = .ok (.i2l, 1) := by decide +kernel
theorem dL_law_1255 : decode cL_law 1255 = .ok (.lcmp, 1) := by decide +kernel
theorem dL_law_1256 : decode cL_law 1256 = .ok (.ifCond .eq 5, 3) := by decide +kernel
theorem dL_law_1259 : decode cL_law 1259 = .ok (.iconst 0, 1) := by decide +kernel
theorem dL_law_1260 : decode cL_law 1260 = .ok (.ireturn, 1) := by decide +kernel
theorem dL_law_1261 : decode cL_law 1261 = .ok (.goto 231, 3) := by decide +kernel
theorem dL_law_1264 : decode cL_law 1264 = .ok (.aload_n 1, 1) := by decide +kernel
theorem dL_law_1265 : decode cL_law 1265 = .ok (.aload_n 0, 1) := by decide +kernel
theorem dL_law_1266 : decode cL_law 1266 = .ok (.iload 4, 2) := by decide +kernel
theorem dL_law_1268 : decode cL_law 1268 = .ok (.iconst 1, 1) := by decide +kernel
theorem dL_law_1269 : decode cL_law 1269 = .ok (.iadd, 1) := by decide +kernel
theorem dL_law_1270 : decode cL_law 1270 = .ok (.iaload, 1) := by decide +kernel
theorem dL_law_1271 : decode cL_law 1271 = .ok (.aload_n 0, 1) := by decide +kernel
theorem dL_law_1272 : decode cL_law 1272 = .ok (.iload 4, 2) := by decide +kernel
theorem dL_law_1274 : decode cL_law 1274 = .ok (.iconst 2, 1) := by decide +kernel
theorem dL_law_1275 : decode cL_law 1275 = .ok (.iadd, 1) := by decide +kernel
theorem dL_law_1276 : decode cL_law 1276 = .ok (.iaload, 1) := by decide +kernel
theorem dL_law_1277 : decode cL_law 1277 = .ok (.aload_n 0, 1) := by decide +kernel
theorem dL_law_1278 : decode cL_law 1278 = .ok (.iload 4, 2) := by decide +kernel
theorem dL_law_1280 : decode cL_law 1280 = .ok (.iconst 3, 1) := by decide +kernel
theorem dL_law_1281 : decode cL_law 1281 = .ok (.iadd, 1) := by decide +kernel
theorem dL_law_1282 : decode cL_law 1282 = .ok (.iaload, 1) := by decide +kernel
theorem dL_law_1283 : decode cL_law 1283 = .ok (.aload_n 3, 1) := by decide +kernel
theorem dL_law_1284 : decode cL_law 1284 = .ok (.invokestatic 148, 3) := by decide +kernel
theorem dL_law_1287 : decode cL_law 1287 = .ok (.istore 5, 2) := by decide +kernel
theorem dL_law_1289 : decode cL_law 1289 = .ok (.aload_n 2, 1) := by decide +kernel
theorem dL_law_1290 : decode cL_law 1290 = .ok (.aload_n 0, 1) := by decide +kernel
theorem dL_law_1291 : decode cL_law 1291 = .ok (.iload 4, 2) := by decide +kernel
theorem dL_law_1293 : decode cL_law 1293 = .ok (.iconst 1, 1) := by decide +kernel
theorem dL_law_1294 : decode cL_law 1294 = .ok (.iadd, 1) := by decide +kernel
theorem dL_law_1295 : decode cL_law 1295 = .ok (.iaload, 1) := by decide +kernel
theorem dL_law_1296 : decode cL_law 1296 = .ok (.aload_n 0, 1) := by decide +kernel
theorem dL_law_1297 : decode cL_law 1297 = .ok (.iload 4, 2) := by decide +kernel
theorem dL_law_1299 : decode cL_law 1299 = .ok (.iconst 2, 1) := by decide +kernel
theorem dL_law_1300 : decode cL_law 1300 = .ok (.iadd, 1) := by decide +kernel
theorem dL_law_1301 : decode cL_law 1301 = .ok (.iaload, 1) := by decide +kernel
theorem dL_law_1302 : decode cL_law 1302 = .ok (.aload_n 0, 1) := by decide +kernel
theorem dL_law_1303 : decode cL_law 1303 = .ok (.iload 4, 2) := by decide +kernel
theorem dL_law_1305 : decode cL_law 1305 = .ok (.iconst 3, 1) := by decide +kernel
theorem dL_law_1306 : decode cL_law 1306 = .ok (.iadd, 1) := by decide +kernel
theorem dL_law_1307 : decode cL_law 1307 = .ok (.iaload, 1) := by decide +kernel
theorem dL_law_1308 : decode cL_law 1308 = .ok (.invokevirtual 150, 3) := by decide +kernel
theorem dL_law_1311 : decode cL_law 1311 = .ok (.istore 6, 2) := by decide +kernel
theorem dL_law_1313 : decode cL_law 1313 = .ok (.aload_n 2, 1) := by decide +kernel
theorem dL_law_1314 : decode cL_law 1314 = .ok (.invokevirtual 90, 3) := by decide +kernel
theorem dL_law_1317 : decode cL_law 1317 = .ok (.iload 5, 2) := by decide +kernel
theorem dL_law_1319 : decode cL_law 1319 = .ok (.if_icmp .eq 5, 3) := by decide +kernel
theorem dL_law_1322 : decode cL_law 1322 = .ok (.iconst 0, 1) := by decide +kernel
theorem dL_law_1323 : decode cL_law 1323 = .ok (.ireturn, 1) := by decide +kernel
theorem dL_law_1324 : decode cL_law 1324 = .ok (.iload 5, 2) := by decide +kernel
theorem dL_law_1326 : decode cL_law 1326 = .ok (.ifCond .ne 15, 3) := by decide +kernel
theorem dL_law_1329 : decode cL_law 1329 = .ok (.aload_n 3, 1) := by decide +kernel
theorem dL_law_1330 : decode cL_law 1330 = .ok (.iconst 0, 1) := by decide +kernel
theorem dL_law_1331 : decode cL_law 1331 = .ok (.laload, 1) := by decide +kernel
theorem dL_law_1332 : decode cL_law 1332 = .ok (.iload 6, 2) := by decide +kernel
theorem dL_law_1334 : decode cL_law 1334 = .ok (.i2l, 1) := by decide +kernel
theorem dL_law_1335 : decode cL_law 1335 = .ok (.lcmp, 1) := by decide +kernel
theorem dL_law_1336 : decode cL_law 1336 = .ok (.ifCond .eq 5, 3) := by decide +kernel
theorem dL_law_1339 : decode cL_law 1339 = .ok (.iconst 0, 1) := by decide +kernel
theorem dL_law_1340 : decode cL_law 1340 = .ok (.ireturn, 1) := by decide +kernel
theorem dL_law_1341 : decode cL_law 1341 = .ok (.goto 151, 3) := by decide +kernel
theorem dL_law_1344 : decode cL_law 1344 = .ok (.aload_n 1, 1) := by decide +kernel
theorem dL_law_1345 : decode cL_law 1345 = .ok (.aload_n 0, 1) := by decide +kernel
theorem dL_law_1346 : decode cL_law 1346 = .ok (.iload 4, 2) := by decide +kernel
theorem dL_law_1348 : decode cL_law 1348 = .ok (.iconst 1, 1) := by decide +kernel
theorem dL_law_1349 : decode cL_law 1349 = .ok (.iadd, 1) := by decide +kernel
theorem dL_law_1350 : decode cL_law 1350 = .ok (.iaload, 1) := by decide +kernel
theorem dL_law_1351 : decode cL_law 1351 = .ok (.aload_n 0, 1) := by decide +kernel
theorem dL_law_1352 : decode cL_law 1352 = .ok (.iload 4, 2) := by decide +kernel
theorem dL_law_1354 : decode cL_law 1354 = .ok (.iconst 2, 1) := by decide +kernel
theorem dL_law_1355 : decode cL_law 1355 = .ok (.iadd, 1) := by decide +kernel
theorem dL_law_1356 : decode cL_law 1356 = .ok (.iaload, 1) := by decide +kernel
theorem dL_law_1357 : decode cL_law 1357 = .ok (.aload_n 0, 1) := by decide +kernel
theorem dL_law_1358 : decode cL_law 1358 = .ok (.iload 4, 2) := by decide +kernel
theorem dL_law_1360 : decode cL_law 1360 = .ok (.iconst 3, 1) := by decide +kernel
theorem dL_law_1361 : decode cL_law 1361 = .ok (.iadd, 1) := by decide +kernel
theorem dL_law_1362 : decode cL_law 1362 = .ok (.iaload, 1) := by decide +kernel
theorem dL_law_1363 : decode cL_law 1363 = .ok (.aload_n 3, 1) := by decide +kernel
theorem dL_law_1364 : decode cL_law 1364 = .ok (.invokestatic 151, 3) := by decide +kernel
theorem dL_law_1367 : decode cL_law 1367 = .ok (.istore 5, 2) := by decide +kernel
theorem dL_law_1369 : decode cL_law 1369 = .ok (.aload_n 2, 1) := by decide +kernel
theorem dL_law_1370 : decode cL_law 1370 = .ok (.aload_n 0, 1) := by decide +kernel
theorem dL_law_1371 : decode cL_law 1371 = .ok (.iload 4, 2) := by decide +kernel
theorem dL_law_1373 : decode cL_law 1373 = .ok (.iconst 1, 1) := by decide +kernel
theorem dL_law_1374 : decode cL_law 1374 = .ok (.iadd, 1) := by decide +kernel
theorem dL_law_1375 : decode cL_law 1375 = .ok (.iaload, 1) := by decide +kernel
theorem dL_law_1376 : decode cL_law 1376 = .ok (.aload_n 0, 1) := by decide +kernel
theorem dL_law_1377 : decode cL_law 1377 = .ok (.iload 4, 2) := by decide +kernel
theorem dL_law_1379 : decode cL_law 1379 = .ok (.iconst 2, 1) := by decide +kernel
theorem dL_law_1380 : decode cL_law 1380 = .ok (.iadd, 1) := by decide +kernel
theorem dL_law_1381 : decode cL_law 1381 = .ok (.iaload, 1) := by decide +kernel
theorem dL_law_1382 : decode cL_law 1382 = .ok (.aload_n 0, 1) := by decide +kernel
theorem dL_law_1383 : decode cL_law 1383 = .ok (.iload 4, 2) := by decide +kernel
theorem dL_law_1385 : decode cL_law 1385 = .ok (.iconst 3, 1) := by decide +kernel
theorem dL_law_1386 : decode cL_law 1386 = .ok (.iadd, 1) := by decide +kernel
theorem dL_law_1387 : decode cL_law 1387 = .ok (.iaload, 1) := by decide +kernel
theorem dL_law_1388 : decode cL_law 1388 = .ok (.invokevirtual 153, 3) := by decide +kernel
theorem dL_law_1391 : decode cL_law 1391 = .ok (.istore 6, 2) := by decide +kernel
theorem dL_law_1393 : decode cL_law 1393 = .ok (.aload_n 2, 1) := by decide +kernel
theorem dL_law_1394 : decode cL_law 1394 = .ok (.invokevirtual 90, 3) := by decide +kernel
theorem dL_law_1397 : decode cL_law 1397 = .ok (.iload 5, 2) := by decide +kernel
theorem dL_law_1399 : decode cL_law 1399 = .ok (.if_icmp .eq 5, 3) := by decide +kernel
theorem dL_law_1402 : decode cL_law 1402 = .ok (.iconst 0, 1) := by decide +kernel
theorem dL_law_1403 : decode cL_law 1403 = .ok (.ireturn, 1) := by decide +kernel
theorem dL_law_1404 : decode cL_law 1404 = .ok (.iload 5, 2) := by decide +kernel
theorem dL_law_1406 : decode cL_law 1406 = .ok (.ifCond .ne 15, 3) := by decide +kernel
theorem dL_law_1409 : decode cL_law 1409 = .ok (.aload_n 3, 1) := by decide +kernel
theorem dL_law_1410 : decode cL_law 1410 = .ok (.iconst 0, 1) := by decide +kernel
theorem dL_law_1411 : decode cL_law 1411 = .ok (.laload, 1) := by decide +kernel
theorem dL_law_1412 : decode cL_law 1412 = .ok (.iload 6, 2) := by decide +kernel
theorem dL_law_1414 : decode cL_law 1414 = .ok (.i2l, 1) := by decide +kernel
theorem dL_law_1415 : decode cL_law 1415 = .ok (.lcmp, 1) := by decide +kernel
theorem dL_law_1416 : decode cL_law 1416 = .ok (.ifCond .eq 5, 3) := by decide +kernel
theorem dL_law_1419 : decode cL_law 1419 = .ok (.iconst 0, 1) := by decide +kernel
theorem dL_law_1420 : decode cL_law 1420 = .ok (.ireturn, 1) := by decide +kernel
theorem dL_law_1421 : decode cL_law 1421 = .ok (.goto 71, 3) := by decide +kernel
theorem dL_law_1424 : decode cL_law 1424 = .ok (.aload_n 1, 1) := by decide +kernel
theorem dL_law_1425 : decode cL_law 1425 = .ok (.aload_n 0, 1) := by decide +kernel
theorem dL_law_1426 : decode cL_law 1426 = .ok (.iload 4, 2) := by decide +kernel
theorem dL_law_1428 : decode cL_law 1428 = .ok (.iconst 1, 1) := by decide +kernel
theorem dL_law_1429 : decode cL_law 1429 = .ok (.iadd, 1) := by decide +kernel
theorem dL_law_1430 : decode cL_law 1430 = .ok (.iaload, 1) := by decide +kernel
theorem dL_law_1431 : decode cL_law 1431 = .ok (.aload_n 0, 1) := by decide +kernel
theorem dL_law_1432 : decode cL_law 1432 = .ok (.iload 4, 2) := by decide +kernel
theorem dL_law_1434 : decode cL_law 1434 = .ok (.iconst 2, 1) := by decide +kernel
theorem dL_law_1435 : decode cL_law 1435 = .ok (.iadd, 1) := by decide +kernel
theorem dL_law_1436 : decode cL_law 1436 = .ok (.iaload, 1) := by decide +kernel
theorem dL_law_1437 : decode cL_law 1437 = .ok (.aload_n 3, 1) := by decide +kernel
theorem dL_law_1438 : decode cL_law 1438 = .ok (.invokestatic 154, 3) := by decide +kernel
theorem dL_law_1441 : decode cL_law 1441 = .ok (.istore 5, 2) := by decide +kernel
theorem dL_law_1443 : decode cL_law 1443 = .ok (.aload_n 2, 1) := by decide +kernel
theorem dL_law_1444 : decode cL_law 1444 = .ok (.aload_n 0, 1) := by decide +kernel
theorem dL_law_1445 : decode cL_law 1445 = .ok (.iload 4, 2) := by decide +kernel
theorem dL_law_1447 : decode cL_law 1447 = .ok (.iconst 1, 1) := by decide +kernel
theorem dL_law_1448 : decode cL_law 1448 = .ok (.iadd, 1) := by decide +kernel
theorem dL_law_1449 : decode cL_law 1449 = .ok (.iaload, 1) := by decide +kernel
theorem dL_law_1450 : decode cL_law 1450 = .ok (.aload_n 0, 1) := by decide +kernel
theorem dL_law_1451 : decode cL_law 1451 = .ok (.iload 4, 2) := by decide +kernel
theorem dL_law_1453 : decode cL_law 1453 = .ok (.iconst 2, 1) := by decide +kernel
theorem dL_law_1454 : decode cL_law 1454 = .ok (.iadd, 1) := by decide +kernel
theorem dL_law_1455 : decode cL_law 1455 = .ok (.iaload, 1) := by decide +kernel
theorem dL_law_1456 : decode cL_law 1456 = .ok (.invokevirtual 156, 3) := by decide +kernel
theorem dL_law_1459 : decode cL_law 1459 = .ok (.istore 6, 2) := by decide +kernel
theorem dL_law_1461 : decode cL_law 1461 = .ok (.aload_n 2, 1) := by decide +kernel
theorem dL_law_1462 : decode cL_law 1462 = .ok (.invokevirtual 90, 3) := by decide +kernel
theorem dL_law_1465 : decode cL_law 1465 = .ok (.iload 5, 2) := by decide +kernel
theorem dL_law_1467 : decode cL_law 1467 = .ok (.if_icmp .eq 5, 3) := by decide +kernel
theorem dL_law_1470 : decode cL_law 1470 = .ok (.iconst 0, 1) := by decide +kernel
theorem dL_law_1471 : decode cL_law 1471 = .ok (.ireturn, 1) := by decide +kernel
theorem dL_law_1472 : decode cL_law 1472 = .ok (.iload 5, 2) := by decide +kernel
theorem dL_law_1474 : decode cL_law 1474 = .ok (.ifCond .ne 15, 3) := by decide +kernel
theorem dL_law_1477 : decode cL_law 1477 = .ok (.aload_n 3, 1) := by decide +kernel
theorem dL_law_1478 : decode cL_law 1478 = .ok (.iconst 0, 1) := by decide +kernel
theorem dL_law_1479 : decode cL_law 1479 = .ok (.laload, 1) := by decide +kernel
theorem dL_law_1480 : decode cL_law 1480 = .ok (.iload 6, 2) := by decide +kernel
theorem dL_law_1482 : decode cL_law 1482 = .ok (.i2l, 1) := by decide +kernel
theorem dL_law_1483 : decode cL_law 1483 = .ok (.lcmp, 1) := by decide +kernel
theorem dL_law_1484 : decode cL_law 1484 = .ok (.ifCond .eq 5, 3) := by decide +kernel
theorem dL_law_1487 : decode cL_law 1487 = .ok (.iconst 0, 1) := by decide +kernel
theorem dL_law_1488 : decode cL_law 1488 = .ok (.ireturn, 1) := by decide +kernel
theorem dL_law_1489 : decode cL_law 1489 = .ok (.goto 3, 3) := by decide +kernel
theorem dL_law_1492 : decode cL_law 1492 = .ok (.iinc 4 4, 3) := by decide +kernel
theorem dL_law_1495 : decode cL_law 1495 = .ok (.goto (-1472), 3) := by decide +kernel
theorem dL_law_1498 : decode cL_law 1498 = .ok (.iconst 1, 1) := by decide +kernel
theorem dL_law_1499 : decode cL_law 1499 = .ok (.ireturn, 1) := by decide +kernel
end
section
/-! my own rows: the surroundings of every method (hkE), the forms of contracts, calls, arrays -/
abbrev hkT (ct : Nat → ClassId) : List (ClassId × FieldType) := [(ct 0, .int), (ct 1, .object RX1), (ct 2, .object RX0), (ct 3, .long)]
def hkN : List Cond := [.methodLinkNest RX2 32 yX1_init RX2, .methodLinkNest RX1 37 yX2_put RX2, .methodLinkNest RX2 56 yX1_savedBy RX2, .methodLinkNest RX1 66 yX2_textTime RX2, .methodLinkNest RX2 60 yX1_exchange RX2, .methodLinkNest RX1 41 yX2_at RX2, .methodLinkNest RX2 80 yX1_type RX2, .methodLinkNest RX1 45 yX2_count RX2, .methodLinkNest RX1 49 yX2_pairPlace RX2, .methodLinkNest RX2 90 yX1_slipsOf RX2, .methodLinkNest RX1 63 yX2_groupOf RX2, .methodLinkNest RX2 113 yX1_timeWith RX2, .methodLinkNest RX2 116 yX1_timeByCounts RX2, .methodLinkNest RX1 78 yX2_stepTime RX2, .methodLinkNest RX2 122 yX1_slippingLetter RX2, .methodLinkNest RX2 125 yX1_bestExchange RX2, .methodLinkNest RX2 193 yX0_init RX2, .methodLinkNest RX2 156 yX0_hasResult RX2, .methodLinkNest RX0 21 yX2_at RX2, .methodLinkNest RX2 170 yX0_told RX2, .methodLinkNest RX2 175 yX0_holderOf RX2, .fieldLinkNest RX2 67 "Homekeys$Student" "keys" "[I" RX2, .fieldLinkNest RX2 77 "Homekeys$Student" "letters" "[I" RX2, .fieldLinkNest RX2 49 "Homekeys$Student" "way" "I" RX2, .fieldLinkNest RX2 93 "Homekeys$Student" "pairSlips" "[I" RX2, .fieldLinkNest RX2 110 "Homekeys$Student" "typed" "[I" RX2, .fieldLinkNest RX2 107 "Homekeys$Student" "kept" "I" RX2, .fieldLinkNest RX2 99 "Homekeys$Student" "presses" "I" RX2, .fieldLinkNest RX2 182 "Homekeys$Contest" "times" "[I" RX2, .fieldLinkNest RX2 162 "Homekeys$Contest" "ticks" "[I" RX2, .fieldLinkNest RX2 165 "Homekeys$Contest" "scores" "[I" RX2, .castable "java/lang/IllegalStateException" "java/lang/IllegalStateException", .castable "java/lang/IndexOutOfBoundsException" "java/lang/IndexOutOfBoundsException", .castable "java/lang/IllegalArgumentException" "java/lang/IllegalArgumentException"]
def hkWarm (w : Cond) : Prop := w.onTables = true ∧ ∀ s U : State, s.WarmedH U.vm → va_Nw w s → va_Nw w U
theorem hkN_w0 : hkWarm (.methodLinkNest RX2 32 yX1_init RX2) := ⟨rfl, fun _ _ hW h => va_Nw.warmM hW h⟩
theorem hkN_w1 : hkWarm (.methodLinkNest RX1 37 yX2_put RX2) := ⟨rfl, fun _ _ hW h => va_Nw.warmM hW h⟩
theorem hkN_w2 : hkWarm (.methodLinkNest RX2 56 yX1_savedBy RX2) := ⟨rfl, fun _ _ hW h => va_Nw.warmM hW h⟩
theorem hkN_w3 : hkWarm (.methodLinkNest RX1 66 yX2_textTime RX2) := ⟨rfl, fun _ _ hW h => va_Nw.warmM hW h⟩
theorem hkN_w4 : hkWarm (.methodLinkNest RX2 60 yX1_exchange RX2) := ⟨rfl, fun _ _ hW h => va_Nw.warmM hW h⟩
theorem hkN_w5 : hkWarm (.methodLinkNest RX1 41 yX2_at RX2) := ⟨rfl, fun _ _ hW h => va_Nw.warmM hW h⟩
theorem hkN_w6 : hkWarm (.methodLinkNest RX2 80 yX1_type RX2) := ⟨rfl, fun _ _ hW h => va_Nw.warmM hW h⟩
theorem hkN_w7 : hkWarm (.methodLinkNest RX1 45 yX2_count RX2) := ⟨rfl, fun _ _ hW h => va_Nw.warmM hW h⟩
theorem hkN_w8 : hkWarm (.methodLinkNest RX1 49 yX2_pairPlace RX2) := ⟨rfl, fun _ _ hW h => va_Nw.warmM hW h⟩
theorem hkN_w9 : hkWarm (.methodLinkNest RX2 90 yX1_slipsOf RX2) := ⟨rfl, fun _ _ hW h => va_Nw.warmM hW h⟩
theorem hkN_w10 : hkWarm (.methodLinkNest RX1 63 yX2_groupOf RX2) := ⟨rfl, fun _ _ hW h => va_Nw.warmM hW h⟩
theorem hkN_w11 : hkWarm (.methodLinkNest RX2 113 yX1_timeWith RX2) := ⟨rfl, fun _ _ hW h => va_Nw.warmM hW h⟩
theorem hkN_w12 : hkWarm (.methodLinkNest RX2 116 yX1_timeByCounts RX2) := ⟨rfl, fun _ _ hW h => va_Nw.warmM hW h⟩
theorem hkN_w13 : hkWarm (.methodLinkNest RX1 78 yX2_stepTime RX2) := ⟨rfl, fun _ _ hW h => va_Nw.warmM hW h⟩
theorem hkN_w14 : hkWarm (.methodLinkNest RX2 122 yX1_slippingLetter RX2) := ⟨rfl, fun _ _ hW h => va_Nw.warmM hW h⟩
theorem hkN_w15 : hkWarm (.methodLinkNest RX2 125 yX1_bestExchange RX2) := ⟨rfl, fun _ _ hW h => va_Nw.warmM hW h⟩
theorem hkN_w16 : hkWarm (.methodLinkNest RX2 193 yX0_init RX2) := ⟨rfl, fun _ _ hW h => va_Nw.warmM hW h⟩
theorem hkN_w17 : hkWarm (.methodLinkNest RX2 156 yX0_hasResult RX2) := ⟨rfl, fun _ _ hW h => va_Nw.warmM hW h⟩
theorem hkN_w18 : hkWarm (.methodLinkNest RX0 21 yX2_at RX2) := ⟨rfl, fun _ _ hW h => va_Nw.warmM hW h⟩
theorem hkN_w19 : hkWarm (.methodLinkNest RX2 170 yX0_told RX2) := ⟨rfl, fun _ _ hW h => va_Nw.warmM hW h⟩
theorem hkN_w20 : hkWarm (.methodLinkNest RX2 175 yX0_holderOf RX2) := ⟨rfl, fun _ _ hW h => va_Nw.warmM hW h⟩
theorem hkN_w21 : hkWarm (.fieldLinkNest RX2 67 "Homekeys$Student" "keys" "[I" RX2) := ⟨rfl, fun _ _ hW h => va_Nw.warmF hW h⟩
theorem hkN_w22 : hkWarm (.fieldLinkNest RX2 77 "Homekeys$Student" "letters" "[I" RX2) := ⟨rfl, fun _ _ hW h => va_Nw.warmF hW h⟩
theorem hkN_w23 : hkWarm (.fieldLinkNest RX2 49 "Homekeys$Student" "way" "I" RX2) := ⟨rfl, fun _ _ hW h => va_Nw.warmF hW h⟩
theorem hkN_w24 : hkWarm (.fieldLinkNest RX2 93 "Homekeys$Student" "pairSlips" "[I" RX2) := ⟨rfl, fun _ _ hW h => va_Nw.warmF hW h⟩
theorem hkN_w25 : hkWarm (.fieldLinkNest RX2 110 "Homekeys$Student" "typed" "[I" RX2) := ⟨rfl, fun _ _ hW h => va_Nw.warmF hW h⟩
theorem hkN_w26 : hkWarm (.fieldLinkNest RX2 107 "Homekeys$Student" "kept" "I" RX2) := ⟨rfl, fun _ _ hW h => va_Nw.warmF hW h⟩
theorem hkN_w27 : hkWarm (.fieldLinkNest RX2 99 "Homekeys$Student" "presses" "I" RX2) := ⟨rfl, fun _ _ hW h => va_Nw.warmF hW h⟩
theorem hkN_w28 : hkWarm (.fieldLinkNest RX2 182 "Homekeys$Contest" "times" "[I" RX2) := ⟨rfl, fun _ _ hW h => va_Nw.warmF hW h⟩
theorem hkN_w29 : hkWarm (.fieldLinkNest RX2 162 "Homekeys$Contest" "ticks" "[I" RX2) := ⟨rfl, fun _ _ hW h => va_Nw.warmF hW h⟩
theorem hkN_w30 : hkWarm (.fieldLinkNest RX2 165 "Homekeys$Contest" "scores" "[I" RX2) := ⟨rfl, fun _ _ hW h => va_Nw.warmF hW h⟩
theorem hkN_w31 : hkWarm (.castable "java/lang/IllegalStateException" "java/lang/IllegalStateException") := ⟨rfl, fun _ _ hW h => va_Nw.warmC hW h⟩
theorem hkN_w32 : hkWarm (.castable "java/lang/IndexOutOfBoundsException" "java/lang/IndexOutOfBoundsException") := ⟨rfl, fun _ _ hW h => va_Nw.warmC hW h⟩
theorem hkN_w33 : hkWarm (.castable "java/lang/IllegalArgumentException" "java/lang/IllegalArgumentException") := ⟨rfl, fun _ _ hW h => va_Nw.warmC hW h⟩
theorem hkN_warm : ∀ w ∈ hkN, hkWarm w := by
  intro w hw
  simp only [hkN, List.mem_cons, List.not_mem_nil, or_false] at hw
  rcases hw with rfl | rfl | rfl | rfl | rfl | rfl | rfl | rfl | rfl | rfl | rfl | rfl | rfl | rfl | rfl | rfl | rfl | rfl | rfl | rfl | rfl | rfl | rfl | rfl | rfl | rfl | rfl | rfl | rfl | rfl | rfl | rfl | rfl | rfl
  · exact hkN_w0
  · exact hkN_w1
  · exact hkN_w2
  · exact hkN_w3
  · exact hkN_w4
  · exact hkN_w5
  · exact hkN_w6
  · exact hkN_w7
  · exact hkN_w8
  · exact hkN_w9
  · exact hkN_w10
  · exact hkN_w11
  · exact hkN_w12
  · exact hkN_w13
  · exact hkN_w14
  · exact hkN_w15
  · exact hkN_w16
  · exact hkN_w17
  · exact hkN_w18
  · exact hkN_w19
  · exact hkN_w20
  · exact hkN_w21
  · exact hkN_w22
  · exact hkN_w23
  · exact hkN_w24
  · exact hkN_w25
  · exact hkN_w26
  · exact hkN_w27
  · exact hkN_w28
  · exact hkN_w29
  · exact hkN_w30
  · exact hkN_w31
  · exact hkN_w32
  · exact hkN_w33
theorem hkN_X2_32 : (.methodLinkNest RX2 32 yX1_init RX2 : Cond) ∈ hkN := List.mem_of_getElem? (i := 0) rfl
theorem hkN_X1_37 : (.methodLinkNest RX1 37 yX2_put RX2 : Cond) ∈ hkN := List.mem_of_getElem? (i := 1) rfl
theorem hkN_X2_56 : (.methodLinkNest RX2 56 yX1_savedBy RX2 : Cond) ∈ hkN := List.mem_of_getElem? (i := 2) rfl
theorem hkN_X1_66 : (.methodLinkNest RX1 66 yX2_textTime RX2 : Cond) ∈ hkN := List.mem_of_getElem? (i := 3) rfl
theorem hkN_X2_60 : (.methodLinkNest RX2 60 yX1_exchange RX2 : Cond) ∈ hkN := List.mem_of_getElem? (i := 4) rfl
theorem hkN_X1_41 : (.methodLinkNest RX1 41 yX2_at RX2 : Cond) ∈ hkN := List.mem_of_getElem? (i := 5) rfl
theorem hkN_X2_80 : (.methodLinkNest RX2 80 yX1_type RX2 : Cond) ∈ hkN := List.mem_of_getElem? (i := 6) rfl
theorem hkN_X1_45 : (.methodLinkNest RX1 45 yX2_count RX2 : Cond) ∈ hkN := List.mem_of_getElem? (i := 7) rfl
theorem hkN_X1_49 : (.methodLinkNest RX1 49 yX2_pairPlace RX2 : Cond) ∈ hkN := List.mem_of_getElem? (i := 8) rfl
theorem hkN_X2_90 : (.methodLinkNest RX2 90 yX1_slipsOf RX2 : Cond) ∈ hkN := List.mem_of_getElem? (i := 9) rfl
theorem hkN_X1_63 : (.methodLinkNest RX1 63 yX2_groupOf RX2 : Cond) ∈ hkN := List.mem_of_getElem? (i := 10) rfl
theorem hkN_X2_113 : (.methodLinkNest RX2 113 yX1_timeWith RX2 : Cond) ∈ hkN := List.mem_of_getElem? (i := 11) rfl
theorem hkN_X2_116 : (.methodLinkNest RX2 116 yX1_timeByCounts RX2 : Cond) ∈ hkN := List.mem_of_getElem? (i := 12) rfl
theorem hkN_X1_78 : (.methodLinkNest RX1 78 yX2_stepTime RX2 : Cond) ∈ hkN := List.mem_of_getElem? (i := 13) rfl
theorem hkN_X2_122 : (.methodLinkNest RX2 122 yX1_slippingLetter RX2 : Cond) ∈ hkN := List.mem_of_getElem? (i := 14) rfl
theorem hkN_X2_125 : (.methodLinkNest RX2 125 yX1_bestExchange RX2 : Cond) ∈ hkN := List.mem_of_getElem? (i := 15) rfl
theorem hkN_X2_193 : (.methodLinkNest RX2 193 yX0_init RX2 : Cond) ∈ hkN := List.mem_of_getElem? (i := 16) rfl
theorem hkN_X2_156 : (.methodLinkNest RX2 156 yX0_hasResult RX2 : Cond) ∈ hkN := List.mem_of_getElem? (i := 17) rfl
theorem hkN_X0_21 : (.methodLinkNest RX0 21 yX2_at RX2 : Cond) ∈ hkN := List.mem_of_getElem? (i := 18) rfl
theorem hkN_X2_170 : (.methodLinkNest RX2 170 yX0_told RX2 : Cond) ∈ hkN := List.mem_of_getElem? (i := 19) rfl
theorem hkN_X2_175 : (.methodLinkNest RX2 175 yX0_holderOf RX2 : Cond) ∈ hkN := List.mem_of_getElem? (i := 20) rfl
theorem hkN_X2_67 : (.fieldLinkNest RX2 67 "Homekeys$Student" "keys" "[I" RX2 : Cond) ∈ hkN := List.mem_of_getElem? (i := 21) rfl
theorem hkN_X2_77 : (.fieldLinkNest RX2 77 "Homekeys$Student" "letters" "[I" RX2 : Cond) ∈ hkN := List.mem_of_getElem? (i := 22) rfl
theorem hkN_X2_49 : (.fieldLinkNest RX2 49 "Homekeys$Student" "way" "I" RX2 : Cond) ∈ hkN := List.mem_of_getElem? (i := 23) rfl
theorem hkN_X2_93 : (.fieldLinkNest RX2 93 "Homekeys$Student" "pairSlips" "[I" RX2 : Cond) ∈ hkN := List.mem_of_getElem? (i := 24) rfl
theorem hkN_X2_110 : (.fieldLinkNest RX2 110 "Homekeys$Student" "typed" "[I" RX2 : Cond) ∈ hkN := List.mem_of_getElem? (i := 25) rfl
theorem hkN_X2_107 : (.fieldLinkNest RX2 107 "Homekeys$Student" "kept" "I" RX2 : Cond) ∈ hkN := List.mem_of_getElem? (i := 26) rfl
theorem hkN_X2_99 : (.fieldLinkNest RX2 99 "Homekeys$Student" "presses" "I" RX2 : Cond) ∈ hkN := List.mem_of_getElem? (i := 27) rfl
theorem hkN_X2_182 : (.fieldLinkNest RX2 182 "Homekeys$Contest" "times" "[I" RX2 : Cond) ∈ hkN := List.mem_of_getElem? (i := 28) rfl
theorem hkN_X2_162 : (.fieldLinkNest RX2 162 "Homekeys$Contest" "ticks" "[I" RX2 : Cond) ∈ hkN := List.mem_of_getElem? (i := 29) rfl
theorem hkN_X2_165 : (.fieldLinkNest RX2 165 "Homekeys$Contest" "scores" "[I" RX2 : Cond) ∈ hkN := List.mem_of_getElem? (i := 30) rfl
theorem hkN_c0 : (.castable "java/lang/IllegalStateException" "java/lang/IllegalStateException" : Cond) ∈ hkN := List.mem_of_getElem? (i := 31) rfl
theorem hkN_c1 : (.castable "java/lang/IndexOutOfBoundsException" "java/lang/IndexOutOfBoundsException" : Cond) ∈ hkN := List.mem_of_getElem? (i := 32) rfl
theorem hkN_c2 : (.castable "java/lang/IllegalArgumentException" "java/lang/IllegalArgumentException" : Cond) ∈ hkN := List.mem_of_getElem? (i := 33) rfl
def hkS : List (String × Nat × String × Nat) := [(RX2, 35, "there are 5 students", 0), (RX2, 178, "no such student", 1), (RX2, 46, "way is out of range", 2), (RX2, 189, "no such key", 3), (RX2, 191, "both keys are the same", 4), (RX2, 187, "no such letter", 5), (RX2, 88, "what or which is out of range", 6), (RX2, 104, "place is below 0", 7), (RX2, 120, "no such place", 8), (RX2, 129, "the draft has 24 letters", 9), (RX2, 135, "the draft is empty", 10), (RX2, 137, "there are no students", 11), (RX2, 143, "there were 6 contests", 12), (RX2, 180, "no such contest", 13), (RX2, 185, "no such student of the contest", 14), (RX2, 154, "ticks is out of range", 15), (RX2, 160, "it has a result", 16), (RX2, 168, "what is out of range", 17), (RX2, 173, "rank is below 0", 18)]
def hkC : List (String × String) := [("java/lang/IllegalStateException", "java/lang/IndexOutOfBoundsException"), ("java/lang/IllegalStateException", "java/lang/IllegalArgumentException"), ("java/lang/IndexOutOfBoundsException", "java/lang/IllegalStateException"), ("java/lang/IndexOutOfBoundsException", "java/lang/IllegalArgumentException"), ("java/lang/IllegalArgumentException", "java/lang/IllegalStateException"), ("java/lang/IllegalArgumentException", "java/lang/IndexOutOfBoundsException")]
/-- what a method may know of the machine besides its own words: classes, arrays, private members of nest mates, texts, classes that don't catch -/
def hkE (D : va_G) (ct : Nat → ClassId) (sa : Nat → Nat) (U : State) : Prop :=
  va_K D vwCl (hkT ct) U ∧ (∀ w ∈ hkN, va_Nw w U) ∧ (∀ q ∈ hkS, vk_R q.1 q.2.1 q.2.2.1 (sa q.2.2.2) U) ∧ (∀ q ∈ hkC, va_Nc q.1 q.2 U) ∧ va_AO RX1 U ∧ va_AO RX0 U
theorem hkE.warm {D : va_G} {ct : Nat → ClassId} {sa : Nat → Nat} {s U : State} (hW : s.WarmedH U.vm) (h : hkE D ct sa s) : hkE D ct sa U :=
  ⟨va_K.moved hW.alike h.1, fun w hw => (hkN_warm w hw).2 s U hW (h.2.1 w hw), fun q hq => vk_R.warm hW (h.2.2.1 q hq), fun q hq => va_Nc.moved hW.alike (h.2.2.2.1 q hq), va_AO.moved hW.alike h.2.2.2.2.1, va_AO.moved hW.alike h.2.2.2.2.2⟩
theorem hkE.same {D : va_G} {ct : Nat → ClassId} {sa : Nat → Nat} {s U : State} (hv : s.vm = U.vm) (h : hkE D ct sa s) : hkE D ct sa U :=
  ⟨va_K.moved (by rw [← hv]; exact Vm.Alike.refl _) h.1, fun w hw => va_Nw.same (hkN_warm w hw).1 hv (h.2.1 w hw), fun q hq => vk_R.same hv.symm (h.2.2.1 q hq), fun q hq => va_Nc.moved (by rw [← hv]; exact Vm.Alike.refl _) (h.2.2.2.1 q hq), va_AO.moved (by rw [← hv]; exact Vm.Alike.refl _) h.2.2.2.2.1, va_AO.moved (by rw [← hv]; exact Vm.Alike.refl _) h.2.2.2.2.2⟩
theorem hkE.nw {D : va_G} {ct : Nat → ClassId} {sa : Nat → Nat} {s : State} {w : Cond} (h : hkE D ct sa s) (hw : w ∈ hkN) : va_Nw w s := h.2.1 w hw
theorem hkE.use {D : va_G} {ct : Nat → ClassId} {sa : Nat → Nat} {s : State} {w : Cond} {A : Array Value} (h : hkE D ct sa s) (hw : w ∈ hkN) : w.before A s = true := va_Nw.use (hkN_warm w hw).1 (h.2.1 w hw)
/-- the statics of Throwable, below all that the law makes -/
def hkH (G0 : Nat) (U : State) (H : Heap) : Prop := G0 ≤ H.size ∧ vx_Zq Bundle.tN "UNASSIGNED_STACK" Bundle.steD (fun q => G0 ≤ q) U H ∧ vx_Zq Bundle.tN "SUPPRESSED_SENTINEL" Bundle.listD (fun q => G0 ≤ q) U H
theorem hkH.moved {G0 : Nat} {u U : State} {H : Heap} (hvm : u.vm.Alike U.vm) (h : hkH G0 u H) : hkH G0 U H := ⟨h.1, vx_Zq.moved hvm h.2.1, vx_Zq.moved hvm h.2.2⟩
theorem hkH.kept {G0 : Nat} {U : State} {H H1 : Heap} (h : hkH G0 U H) (hz : H.size ≤ H1.size) (hk : ∀ q : Nat, q < H.size → ¬ G0 ≤ q → H1[q]? = H[q]?) : hkH G0 U H1 := ⟨Nat.le_trans h.1 hz, vx_Zq.kept h.2.1 hk, vx_Zq.kept h.2.2 hk⟩
/-- how a method begins -/
def hkPc (D : va_G) (ct : Nat → ClassId) (sa : Nat → Nat) (As : List Value) (P : Heap → Prop) : Array Value → State → Prop := va_Pc As (fun U => hkE D ct sa U ∧ P U.heap)
def hkPx (D : va_G) (ct : Nat → ClassId) (sa : Nat → Nat) (G0 : Nat) (As : List Value) (P : Heap → Prop) : Array Value → State → Prop := va_Pc As (fun U => hkE D ct sa U ∧ hkH G0 U U.heap ∧ P U.heap)
theorem hk_preS {D : va_G} {ct : Nat → ClassId} {sa : Nat → Nat} {s : State} {H : Heap} {As : List Value} {P : Heap → Prop} (hE : hkE D ct sa s) (hp : P H) : PreS s H (hkPc D ct sa As P) As :=
  ⟨fun a U g mk q => ⟨q.1, hkE.same (s := U) (U := U.calling g mk a) rfl q.2.1, q.2.2⟩, fun U hU hW => ⟨rfl, hE.warm hW, by rw [hU]; exact hp⟩⟩
theorem hk_preV {D : va_G} {ct : Nat → ClassId} {sa : Nat → Nat} {s : State} {H : Heap} {As : List Value} {P : Heap → Prop} {C : String} {b : Nat} (hE : hkE D ct sa s) (hr : ∃ cell : Cell, H[b]? = some cell ∧ cell.vm.isStatics = false ∧ s.vm.findClass C = some cell.cls) (hp : P H) : PreV s H C b (hkPc D ct sa (.ref b :: As) P) As :=
  ⟨fun a U g mk q => ⟨q.1, hkE.same (s := U) (U := U.calling g mk a) rfl q.2.1, q.2.2⟩, hr, fun U hU hW => ⟨rfl, hE.warm hW, by rw [hU]; exact hp⟩⟩
theorem hk_prxS {D : va_G} {ct : Nat → ClassId} {sa : Nat → Nat} {G0 : Nat} {s : State} {H : Heap} {As : List Value} {P : Heap → Prop} (hE : hkE D ct sa s) (hh : hkH G0 s H) (hp : P H) : PreS s H (hkPx D ct sa G0 As P) As :=
  ⟨fun a U g mk q => ⟨q.1, hkE.same (s := U) (U := U.calling g mk a) rfl q.2.1, hkH.moved (u := U) (U := U.calling g mk a) (Vm.Alike.refl U.vm) q.2.2.1, q.2.2.2⟩, fun U hU hW => ⟨rfl, hE.warm hW, by rw [hU]; exact hkH.moved hW.alike hh, by rw [hU]; exact hp⟩⟩
theorem hk_prxV {D : va_G} {ct : Nat → ClassId} {sa : Nat → Nat} {G0 : Nat} {s : State} {H : Heap} {As : List Value} {P : Heap → Prop} {C : String} {b : Nat} (hE : hkE D ct sa s) (hh : hkH G0 s H) (hr : ∃ cell : Cell, H[b]? = some cell ∧ cell.vm.isStatics = false ∧ s.vm.findClass C = some cell.cls) (hp : P H) : PreV s H C b (hkPx D ct sa G0 (.ref b :: As) P) As :=
  ⟨fun a U g mk q => ⟨q.1, hkE.same (s := U) (U := U.calling g mk a) rfl q.2.1, hkH.moved (u := U) (U := U.calling g mk a) (Vm.Alike.refl U.vm) q.2.2.1, q.2.2.2⟩, hr, fun U hU hW => ⟨rfl, hE.warm hW, by rw [hU]; exact hkH.moved hW.alike hh, by rw [hU]; exact hp⟩⟩
/-- how a method ends that changes cells at the addresses as alone: the answer, its world, all else as it was -/
def hkF (as : List Nat) (H H1 : Heap) : Prop := H.size ≤ H1.size ∧ ∀ q : Nat, q < H.size → q ∉ as → H1[q]? = H[q]?
def hkA (as : List Nat) : Nat → Prop := fun q => q ∈ as
def hkQ (v : Option Value) (D : va_G) (w1 : va_W) (as : List Nat) : Array Value → State → Outcome → State → Prop := fun _ st o t => o = .returned v ∧ va_P D vwCl w1 t.heap ∧ hkF as st.heap t.heap
/-- an exception: its class, and nothing old has changed -/
def hkXC (ok : String → Prop) : String → State → State → Prop := fun E st t => ok E ∧ hkF [] st.heap t.heap
def hkSet (ws : va_W) (ps : List Nat) (w1 : va_W) : va_W := (ps.zip w1).foldl (fun acc z => acc.set z.1 z.2) ws
theorem hk_set_adr : ∀ (zs : List (Nat × (Nat × va_E))) (ws : va_W), (∀ z ∈ zs, ∃ e, ws[z.1]? = some (z.2.1, e)) → ∀ (i : Nat) (q : Nat × va_E), (zs.foldl (fun acc z => acc.set z.1 z.2) ws)[i]? = some q → (∃ e, ws[i]? = some (q.1, e)) ∧ ((i, q) ∈ zs ∨ ((∀ z ∈ zs, z.1 ≠ i) ∧ ws[i]? = some q)) := by
  intro zs
  induction zs with
  | nil => intro ws _ i q h; exact ⟨⟨q.2, h⟩, Or.inr ⟨fun z hz => (nomatch hz), h⟩⟩
  | cons z zs ih =>
    intro ws hh i q h
    obtain ⟨e0, h0⟩ := hh z List.mem_cons_self
    have hl := (List.getElem?_eq_some_iff.mp h0).1
    have hs : ∀ (j : Nat) (y : Nat × va_E), (ws.set z.1 z.2)[j]? = some y → ∃ e, ws[j]? = some (y.1, e) := by
      intro j y hy
      by_cases hj : j = z.1
      · subst hj
        rw [List.getElem?_set_self hl] at hy
        cases hy
        exact ⟨e0, h0⟩
      · rw [List.getElem?_set_ne (Ne.symm hj)] at hy
        exact ⟨y.2, hy⟩
    have hh2 : ∀ y ∈ zs, ∃ e, (ws.set z.1 z.2)[y.1]? = some (y.2.1, e) := by
      intro y hy
      obtain ⟨e2, h3⟩ := hh y (List.mem_cons_of_mem _ hy)
      by_cases hj : y.1 = z.1
      · rw [hj] at h3
        have h6 : (z.2.1, e0) = (y.2.1, e2) := Option.some.inj (h0.symm.trans h3)
        have h7 := congrArg Prod.fst h6
        have h5 : z.2.1 = y.2.1 := h7
        exact ⟨z.2.2, by rw [hj, List.getElem?_set_self hl, ← h5]⟩
      · exact ⟨e2, by rw [List.getElem?_set_ne (Ne.symm hj)]; exact h3⟩
    obtain ⟨⟨e, h1⟩, h2⟩ := ih (ws.set z.1 z.2) hh2 i q h
    refine ⟨hs i (q.1, e) h1, ?_⟩
    rcases h2 with h3 | ⟨h3, h4⟩
    · exact Or.inl (List.mem_cons_of_mem _ h3)
    · by_cases hj : i = z.1
      · subst hj
        rw [List.getElem?_set_self hl] at h4
        cases h4
        exact Or.inl List.mem_cons_self
      · rw [List.getElem?_set_ne (Ne.symm hj)] at h4
        refine Or.inr ⟨fun y hy => ?_, h4⟩
        rcases List.mem_cons.mp hy with rfl | hy
        · exact Ne.symm hj
        · exact h3 y hy
theorem hk_zip {α β : Type} : ∀ (a : List α) (b : List β) (k : Nat) (x : α) (y : β), a[k]? = some x → b[k]? = some y → (x, y) ∈ a.zip b
  | [], _, k, x, y, h, _ => by simp at h
  | _ :: _, [], k, x, y, _, h => by simp at h
  | a :: as, b :: bs, 0, x, y, h1, h2 => by
    rw [List.getElem?_cons_zero] at h1 h2
    cases h1; cases h2
    exact List.mem_cons_self
  | a :: as, b :: bs, k + 1, x, y, h1, h2 => by
    rw [List.getElem?_cons_succ] at h1 h2
    exact List.mem_cons_of_mem _ (hk_zip as bs k x y h1 h2)
theorem hk_unzip {α β : Type} : ∀ (a : List α) (b : List β) (x : α) (y : β), (x, y) ∈ a.zip b → ∃ k : Nat, a[k]? = some x ∧ b[k]? = some y
  | [], _, x, y, h => by simp at h
  | _ :: _, [], x, y, h => by simp at h
  | a :: as, b :: bs, x, y, h => by
    rw [List.zip_cons_cons] at h
    rcases List.mem_cons.mp h with h | h
    · cases h
      exact ⟨0, rfl, rfl⟩
    · obtain ⟨k, h1, h2⟩ := hk_unzip as bs x y h
      exact ⟨k + 1, h1, h2⟩
theorem hk_map_get {ps : List Nat} {ws wc : va_W} (hC : ps.map (fun i => ws[i]?) = wc.map some) {k : Nat} {c : Nat × va_E} (h : wc[k]? = some c) : ∃ p, ps[k]? = some p ∧ ws[p]? = some c := by
  have h1 : (ps.map (fun i => ws[i]?))[k]? = some (some c) := by rw [hC, List.getElem?_map, h]; rfl
  rw [List.getElem?_map] at h1
  cases hi : ps[k]? with
  | none => rw [hi] at h1; cases h1
  | some i => rw [hi] at h1; exact ⟨i, rfl, Option.some.inj h1⟩
/-- behind a call: the callee's cells in their old places, the rest as it was -/
theorem hk_join {A0 : Nat → Prop} {D : va_G} {ws wc w1 : va_W} {as : List Nat} {H H1 : Heap} (hP : va_P D vwCl ws H) (hD : va_D A0 ws) (ps : List Nat) (hC : ps.map (fun i => ws[i]?) = wc.map some) (has : wc.map (fun q => q.1) = as) (h1 : w1.map (fun q => q.1) = as)
    (hF : hkF as H H1) (hP1 : va_P D vwCl w1 H1) : va_P D vwCl (hkSet ws ps w1) H1 ∧ va_D A0 (hkSet ws ps w1) := by
  have adr : ∀ (k : Nat) (c : Nat × va_E), w1[k]? = some c → ∃ p e, ps[k]? = some p ∧ ws[p]? = some (c.1, e) := by
    intro k c hc
    have h2 : as[k]? = some c.1 := by rw [← h1, List.getElem?_map, hc]; rfl
    rw [← has, List.getElem?_map] at h2
    cases hk : wc[k]? with
    | none => rw [hk] at h2; cases h2
    | some z =>
      rw [hk] at h2
      obtain ⟨p, h3, h4⟩ := hk_map_get hC hk
      have h5 : z.1 = c.1 := Option.some.inj h2
      exact ⟨p, z.2, h3, by rw [h4, ← h5]⟩
  have hh : ∀ z ∈ ps.zip w1, ∃ e, ws[z.1]? = some (z.2.1, e) := by
    intro z hz
    obtain ⟨k, h2, h3⟩ := hk_unzip ps w1 z.1 z.2 hz
    obtain ⟨p2, e, h4, h5⟩ := adr k z.2 h3
    have h6 : p2 = z.1 := Option.some.inj (h4.symm.trans h2)
    exact ⟨e, by rw [← h6]; exact h5⟩
  have key := hk_set_adr (ps.zip w1) ws hh
  refine ⟨fun i q hq => ?_, ⟨fun i j x y hx hy hxy => ?_, fun i q hq => ?_⟩⟩
  · obtain ⟨⟨e, h2⟩, h3⟩ := key i q hq
    rcases h3 with h4 | ⟨h4, h5⟩
    · obtain ⟨k, -, h5⟩ := hk_unzip ps w1 i q h4
      exact hP1 k q h5
    · refine (hP i q h5).kept (hF.2 q.1 (hP i q h5).lt (fun hm => ?_))
      rw [← has] at hm
      obtain ⟨z, hz, hzq⟩ := List.mem_map.mp hm
      obtain ⟨k, hk⟩ := List.getElem?_of_mem hz
      obtain ⟨p, h6, h7⟩ := hk_map_get hC hk
      have hip : i = p := hD.1 i p q z h5 h7 hzq.symm
      subst hip
      have h8 : as[k]? = some z.1 := by rw [← has, List.getElem?_map, hk]; rfl
      rw [← h1, List.getElem?_map] at h8
      cases hw : w1[k]? with
      | none => rw [hw] at h8; cases h8
      | some y => exact h4 _ (hk_zip ps w1 k i y h6 hw) rfl
  · obtain ⟨⟨e1, h2⟩, -⟩ := key i x hx
    obtain ⟨⟨e2, h3⟩, -⟩ := key j y hy
    exact hD.1 i j _ _ h2 h3 hxy
  · obtain ⟨⟨e1, h2⟩, -⟩ := key i q hq
    exact hD.2 i (q.1, e1) h2
end
section
theorem hk_fl {l : Launch} (h : l.flags = flags0) : l.stackTraces = false := by
  unfold Launch.stackTraces
  rw [h]
  decide +kernel
section HKR
variable {p : Program} {l : Launch} {e : Env} {R : Room} {s : State} {m : MethodId} {args : Array Value} {below : List Frame} {meth : Method} {c : Code} {H : Heap} {locs : List Loc} {cells slots : Nat} {Q : State → Prop}
variable {cc : ByteArray} {pc : Nat} {ls : Array Slot} {rest st0 : List Value} {D : va_G} {ct : Nat → ClassId} {sa : Nat → Nat} {ws : va_W} {A : Nat → Prop} {H0 : Heap} {a : Nat}
theorem hk_iald (hx : p.tables.exec = Jvm.exec) (hb : c.code = cc) (hE : hkE D ct sa s) (hP : va_P D vwCl ws H) (q0 : Nat) {n : Nat} {f : Nat → Int32} (ha : ws[q0]? = some (a, .inl (ct 0, n, .inl f))) {j : Nat} (hj : j < n) (hn : n < 2 ^ 31) (hdg : decode cc pc = .ok (.iaload, 1))
    (kk : W p l e R s m args below meth c H locs cells slots Q (F0 m (pc + 1) ls (.int (f j) :: rest))) : W p l e R s m args below meth c H locs cells slots Q (F0 m pc ls (.int (nI j) :: .ref a :: rest)) :=
  va_iald hx hb hE.1 hP q0 0 ha rfl (vp_in_nI hj hn) hdg (by rw [nI_clamp (by omega)]; exact kk)
theorem hk_aald1 (hx : p.tables.exec = Jvm.exec) (hb : c.code = cc) (hE : hkE D ct sa s) (hP : va_P D vwCl ws H) (q0 : Nat) {n : Nat} {f : Nat → Option Nat} (ha : ws[q0]? = some (a, .inl (ct 1, n, .inr (.inr (.inr (.inr f)))))) {j : Nat} (hj : j < n) (hn : n < 2 ^ 31) (hdg : decode cc pc = .ok (.aaload, 1))
    (kk : W p l e R s m args below meth c H locs cells slots Q (F0 m (pc + 1) ls (va_rf (f j) :: rest))) : W p l e R s m args below meth c H locs cells slots Q (F0 m pc ls (.int (nI j) :: .ref a :: rest)) :=
  va_aldq (C := RX1) hx hb hE.1 hP q0 1 ha rfl (vp_in_nI hj hn) hdg (by rw [nI_clamp (by omega)]; exact kk)
theorem hk_aald2 (hx : p.tables.exec = Jvm.exec) (hb : c.code = cc) (hE : hkE D ct sa s) (hP : va_P D vwCl ws H) (q0 : Nat) {n : Nat} {f : Nat → Option Nat} (ha : ws[q0]? = some (a, .inl (ct 2, n, .inr (.inr (.inr (.inr f)))))) {j : Nat} (hj : j < n) (hn : n < 2 ^ 31) (hdg : decode cc pc = .ok (.aaload, 1))
    (kk : W p l e R s m args below meth c H locs cells slots Q (F0 m (pc + 1) ls (va_rf (f j) :: rest))) : W p l e R s m args below meth c H locs cells slots Q (F0 m pc ls (.int (nI j) :: .ref a :: rest)) :=
  va_aldq (C := RX0) hx hb hE.1 hP q0 2 ha rfl (vp_in_nI hj hn) hdg (by rw [nI_clamp (by omega)]; exact kk)
theorem hk_iast (hx : p.tables.exec = Jvm.exec) (hb : c.code = cc) (hE : hkE D ct sa s) (hP : va_P D vwCl ws H) (hD : va_D A ws) (hS : va_S A H0 H locs) (q0 : Nat) {n : Nat} {f : Nat → Int32} (ha : ws[q0]? = some (a, .inl (ct 0, n, .inl f))) {j : Nat} {x : Int32} (hj : j < n) (hn : n < 2 ^ 31) (hdg : decode cc pc = .ok (.iastore, 1))
    (kk : ∀ (H1 : Heap) (locs1 : List Loc), va_P D vwCl (ws.set q0 (a, .inl (ct 0, n, .inl (upd f j x)))) H1 → va_D A (ws.set q0 (a, .inl (ct 0, n, .inl (upd f j x)))) → va_S A H0 H1 locs1 → W p l e R s m args below meth c H1 locs1 cells slots Q (F0 m (pc + 1) ls rest)) : W p l e R s m args below meth c H locs cells slots Q (F0 m pc ls (.int x :: .int (nI j) :: .ref a :: rest)) :=
  va_iast hx hb hE.1 hP hD hS q0 0 ha rfl (vp_in_nI hj hn) hdg (by rw [nI_clamp (by omega)]; exact kk)
theorem hk_alen0 (hx : p.tables.exec = Jvm.exec) (hb : c.code = cc) (hE : hkE D ct sa s) (hP : va_P D vwCl ws H) (q0 : Nat) {n : Nat} {f : Nat → Int32} (ha : ws[q0]? = some (a, .inl (ct 0, n, .inl f))) (hdg : decode cc pc = .ok (.arraylength, 1))
    (kk : W p l e R s m args below meth c H locs cells slots Q (F0 m (pc + 1) ls (.int (nI n) :: rest))) : W p l e R s m args below meth c H locs cells slots Q (F0 m pc ls (.ref a :: rest)) :=
  va_alen hx hb hE.1 hP q0 0 ha rfl (v := nI n) rfl hdg kk
theorem hk_alen1 (hx : p.tables.exec = Jvm.exec) (hb : c.code = cc) (hE : hkE D ct sa s) (hP : va_P D vwCl ws H) (q0 : Nat) {n : Nat} {f : Nat → Option Nat} (ha : ws[q0]? = some (a, .inl (ct 1, n, .inr (.inr (.inr (.inr f)))))) (hdg : decode cc pc = .ok (.arraylength, 1))
    (kk : W p l e R s m args below meth c H locs cells slots Q (F0 m (pc + 1) ls (.int (nI n) :: rest))) : W p l e R s m args below meth c H locs cells slots Q (F0 m pc ls (.ref a :: rest)) :=
  va_alen hx hb hE.1 hP q0 1 ha rfl (v := nI n) rfl hdg kk
theorem hk_alen2 (hx : p.tables.exec = Jvm.exec) (hb : c.code = cc) (hE : hkE D ct sa s) (hP : va_P D vwCl ws H) (q0 : Nat) {n : Nat} {f : Nat → Option Nat} (ha : ws[q0]? = some (a, .inl (ct 2, n, .inr (.inr (.inr (.inr f)))))) (hdg : decode cc pc = .ok (.arraylength, 1))
    (kk : W p l e R s m args below meth c H locs cells slots Q (F0 m (pc + 1) ls (.int (nI n) :: rest))) : W p l e R s m args below meth c H locs cells slots Q (F0 m pc ls (.ref a :: rest)) :=
  va_alen hx hb hE.1 hP q0 2 ha rfl (v := nI n) rfl hdg kk
/-! numbers that are nI of something -/
theorem hk_top {x y : Int32} (h : x = y) (k : W p l e R s m args below meth c H locs cells slots Q (F0 m pc ls (.int y :: rest))) : W p l e R s m args below meth c H locs cells slots Q (F0 m pc ls (.int x :: rest)) := by rw [h]; exact k
theorem hk_addN (hx : p.tables.exec = Jvm.exec) (hb : c.code = cc) {i j : Nat} (hdg : decode cc pc = .ok (.iadd, 1)) (k : W p l e R s m args below meth c H locs cells slots Q (F0 m (pc + 1) ls (.int (nI (i + j)) :: rest))) : W p l e R s m args below meth c H locs cells slots Q (F0 m pc ls (.int (nI j) :: .int (nI i) :: rest)) :=
  lv_iadd hx hb hdg (by rw [nI_add]; exact k)
theorem hk_mulN (hx : p.tables.exec = Jvm.exec) (hb : c.code = cc) {i j : Nat} (hdg : decode cc pc = .ok (.imul, 1)) (k : W p l e R s m args below meth c H locs cells slots Q (F0 m (pc + 1) ls (.int (nI (i * j)) :: rest))) : W p l e R s m args below meth c H locs cells slots Q (F0 m pc ls (.int (nI j) :: .int (nI i) :: rest)) :=
  lv_imul hx hb hdg (by rw [pk_mul]; exact k)
theorem hk_subN (hx : p.tables.exec = Jvm.exec) (hb : c.code = cc) {i j : Nat} (h : j ≤ i) (hdg : decode cc pc = .ok (.isub, 1)) (k : W p l e R s m args below meth c H locs cells slots Q (F0 m (pc + 1) ls (.int (nI (i - j)) :: rest))) : W p l e R s m args below meth c H locs cells slots Q (F0 m pc ls (.int (nI j) :: .int (nI i) :: rest)) :=
  lv_isub hx hb hdg (by rw [pk_sub h]; exact k)
theorem hk_divN (hx : p.tables.exec = Jvm.exec) (hb : c.code = cc) {i j : Nat} (hi : i < 2 ^ 31) (h0 : 0 < j) (hj : j < 2 ^ 31) (hdg : decode cc pc = .ok (.idiv, 1)) (k : W p l e R s m args below meth c H locs cells slots Q (F0 m (pc + 1) ls (.int (nI (i / j)) :: rest))) : W p l e R s m args below meth c H locs cells slots Q (F0 m pc ls (.int (nI j) :: .int (nI i) :: rest)) :=
  lv_idiv hx hb hdg (nI_ne0 h0 hj) (by rw [pk_div hi h0 hj]; exact k)
theorem hk_remN (hx : p.tables.exec = Jvm.exec) (hb : c.code = cc) {i j : Nat} (hi : i < 2 ^ 31) (h0 : 0 < j) (hj : j < 2 ^ 31) (hdg : decode cc pc = .ok (.irem, 1)) (k : W p l e R s m args below meth c H locs cells slots Q (F0 m (pc + 1) ls (.int (nI (i % j)) :: rest))) : W p l e R s m args below meth c H locs cells slots Q (F0 m pc ls (.int (nI j) :: .int (nI i) :: rest)) :=
  lv_irem hx hb hdg (nI_ne0 h0 hj) (by rw [pk_rem hi h0 hj]; exact k)
theorem hk_geN (hx : p.tables.exec = Jvm.exec) (hb : c.code = cc) {i j : Nat} (hi : i < 2 ^ 31) (hj : j < 2 ^ 31) {off : Int} {tgt : Nat} (hdg : decode cc pc = .ok (.if_icmp .ge off, 3)) (ht : (pc : Int) + off = (tgt : Int)) (kt : j ≤ i → W p l e R s m args below meth c H locs cells slots Q (F0 m tgt ls rest)) (kf : i < j → W p l e R s m args below meth c H locs cells slots Q (F0 m (pc + 3) ls rest)) : W p l e R s m args below meth c H locs cells slots Q (F0 m pc ls (.int (nI j) :: .int (nI i) :: rest)) :=
  lv_icmp_ge hx hb hdg ht (fun h => kt ((nI_leI hj hi).mp h)) (fun h => kf (Nat.lt_of_not_le fun q => h ((nI_leI hj hi).mpr q)))
theorem hk_ltN (hx : p.tables.exec = Jvm.exec) (hb : c.code = cc) {i j : Nat} (hi : i < 2 ^ 31) (hj : j < 2 ^ 31) {off : Int} {tgt : Nat} (hdg : decode cc pc = .ok (.if_icmp .lt off, 3)) (ht : (pc : Int) + off = (tgt : Int)) (kt : i < j → W p l e R s m args below meth c H locs cells slots Q (F0 m tgt ls rest)) (kf : j ≤ i → W p l e R s m args below meth c H locs cells slots Q (F0 m (pc + 3) ls rest)) : W p l e R s m args below meth c H locs cells slots Q (F0 m pc ls (.int (nI j) :: .int (nI i) :: rest)) :=
  lv_icmp_lt hx hb hdg ht (fun h => kt ((nI_ltI hi hj).mp h)) (fun h => kf (Nat.le_of_not_lt fun q => h ((nI_ltI hi hj).mpr q)))
theorem hk_gtN (hx : p.tables.exec = Jvm.exec) (hb : c.code = cc) {i j : Nat} (hi : i < 2 ^ 31) (hj : j < 2 ^ 31) {off : Int} {tgt : Nat} (hdg : decode cc pc = .ok (.if_icmp .gt off, 3)) (ht : (pc : Int) + off = (tgt : Int)) (kt : j < i → W p l e R s m args below meth c H locs cells slots Q (F0 m tgt ls rest)) (kf : i ≤ j → W p l e R s m args below meth c H locs cells slots Q (F0 m (pc + 3) ls rest)) : W p l e R s m args below meth c H locs cells slots Q (F0 m pc ls (.int (nI j) :: .int (nI i) :: rest)) :=
  lv_icmp_gt hx hb hdg ht (fun h => kt ((nI_ltI hj hi).mp h)) (fun h => kf (Nat.le_of_not_lt fun q => h ((nI_ltI hj hi).mpr q)))
theorem hk_leN (hx : p.tables.exec = Jvm.exec) (hb : c.code = cc) {i j : Nat} (hi : i < 2 ^ 31) (hj : j < 2 ^ 31) {off : Int} {tgt : Nat} (hdg : decode cc pc = .ok (.if_icmp .le off, 3)) (ht : (pc : Int) + off = (tgt : Int)) (kt : i ≤ j → W p l e R s m args below meth c H locs cells slots Q (F0 m tgt ls rest)) (kf : j < i → W p l e R s m args below meth c H locs cells slots Q (F0 m (pc + 3) ls rest)) : W p l e R s m args below meth c H locs cells slots Q (F0 m pc ls (.int (nI j) :: .int (nI i) :: rest)) :=
  lv_icmp_le hx hb hdg ht (fun h => kt ((nI_leI hi hj).mp h)) (fun h => kf (Nat.lt_of_not_le fun q => h ((nI_leI hi hj).mpr q)))
theorem hk_eqN (hx : p.tables.exec = Jvm.exec) (hb : c.code = cc) {i j : Nat} (hi : i < 2 ^ 31) (hj : j < 2 ^ 31) {off : Int} {tgt : Nat} (hdg : decode cc pc = .ok (.if_icmp .eq off, 3)) (ht : (pc : Int) + off = (tgt : Int)) (kt : i = j → W p l e R s m args below meth c H locs cells slots Q (F0 m tgt ls rest)) (kf : ¬ i = j → W p l e R s m args below meth c H locs cells slots Q (F0 m (pc + 3) ls rest)) : W p l e R s m args below meth c H locs cells slots Q (F0 m pc ls (.int (nI j) :: .int (nI i) :: rest)) :=
  lv_icmp_eq hx hb hdg ht (fun h => kt ((nI_eq hi hj).mp h)) (fun h => kf (fun q => h ((nI_eq hi hj).mpr q)))
theorem hk_neN (hx : p.tables.exec = Jvm.exec) (hb : c.code = cc) {i j : Nat} (hi : i < 2 ^ 31) (hj : j < 2 ^ 31) {off : Int} {tgt : Nat} (hdg : decode cc pc = .ok (.if_icmp .ne off, 3)) (ht : (pc : Int) + off = (tgt : Int)) (kt : ¬ i = j → W p l e R s m args below meth c H locs cells slots Q (F0 m tgt ls rest)) (kf : i = j → W p l e R s m args below meth c H locs cells slots Q (F0 m (pc + 3) ls rest)) : W p l e R s m args below meth c H locs cells slots Q (F0 m pc ls (.int (nI j) :: .int (nI i) :: rest)) :=
  lv_icmp_ne hx hb hdg ht (fun h => kt (fun q => h ((nI_eq hi hj).mpr q))) (fun h => kf ((nI_eq hi hj).mp h))
theorem hk_eq0N (hx : p.tables.exec = Jvm.exec) (hb : c.code = cc) {i : Nat} (hi : i < 2 ^ 31) {off : Int} {tgt : Nat} (hdg : decode cc pc = .ok (.ifCond .eq off, 3)) (ht : (pc : Int) + off = (tgt : Int)) (kt : i = 0 → W p l e R s m args below meth c H locs cells slots Q (F0 m tgt ls rest)) (kf : 0 < i → W p l e R s m args below meth c H locs cells slots Q (F0 m (pc + 3) ls rest)) : W p l e R s m args below meth c H locs cells slots Q (F0 m pc ls (.int (nI i) :: rest)) :=
  lv_if_eq hx hb hdg ht (fun h => kt ((nI_eq hi (by decide)).mp h)) (fun h => kf (Nat.pos_of_ne_zero fun q => h (by rw [q]; rfl)))
theorem hk_ne0N (hx : p.tables.exec = Jvm.exec) (hb : c.code = cc) {i : Nat} (hi : i < 2 ^ 31) {off : Int} {tgt : Nat} (hdg : decode cc pc = .ok (.ifCond .ne off, 3)) (ht : (pc : Int) + off = (tgt : Int)) (kt : 0 < i → W p l e R s m args below meth c H locs cells slots Q (F0 m tgt ls rest)) (kf : i = 0 → W p l e R s m args below meth c H locs cells slots Q (F0 m (pc + 3) ls rest)) : W p l e R s m args below meth c H locs cells slots Q (F0 m pc ls (.int (nI i) :: rest)) :=
  lv_if_ne hx hb hdg ht (fun h => kt (Nat.pos_of_ne_zero fun q => h (by rw [q]; rfl))) (fun h => kf ((nI_eq hi (by decide)).mp h))
theorem hk_le0N (hx : p.tables.exec = Jvm.exec) (hb : c.code = cc) {i : Nat} (hi : i < 2 ^ 31) {off : Int} {tgt : Nat} (hdg : decode cc pc = .ok (.ifCond .le off, 3)) (ht : (pc : Int) + off = (tgt : Int)) (kt : i = 0 → W p l e R s m args below meth c H locs cells slots Q (F0 m tgt ls rest)) (kf : 0 < i → W p l e R s m args below meth c H locs cells slots Q (F0 m (pc + 3) ls rest)) : W p l e R s m args below meth c H locs cells slots Q (F0 m pc ls (.int (nI i) :: rest)) :=
  lv_if_le hx hb hdg ht (fun h => kt (Nat.le_zero.mp ((nI_leI hi (by decide)).mp h))) (fun h => kf (Nat.pos_of_ne_zero fun q => h (by rw [q]; decide)))
theorem hk_lt0N (hx : p.tables.exec = Jvm.exec) (hb : c.code = cc) {i : Nat} (hi : i < 2 ^ 31) {off : Int} {tgt : Nat} (hdg : decode cc pc = .ok (.ifCond .lt off, 3)) (ht : (pc : Int) + off = (tgt : Int)) (kf : W p l e R s m args below meth c H locs cells slots Q (F0 m (pc + 3) ls rest)) : W p l e R s m args below meth c H locs cells slots Q (F0 m pc ls (.int (nI i) :: rest)) :=
  lv_if_lt hx hb hdg ht (fun h => absurd h (nI_pos hi)) (fun _ => kf)
/-! calls -/
theorem hk_R {r : Int32} {aa : Array Value} (hr : CallRun p l e R s m args below meth c H locs cells slots 0 0 (F0 m pc ls st0) rest (QcRead r aa) (fun _ => False)) (k : W p l e R s m args below meth c H locs cells slots Q (F0 m (pc + 3) ls (.int r :: rest))) : W p l e R s m args below meth c H locs cells slots Q (F0 m pc ls st0) := W.callR hr k
theorem hk_M {v : Option Value} {aa : Array Value} {w1 : va_W} {as : List Nat} (hr : CallRun p l e R s m args below meth c H locs cells slots 0 0 (F0 m pc ls st0) rest (hkQ v D w1 as aa) (hkA as)) (hP : va_P D vwCl ws H) (hD : va_D A ws) (hS : va_S A H0 H locs) (ps : List Nat) {wc : va_W} (hC : ps.map (fun i => ws[i]?) = wc.map some) (has : wc.map (fun q => q.1) = as) (h1 : w1.map (fun q => q.1) = as)
    (kk : ∀ (H1 : Heap) (locs1 : List Loc), va_P D vwCl (hkSet ws ps w1) H1 → va_D A (hkSet ws ps w1) → va_S A H0 H1 locs1 → W p l e R s m args below meth c H1 locs1 cells slots Q (F0 m (pc + 3) ls (v.toList ++ rest))) : W p l e R s m args below meth c H locs cells slots Q (F0 m pc ls st0) := by
  intro T hT X
  obtain ⟨v', st₀, t, T', L, h0, X', hL, e1, ⟨hv, hp, hF⟩, st⟩ := hr T hT X
  cases hv
  rw [h0] at hF
  have hA : ∀ q : Nat, q ∈ as → A q := by
    intro q hq
    rw [← has] at hq
    obtain ⟨z, hz, rfl⟩ := List.mem_map.mp hq
    obtain ⟨k, hk⟩ := List.getElem?_of_mem hz
    obtain ⟨i, -, hi⟩ := hk_map_get hC hk
    exact hD.2 i _ hi
  obtain ⟨j1, j2⟩ := hk_join hP hD ps hC has h1 hF hp
  obtain ⟨t2, a1, b1⟩ := kk t.heap (locs ++ L) j1 j2
    ⟨Nat.le_trans hS.1 hF.1, fun q h1 h2 => by rw [hF.2 q (Nat.lt_of_lt_of_le h1 hS.1) (fun z => h2 (hA q z))]; exact hS.2.1 q h1 h2, fun q hq => by
      rcases List.mem_append.mp hq with h | h
      · exact hS.2.2 q h
      · exact hA _ (hL q h)⟩ T' e1 X'
  exact ⟨t2, st t2 a1, b1⟩
/-- how a callee ends that may throw and changes nothing -/
def hkR (v : Option Value) (post : Prop) : Array Value → State → Outcome → State → Prop := fun _ st o t => o = .returned v ∧ post ∧ t.heap = st.heap
theorem hk_XR {v : Option Value} {post : Prop} {ok : String → Prop} {aa : Array Value} {mc ms : Nat} (hr : vx_Run p l e R s m args below meth c H locs cells slots mc ms (F0 m pc ls st0) rest (hkR v post aa) (hkXC ok) (fun _ => False))
    (kx : ∀ (E : String) (ce : Cell) (q9 : Addr) (H1 : Heap), ok E → hkF [] H H1 → H1[q9]? = some ce → ce.vm = .none → s.vm.findClass E = some ce.cls → vx_W p l e R s m args below meth c H1 locs (cells + mc) (slots + ms) Q (F0 m pc ls rest) q9)
    (kk : post → W p l e R s m args below meth c H locs (cells + mc) (slots + ms) Q (F0 m (pc + 3) ls (v.toList ++ rest))) : W p l e R s m args below meth c H locs cells slots Q (F0 m pc ls st0) := by
  intro T hT X
  rcases hr T hT X with ⟨v', st₀, t, T', L, h0, X', hL, e1, e2, ⟨hv, hp, hh⟩, st⟩ | ⟨q, st₀, t, T', L, E, ce, h0, X', hL, e1, e2, ⟨ho, hF⟩, hce, hcv, hcl, st⟩
  · cases hv
    obtain ⟨t2, a1, b1⟩ := kk hp T' (by rw [e1, hh, h0]) (Stand.forget X' (fun q h => (hL q h).elim))
    exact ⟨t2, st t2 a1, b1⟩
  · rw [h0] at hF
    obtain ⟨t2, a1, b1⟩ := kx E ce q T'.heap ho (by rw [e1]; exact hF) (by rw [e1]; exact hce) hcv hcl T' rfl (Stand.forget X' (fun q h => (hL q h).elim))
    exact ⟨t2, st.trans a1, b1⟩
/-- an exception of a callee goes on to the caller: nothing was written yet -/
theorem hk_out {Qc : Array Value → State → Outcome → State → Prop} {free : Addr → Prop} {mc ms : Nat} {ok : String → Prop} {E : String} {ce : Cell} {q : Addr} {H1 : Heap} (hout : ∀ x ∈ c.exceptionTable.toList, False) (hlocks : meth.locks = false) (hF : hkF [] s.heap H1) (ho : ok E) (hcell : H1[q]? = some ce) (hv : ce.vm = .none) (hcl : s.vm.findClass E = some ce.cls) (hc : cells ≤ mc) (hs : slots ≤ ms) :
    vx_W p l e R s m args below meth c H1 [] cells slots (vx_MQ below Qc (hkXC ok) args s mc ms free) (F0 m pc ls rest) q :=
  vx_out (fun x hx => (hout x hx).elim) hlocks hcell hv hcl (fun t ht _ => ⟨ho, by rw [ht]; exact hF⟩) (fun z hz => nomatch hz) hc hs
/-- throw new E("text") in Homekeys, with nothing written yet -/
theorem hk_throw {Qc : Array Value → State → Outcome → State → Prop} {free : Addr → Prop} {mc ms : Nat} {ok : String → Prop} {G0 : Nat} (hx : p.tables.exec = Jvm.exec) (hb : c.code = cc) (hfl : l.flags = flags0) {cls text : String} {ik is ic k : Nat} (hown : s.vm.findClass RX2 = some m.cls)
    (hcls : Bundle.fit cls = true) (hk : (Cond.classLink RX2 ik cls).before args s = true) (hini : (Cond.initialized cls).before args s = true)
    (hw : ∀ w ∈ (vx_atS RX2 ic cls ["java/lang/RuntimeException", "java/lang/Exception"]).filter goodWord, w.before args s = true)
    (hng : ∀ w ∈ (vx_atS RX2 ic cls ["java/lang/RuntimeException", "java/lang/Exception"]).filter (fun w => !goodWord w), w ∈ hkN)
    (hot : (Cond.classLink RX2 ik cls :: Cond.initialized cls :: vx_atS RX2 ic cls ["java/lang/RuntimeException", "java/lang/Exception"]).all vx_ot = true)
    (hE : hkE D ct sa s) (hH : hkH G0 s s.heap) (hs : (RX2, is, text, k) ∈ hkS) (hsize : ls.size = c.maxLocals)
    (d0 : decode cc pc = .ok (.new ik, 3)) (d3 : decode cc (pc + 3) = .ok (.dup, 1)) (d4 : decode cc (pc + 4) = .ok (.ldc is, 2)) (d6 : decode cc (pc + 6) = .ok (.invokespecial ic, 3)) (d9 : decode cc (pc + 9) = .ok (.athrow, 1))
    (hout : ∀ x ∈ c.exceptionTable.toList, False) (hRf : 5 < R.frames) (hRl : (rest.map fun v => v.category).sum + 82 ≤ R.locals) (hRc : cells + 1 ≤ R.cells) (hRs : slots + 6 ≤ R.slots) (hlocks : meth.locks = false) (ho : ok cls) (hc : cells + 1 ≤ mc) (hsl : slots + 6 ≤ ms) :
    W p l e R s m args below meth c s.heap [] cells slots (vx_MQ below Qc (hkXC ok) args s mc ms free) (F0 m pc ls rest) :=
  vx_throwS (A := fun q => G0 ≤ q) (names := ["java/lang/RuntimeException", "java/lang/Exception"]) (sa := sa k) hx hb (hk_fl hfl) hown hcls (by decide +kernel) hk hini (hE.2.2.1 _ hs) (vx_hat hw (fun w hw => hng w hw) (fun w hw => hE.use hw)) (List.all_eq_true.mp hot) hH.2.1 hH.2.2 va_S.rf hsize d0 d3 d4 d6 d9 (fun x hx => (hout x hx).elim) hRf hRl hRc hRs hlocks (fun t _ h1 h2 => ⟨ho, h1, fun q hq _ => h2 q hq⟩) (fun z hz => nomatch hz) hc hsl
end HKR
end
section
section HKN
variable {p : Program} {l : Launch} {e : Env} {R : Room} {s : State} {m : MethodId} {args : Array Value} {below : List Frame} {meth : Method} {c : Code} {H : Heap} {locs : List Loc} {cells slots : Nat} {Q : State → Prop}
variable {cc : ByteArray} {pc : Nat} {ls : Array Slot} {rest st0 : List Value} {D : va_G} {ct : Nat → ClassId} {sa : Nat → Nat} {ws : va_W} {A : Nat → Prop} {H0 : Heap} {a : Nat}
theorem hk_ctI {cA : ClassId} (hE : hkE D ct sa s) (h : va_K D vwCl (hkT ct ++ [(cA, .int)]) s) : cA = ct 0 := by
  have h1 : s.vm.findClass ("[" ++ FieldType.int.toString) = some cA := (h.2 4 (cA, .int) rfl).2
  have h2 : s.vm.findClass ("[" ++ FieldType.int.toString) = some (ct 0) := (hE.1.2 0 (ct 0, .int) rfl).2
  exact Option.some.inj (h1.symm.trans h2)
theorem hk_ctL {cA : ClassId} (hE : hkE D ct sa s) (h : va_K D vwCl (hkT ct ++ [(cA, .long)]) s) : cA = ct 3 := by
  have h1 : s.vm.findClass ("[" ++ FieldType.long.toString) = some cA := (h.2 4 (cA, .long) rfl).2
  have h2 : s.vm.findClass ("[" ++ FieldType.long.toString) = some (ct 3) := (hE.1.2 3 (ct 3, .long) rfl).2
  exact Option.some.inj (h1.symm.trans h2)
theorem hk_ct1 {cA : ClassId} (hE : hkE D ct sa s) (h : va_K D vwCl (hkT ct ++ [(cA, .object RX1)]) s) : cA = ct 1 := by
  obtain ⟨k1, c1, -, -, -, h1⟩ := (h.2 4 (cA, .object RX1) rfl).2
  obtain ⟨k2, c2, -, -, -, h2⟩ := (hE.1.2 1 (ct 1, .object RX1) rfl).2
  exact Option.some.inj (h1.symm.trans h2)
theorem hk_ct2 {cA : ClassId} (hE : hkE D ct sa s) (h : va_K D vwCl (hkT ct ++ [(cA, .object RX0)]) s) : cA = ct 2 := by
  obtain ⟨k1, c1, -, -, -, h1⟩ := (h.2 4 (cA, .object RX0) rfl).2
  obtain ⟨k2, c2, -, -, -, h2⟩ := (hE.1.2 2 (ct 2, .object RX0) rfl).2
  exact Option.some.inj (h1.symm.trans h2)
theorem hk_newi (hx : p.tables.exec = Jvm.exec) (hb : c.code = cc) (harr : (Cond.arrayClass .int).before args s = true) (hE : hkE D ct sa s) (hP : va_P D vwCl ws H) (hD : va_D A ws) (hS : va_S A H0 H locs) (hA : ∀ q, H0.size ≤ q → A q) {n : Nat} (hn : n < 2 ^ 31) (hbytes : n * 4 ≤ 536870912) (hcells : cells + 1 ≤ R.cells) (hslots : slots + n ≤ R.slots) (hdg : decode cc pc = .ok (.newarray .int, 2))
    (kk : ∀ (q : Nat) (H1 : Heap), va_P D vwCl (ws ++ [(q, .inl (ct 0, n, .inl (fun _ => 0)))]) H1 → va_D A (ws ++ [(q, .inl (ct 0, n, .inl (fun _ => 0)))]) → va_S A H0 H1 locs → W p l e R s m args below meth c H1 locs (cells + 1) (slots + n) Q (F0 m (pc + 2) ls (.ref q :: rest))) : W p l e R s m args below meth c H locs cells slots Q (F0 m pc ls (.int (nI n) :: rest)) := by
  refine va_newa (atype := .int) (ty := .int) (a0 := (n, .inl (fun _ => 0))) hx hb harr rfl hE.1 hP hD hS hA (fun _ => rfl) (nI_pos hn) (nI_clamp hn) hbytes hcells hslots hdg (fun q cA H1 hK hP hD hS => ?_)
  have h := hk_ctI hE hK
  subst h
  exact kk q H1 hP hD hS
theorem hk_newl (hx : p.tables.exec = Jvm.exec) (hb : c.code = cc) (harr : (Cond.arrayClass .long).before args s = true) (hE : hkE D ct sa s) (hP : va_P D vwCl ws H) (hD : va_D A ws) (hS : va_S A H0 H locs) (hA : ∀ q, H0.size ≤ q → A q) {n : Nat} (hn : n < 2 ^ 31) (hbytes : n * 8 ≤ 536870912) (hcells : cells + 1 ≤ R.cells) (hslots : slots + n ≤ R.slots) (hdg : decode cc pc = .ok (.newarray .long, 2))
    (kk : ∀ (q : Nat) (H1 : Heap), va_P D vwCl (ws ++ [(q, .inl (ct 3, n, .inr (.inl (fun _ => 0))))]) H1 → va_D A (ws ++ [(q, .inl (ct 3, n, .inr (.inl (fun _ => 0))))]) → va_S A H0 H1 locs → W p l e R s m args below meth c H1 locs (cells + 1) (slots + n) Q (F0 m (pc + 2) ls (.ref q :: rest))) : W p l e R s m args below meth c H locs cells slots Q (F0 m pc ls (.int (nI n) :: rest)) := by
  refine va_newa (atype := .long) (ty := .long) (a0 := (n, .inr (.inl (fun _ => 0)))) hx hb harr rfl hE.1 hP hD hS hA (fun _ => rfl) (nI_pos hn) (nI_clamp hn) hbytes hcells hslots hdg (fun q cA H1 hK hP hD hS => ?_)
  have h := hk_ctL hE hK
  subst h
  exact kk q H1 hP hD hS
theorem hk_newq1 (hx : p.tables.exec = Jvm.exec) (hb : c.code = cc) {own : String} {index : Nat} (hown : s.vm.findClass own = some m.cls) (hlk : (Cond.classLink own index RX1).before args s = true) (hE : hkE D ct sa s) (hP : va_P D vwCl ws H) (hD : va_D A ws) (hS : va_S A H0 H locs) (hA : ∀ q, H0.size ≤ q → A q) {n : Nat} (hn : n < 2 ^ 31) (hbytes : n * 4 ≤ 536870912) (hcells : cells + 1 ≤ R.cells) (hslots : slots + n ≤ R.slots) (hdg : decode cc pc = .ok (.anewarray index, 3))
    (kk : ∀ (q : Nat) (H1 : Heap), va_P D vwCl (ws ++ [(q, .inl (ct 1, n, .inr (.inr (.inr (.inr (fun _ => none))))))]) H1 → va_D A (ws ++ [(q, .inl (ct 1, n, .inr (.inr (.inr (.inr (fun _ => none))))))]) → va_S A H0 H1 locs → W p l e R s m args below meth c H1 locs (cells + 1) (slots + n) Q (F0 m (pc + 3) ls (.ref q :: rest))) : W p l e R s m args below meth c H locs cells slots Q (F0 m pc ls (.int (nI n) :: rest)) := by
  refine va_newq (C := RX1) hx hb hown hlk hE.2.2.2.2.1 hE.1 hP hD hS hA (nI_pos hn) (nI_clamp hn) hbytes hcells hslots hdg (fun q cA H1 hK hP hD hS => ?_)
  have h := hk_ct1 hE hK
  subst h
  exact kk q H1 hP hD hS
theorem hk_newq2 (hx : p.tables.exec = Jvm.exec) (hb : c.code = cc) {own : String} {index : Nat} (hown : s.vm.findClass own = some m.cls) (hlk : (Cond.classLink own index RX0).before args s = true) (hE : hkE D ct sa s) (hP : va_P D vwCl ws H) (hD : va_D A ws) (hS : va_S A H0 H locs) (hA : ∀ q, H0.size ≤ q → A q) {n : Nat} (hn : n < 2 ^ 31) (hbytes : n * 4 ≤ 536870912) (hcells : cells + 1 ≤ R.cells) (hslots : slots + n ≤ R.slots) (hdg : decode cc pc = .ok (.anewarray index, 3))
    (kk : ∀ (q : Nat) (H1 : Heap), va_P D vwCl (ws ++ [(q, .inl (ct 2, n, .inr (.inr (.inr (.inr (fun _ => none))))))]) H1 → va_D A (ws ++ [(q, .inl (ct 2, n, .inr (.inr (.inr (.inr (fun _ => none))))))]) → va_S A H0 H1 locs → W p l e R s m args below meth c H1 locs (cells + 1) (slots + n) Q (F0 m (pc + 3) ls (.ref q :: rest))) : W p l e R s m args below meth c H locs cells slots Q (F0 m pc ls (.int (nI n) :: rest)) := by
  refine va_newq (C := RX0) hx hb hown hlk hE.2.2.2.2.2 hE.1 hP hD hS hA (nI_pos hn) (nI_clamp hn) hbytes hcells hslots hdg (fun q cA H1 hK hP hD hS => ?_)
  have h := hk_ct2 hE hK
  subst h
  exact kk q H1 hP hD hS
/-- how a constructor ends: its cells, old ones in their places and new ones -/
def hkB {S : Type} (D : va_G) (A1 : Nat → Prop) (w1 : S → va_W) : S → State → Prop := fun u t => va_P D vwCl (w1 u) t.heap ∧ va_D A1 (w1 u)
theorem va_P.left {D : va_G} {cl : List vw_C} {w1 w2 : va_W} {H : Heap} (h : va_P D cl (w1 ++ w2) H) : va_P D cl w1 H := fun k q hk => h k q (by rw [List.getElem?_append_left (List.getElem?_eq_some_iff.mp hk).1]; exact hk)
theorem va_P.right {D : va_G} {cl : List vw_C} {w1 w2 : va_W} {H : Heap} (h : va_P D cl (w1 ++ w2) H) : va_P D cl w2 H := fun k q hk => h (w1.length + k) q (by rw [List.getElem?_append_right (by omega), Nat.add_sub_cancel_left]; exact hk)
theorem va_D.left {A : Nat → Prop} {w1 w2 : va_W} (h : va_D A (w1 ++ w2)) : va_D A w1 :=
  h.by id (fun k q hk => by show (w1 ++ w2)[k]? = some q; rw [List.getElem?_append_left (List.getElem?_eq_some_iff.mp hk).1]; exact hk) (fun i j _ _ e => e)
theorem va_D.right {A : Nat → Prop} {w1 w2 : va_W} (h : va_D A (w1 ++ w2)) : va_D A w2 :=
  h.by (fun k => w1.length + k) (fun k q hk => by rw [List.getElem?_append_right (by omega), Nat.add_sub_cancel_left]; exact hk) (fun i j _ _ e => by omega)
theorem va_D.cross {A : Nat → Prop} {w1 w2 : va_W} (h : va_D A (w1 ++ w2)) {i j : Nat} {x y : Nat × va_E} (hx : w1[i]? = some x) (hy : w2[j]? = some y) : x.1 ≠ y.1 := by
  intro e
  have h1 : (w1 ++ w2)[i]? = some x := by rw [List.getElem?_append_left (List.getElem?_eq_some_iff.mp hx).1]; exact hx
  have h2 : (w1 ++ w2)[w1.length + j]? = some y := by rw [List.getElem?_append_right (by omega), Nat.add_sub_cancel_left]; exact hy
  have h3 := h.1 _ _ x y h1 h2 e
  have h4 := (List.getElem?_eq_some_iff.mp hx).1
  omega
/-- a world in two parts; a callee has the second, and makes cells: what comes behind it -/
theorem hk_split {D : va_G} {A : Nat → Prop} {wr wc w1 : va_W} {H H1 : Heap} (hP : va_P D vwCl (wr ++ wc) H) (hD : va_D A (wr ++ wc)) (hk : ∀ q : Nat, q < H.size → ¬ va_A wc H.size q → H1[q]? = H[q]?) (hF : ∀ q, va_A wc H.size q → A q) (hP1 : va_P D vwCl w1 H1) (hD1 : va_D (va_A wc H.size) w1) : va_P D vwCl (wr ++ w1) H1 ∧ va_D A (wr ++ w1) := by
  have apart : ∀ (k : Nat) (q : Nat × va_E), wr[k]? = some q → q.1 < H.size ∧ ¬ va_A wc H.size q.1 := by
    intro k q hq
    have hl := (hP.left k q hq).lt
    refine ⟨hl, fun h => ?_⟩
    rcases h with ⟨k2, e, h⟩ | h
    · exact hD.cross hq h rfl
    · omega
  refine ⟨va_P.app (fun k q hq => ?_) hP1, va_D.app hD.left (hD1.weaken (fun k q _ h => hF q.1 h)) (fun i j x y hx hy hxy => ?_)⟩
  · obtain ⟨g1, g2⟩ := apart k q hq
    exact (hP.left k q hq).kept (hk q.1 g1 g2)
  · exact (apart i x hx).2 (by rw [hxy]; exact hD1.2 j y hy)
theorem hk_free {A : Nat → Prop} {wr wc : va_W} (hD : va_D A (wr ++ wc)) (hS : va_S A H0 H locs) (hA : ∀ q, H0.size ≤ q → A q) : ∀ q, va_A wc H.size q → A q := by
  intro q h
  rcases h with ⟨k, e, h⟩ | h
  · exact hD.right.2 k _ h
  · exact hA q (Nat.le_trans hS.1 h)
theorem hk_C {S : Type} {w1 : S → va_W} {wr wc : va_W} {sz mc ms : Nat} {aa : Array Value} (hr : va_Run p l e R s m args below meth c H locs cells slots mc ms (F0 m pc ls st0) rest (va_Qv (fun _ : S => True) (hkB D (va_A wc sz) w1) (va_A wc sz) aa) (va_A wc sz)) (hsz : H.size = sz) (hP : va_P D vwCl (wr ++ wc) H) (hD : va_D A (wr ++ wc)) (hS : va_S A H0 H locs) (hA : ∀ q, H0.size ≤ q → A q)
    (kk : ∀ (u : S) (H1 : Heap) (locs1 : List Loc), va_P D vwCl (wr ++ w1 u) H1 → va_D A (wr ++ w1 u) → va_S A H0 H1 locs1 → W p l e R s m args below meth c H1 locs1 (cells + mc) (slots + ms) Q (F0 m (pc + 3) ls rest)) : W p l e R s m args below meth c H locs cells slots Q (F0 m pc ls st0) := by
  subst hsz
  have hF := hk_free hD hS hA
  refine va_callv hr hS (fun q _ h => hF q h) hF (fun u t H1 locs1 ht hvm hw hB hz hk hS1 => ?_)
  obtain ⟨hP1, hD1⟩ := hB
  rw [ht] at hP1
  obtain ⟨j1, j2⟩ := hk_split hP hD hk hF hP1 hD1
  exact kk u H1 locs1 j1 j2 hS1
end HKN
end
section
/-! plain facts: reads within a row, keys, times -/
def hkAt (N : Nat) (f : Nat → Int32) (x : Int32) : Int32 := if x < 0 ∨ N ≤ x.toNatClampNeg then 0 else f x.toNatClampNeg
theorem hkAt_in {N : Nat} {f : Nat → Int32} {j : Nat} (h : j < N) (hN : N < 2 ^ 31) : hkAt N f (nI j) = f j := by
  unfold hkAt
  rw [if_neg (nI_in h hN), nI_clamp (by omega)]
theorem hk_ix {x : Int32} {N : Nat} (hN : N < 2 ^ 31) (h1 : ¬ x < 0) (h2 : ¬ nI N ≤ x) : ∃ j, j < N ∧ x = nI j := by
  obtain ⟨j, h3, h4, -⟩ := pk_mu h1 h2 hN
  exact ⟨j, h3, h4⟩
theorem hkAt_out {N : Nat} {f : Nat → Int32} {x : Int32} (hN : N < 2 ^ 31) (h : x < 0 ∨ nI N ≤ x) : hkAt N f x = 0 := by
  unfold hkAt
  rw [if_pos]
  rcases h with h | h
  · exact Or.inl h
  · by_cases h0 : x < 0
    · exact Or.inl h0
    · refine Or.inr ?_
      obtain ⟨j, h3, rfl⟩ := nI_of h0
      rw [nI_clamp h3]
      exact (nI_leI hN h3).mp h
theorem hk_lt_of {x : Int32} {N j : Nat} (hN : N < 2 ^ 31) (h1 : ¬ x < 0) (h2 : x < nI N) : ∃ j, j < N ∧ x = nI j := by
  obtain ⟨j, h3, rfl⟩ := nI_of h1
  exact ⟨j, (nI_ltI h3 hN).mp h2, rfl⟩
/-- out of range, as a program asks it -/
abbrev bd (x : Int32) (n : Nat) : Prop := x < 0 ∨ n ≤ x.toNatClampNeg
theorem bd_nI {j n : Nat} (h : j < n) (hn : n < 2 ^ 31) : ¬ bd (nI j) n := nI_in h hn
theorem bd_of {x : Int32} {n : Nat} (hn : n < 2 ^ 31) (h : ¬ bd x n) : ∃ j, j < n ∧ x = nI j := vp_in_of h hn
theorem bd_lt {x : Int32} {n : Nat} (h : x < 0) : bd x n := Or.inl h
theorem bd_ge {x : Int32} {n : Nat} (hn : n < 2 ^ 31) (h : nI n ≤ x) : bd x n := by
  by_cases h0 : x < 0
  · exact Or.inl h0
  · refine Or.inr ?_
    obtain ⟨j, h3, rfl⟩ := nI_of h0
    rw [nI_clamp h3]
    exact (nI_leI hn h3).mp h
/-- the time from a key to a key -/
def stp (a b : Nat) : Nat := if a = b then 3 else if a % 6 = b % 6 then 7 else if a % 6 / 3 = b % 6 / 3 then 4 else 2
theorem hk_abs : ∀ a, a < 12 → ∀ b, b < 12 → ¬ a = b → a % 6 = b % 6 → (if (0 : Int32) ≤ nI (a / 6) - nI (b / 6) then nI (a / 6) - nI (b / 6) else 0 - (nI (a / 6) - nI (b / 6))) = nI 1 := by decide +kernel
def hkSw (k one other : Int32) : Int32 := if k = one then other else if k = other then one else k
/-- the time of a text -/
def tt (g : Nat → Nat) : Nat → Nat
  | 0 => 0
  | 1 => 2
  | n + 2 => tt g (n + 1) + stp (g n) (g (n + 1))
theorem tt_1 (g : Nat → Nat) : tt g 1 = 2 := by rw [tt]
theorem tt_2 (g : Nat → Nat) (n : Nat) : tt g (n + 2) = tt g (n + 1) + stp (g n) (g (n + 1)) := by rw [tt]
end
section
/-! what a student's and a contest's methods answer, in plain words -/
def swp (a b x : Nat) : Nat := if x = a then b else if x = b then a else x
theorem swp_lt {a b x n : Nat} (ha : a < n) (hb : b < n) (hx : x < n) : swp a b x < n := by
  unfold swp
  split
  · exact hb
  · split
    · exact ha
    · exact hx
theorem hkSw_nI {a b x : Nat} (ha : a < 12) (hb : b < 12) (hx : x < 12) : hkSw (nI x) (nI a) (nI b) = nI (swp a b x) := by
  unfold hkSw swp
  by_cases h1 : x = a
  · rw [if_pos (by rw [h1]), if_pos h1]
  · rw [if_neg (fun q => h1 ((nI_eq (by omega) (by omega)).mp q)), if_neg h1]
    by_cases h2 : x = b
    · rw [if_pos (by rw [h2]), if_pos h2]
    · rw [if_neg (fun q => h2 ((nI_eq (by omega) (by omega)).mp q)), if_neg h2]
theorem hkSw_m1 {x : Nat} (hx : x < 12) : hkSw (nI x) (-1) (-1) = nI x := by
  have h : ∀ x, x < 12 → hkSw (nI x) (-1) (-1) = nI x := by decide +kernel
  exact h x hx
/-- the keys of the history, two keys swapped -/
def gk (K T : Nat → Nat) : Nat → Nat := fun p => K (T p)
def gs (K T : Nat → Nat) (a b : Nat) : Nat → Nat := fun p => swp a b (K (T p))
/-- what a swap saves -/
def sv (K T : Nat → Nat) (q a b : Nat) : Int32 := nI (tt (gk K T) q) - nI (tt (gs K T a b) q)
/-- the best swap of those below k (12 times a key and another one), and what it saves -/
def bs (K T : Nat → Nat) (q : Nat) : Nat → Int32 × Int32
  | 0 => (-1, 0)
  | k + 1 => if k / 12 < k % 12 ∧ (bs K T q k).2 < sv K T q (k / 12) (k % 12) then (nI k, sv K T q (k / 12) (k % 12)) else bs K T q k
theorem bs_skip (K T : Nat → Nat) (q k : Nat) (hk : k < 12) : ∀ j, j ≤ k + 1 → bs K T q (12 * k + j) = bs K T q (12 * k) := by
  intro j
  induction j with
  | zero => intro _; rfl
  | succ j ih =>
    intro hj
    show bs K T q ((12 * k + j) + 1) = _
    rw [bs, if_neg (by intro h; have h1 := h.1; omega)]
    exact ih (by omega)
theorem bs_step (K T : Nat → Nat) (q k j : Nat) (hj : j < 12) (h : k < j) : bs K T q (12 * k + j + 1) = if (bs K T q (12 * k + j)).2 < sv K T q k j then (nI (12 * k + j), sv K T q k j) else bs K T q (12 * k + j) := by
  rw [bs]
  have h1 : (12 * k + j) / 12 = k := by omega
  have h2 : (12 * k + j) % 12 = j := by omega
  rw [h1, h2]
  by_cases h3 : (bs K T q (12 * k + j)).2 < sv K T q k j
  · rw [if_pos ⟨h, h3⟩, if_pos h3]
  · rw [if_neg (fun z => h3 z.2), if_neg h3]
/-- a group of keys: by key, finger, hand, all -/
def hkGr (w : Int32) (k : Nat) : Int32 := if w = 0 then nI k else if w = 1 then nI (k % 6) else if w = 2 then nI (k % 6 / 3) else 0
def hkGs (w : Int32) : Int32 := if w = 0 then 12 else if w = 1 then 6 else if w = 2 then 2 else if w = 3 then 1 else 0
def sl (S : Nat → Int32) (w x : Int32) : Nat → Int32
  | 0 => 0
  | k + 1 => if hkGr w k = x then sl S w x k + S k else sl S w x k
theorem hk_t2 (x : Int32) : x = 0 ∨ x = 1 ∨ x = 2 ∨ (¬ x = 0 ∧ ¬ x = 1 ∧ ¬ x = 2 ∧ (x.toInt < 0 ∨ 2 < x.toInt)) := by
  by_cases h0 : x = 0
  · exact Or.inl h0
  · by_cases h1 : x = 1
    · exact Or.inr (Or.inl h1)
    · by_cases h2 : x = 2
      · exact Or.inr (Or.inr (Or.inl h2))
      · have e0 := lv_neT (a := 0) h0 rfl
        have e1 := lv_neT (a := 1) h1 rfl
        have e2 := lv_neT (a := 2) h2 rfl
        exact Or.inr (Or.inr (Or.inr ⟨h0, h1, h2, by omega⟩))
theorem hk_t3 (x : Int32) : x = 0 ∨ x = 1 ∨ x = 2 ∨ x = 3 ∨ (¬ x = 0 ∧ ¬ x = 1 ∧ ¬ x = 2 ∧ ¬ x = 3 ∧ (x.toInt < 0 ∨ 3 < x.toInt)) := by
  rcases hk_t2 x with h | h | h | ⟨h0, h1, h2, h⟩
  · exact Or.inl h
  · exact Or.inr (Or.inl h)
  · exact Or.inr (Or.inr (Or.inl h))
  · by_cases h3 : x = 3
    · exact Or.inr (Or.inr (Or.inr (Or.inl h3)))
    · have e3 := lv_neT (a := 3) h3 rfl
      exact Or.inr (Or.inr (Or.inr (Or.inr ⟨h0, h1, h2, h3, by omega⟩)))
/-- how many are ahead of l, below r -/
def la (s : Nat → Int32) (l : Nat) : Nat → Nat
  | 0 => 0
  | r + 1 => if s l < s r ∨ (s r = s l ∧ r < l) then la s l r + 1 else la s l r
theorem la_le (s : Nat → Int32) (l : Nat) : ∀ r, la s l r ≤ r
  | 0 => Nat.le_refl 0
  | r + 1 => by
    have h := la_le s l r
    rw [la]
    split <;> omega
/-- the last below k for which it holds -/
def lf (q : Nat → Bool) (d : Int32) : Nat → Int32
  | 0 => d
  | k + 1 => if q k then nI k else lf q d k
/-- the first from i on, of n -/
def fi (q : Nat → Bool) : Nat → Nat → Int32
  | 0, _ => -1
  | n + 1, i => if q i then nI i else fi q n (i + 1)
/-- a contest: scores, ranks -/
def scr (X : Nat → Nat) (Z : Nat → Int32) : Nat → Int32 := fun j => nI 1000 * Z j / nI (X j)
def rk (X : Nat → Nat) (Z : Nat → Int32) (i : Nat) : Nat → Nat
  | 0 => 0
  | r + 1 => if 0 < Z r ∧ (scr X Z r < scr X Z i ∨ (scr X Z r = scr X Z i ∧ r < i)) then rk X Z i r + 1 else rk X Z i r
theorem rk_le (X : Nat → Nat) (Z : Nat → Int32) (i : Nat) : ∀ r, rk X Z i r ≤ r
  | 0 => Nat.le_refl 0
  | r + 1 => by
    have h := rk_le X Z i r
    rw [rk]
    split <;> omega
end
section
theorem hk_mem {ws : va_W} {k : Nat} {q : Nat × va_E} (h : ws[k]? = some q) : q.1 ∈ ws.map (fun z => z.1) := List.mem_map.mpr ⟨q, List.mem_of_getElem? h, rfl⟩
set_option maxHeartbeats 4000000 in
set_option maxRecDepth 100000 in
/-- row[place], 0 out of range -/
theorem c_X2_at (l : Launch) (D : va_G) (ct : Nat → ClassId) (sa : Nat → Nat) (a N : Nat) (f : Nat → Int32) (x : Int32) (hN : N < 2 ^ 31) : Met l yX2_at wsX2_at ({ frames := 0, cells := 0, slots := 0, locals := 0 }) (hkPc D ct sa [.ref a, .int x] (fun H => va_P D vwCl [(a, .inl (ct 0, N, .inl f))] H)) (QcRead (hkAt N f x)) 0 0 (fun _ => False) := by
  refine Met.ofW (cc := cX2_at) (maxL := 2) (ret := (some .int)) (by decide) rfl ?_
  intro p e s m args below meth c s₁ B hml hv
  obtain ⟨rfl, hE, hP⟩ := hv
  have hx := B.exec
  have hb := B.bytes
  have hr := B.returns
  have hts := atoms_spec (ws := wsX2_at) B.pre
  have hown : s.vm.findClass RX2 = some m.cls := findClass_of_methodNamed B.named
  have hlocks := B.notSynchronized
  have hl := lv_entry ([.ref a, .int x]) (n := 2) (Nat.le_of_ble_eq_true rfl)
  rw [lg_entry_eq]
  generalize (lg_sl ([.ref a, .int x]) ++ List.replicate (2 - (lg_sl ([.ref a, .int x])).length) Slot.unset).toArray = ls at hl ⊢
  have hl : lv_has ls 2 [(0, .ref a), (1, .int x)] := hl
  refine lv_iload_n hx hb dX2_at_0 rfl (lv_at hl 1 rfl) ?_
  refine lv_if_lt (tgt := 16) hx hb dX2_at_1 (by decide) (fun hc => ?_) (fun c0 => ?_)
  · refine lv_iconst (v := nI 0) hx hb dX2_at_16 (by decide) ?_
    exact W.iret (v := nI 0) hx hb hr (fun t ht hW => ⟨by rw [hkAt_out hN (Or.inl hc)]; rfl, ht⟩) (fun _ h => nomatch h) dX2_at_17
  · refine lv_iload_n hx hb dX2_at_4 rfl (lv_at hl 1 rfl) ?_
    refine lv_aload_n hx hb dX2_at_5 rfl (lv_at hl 0 rfl) ?_
    refine hk_alen0 hx hb hE hP 0 rfl dX2_at_6 ?_
    refine lv_icmp_ge (tgt := 16) hx hb dX2_at_7 (by decide) (fun hc => ?_) (fun hc => ?_)
    · refine lv_iconst (v := nI 0) hx hb dX2_at_16 (by decide) ?_
      exact W.iret (v := nI 0) hx hb hr (fun t ht hW => ⟨by rw [hkAt_out hN (Or.inr hc)]; rfl, ht⟩) (fun _ h => nomatch h) dX2_at_17
    · obtain ⟨j, hj, rfl⟩ := hk_ix hN c0 hc
      refine lv_aload_n hx hb dX2_at_10 rfl (lv_at hl 0 rfl) ?_
      refine lv_iload_n hx hb dX2_at_11 rfl (lv_at hl 1 rfl) ?_
      refine hk_iald hx hb hE hP 0 rfl (j := j) (by omega) (by omega) dX2_at_12 ?_
      refine lv_goto (tgt := 17) hx hb dX2_at_13 (by decide) ?_
      exact W.iret (v := f j) hx hb hr (fun t ht hW => ⟨by rw [hkAt_in hj hN], ht⟩) (fun _ h => nomatch h) dX2_at_17

set_option maxHeartbeats 4000000 in
set_option maxRecDepth 100000 in
/-- row[j] = x, in range -/
theorem c_X2_put (l : Launch) (D : va_G) (ct : Nat → ClassId) (sa : Nat → Nat) (a N : Nat) (f : Nat → Int32) (j : Nat) (x : Int32) (hN : N < 2 ^ 31) (hj : j < N) : Met l yX2_put wsX2_put ({ frames := 0, cells := 0, slots := 0, locals := 0 }) (hkPc D ct sa [.ref a, .int (nI j), .int x] (fun H => va_P D vwCl [(a, .inl (ct 0, N, .inl f))] H ∧ va_D (fun _ => True) [(a, .inl (ct 0, N, .inl f))])) (hkQ none D [(a, .inl (ct 0, N, .inl (upd f j x)))] [a]) 0 0 (hkA [a]) := by
  refine Met.ofW (cc := cX2_put) (maxL := 3) (ret := none) (by decide) rfl ?_
  intro p e s m args below meth c s₁ B hml hv
  obtain ⟨rfl, hE, hp⟩ := hv
  have hx := B.exec
  have hb := B.bytes
  have hr := B.returns
  have hts := atoms_spec (ws := wsX2_put) B.pre
  have hown : s.vm.findClass RX2 = some m.cls := findClass_of_methodNamed B.named
  have hlocks := B.notSynchronized
  obtain ⟨hP, hD0⟩ := hp
  have hD : va_D (hkA [a]) [(a, .inl (ct 0, N, .inl f))] := hD0.weaken (fun k q hk _ => hk_mem hk)
  have hS : va_S (hkA [a]) s.heap s.heap [] := va_S.rf
  have hl := lv_entry ([.ref a, .int (nI j), .int x]) (n := 3) (Nat.le_of_ble_eq_true rfl)
  rw [lg_entry_eq]
  generalize (lg_sl ([.ref a, .int (nI j), .int x]) ++ List.replicate (3 - (lg_sl ([.ref a, .int (nI j), .int x])).length) Slot.unset).toArray = ls at hl ⊢
  have hl : lv_has ls 3 [(0, .ref a), (1, .int (nI j)), (2, .int x)] := hl
  refine lv_iload_n hx hb dX2_put_0 rfl (lv_at hl 1 rfl) ?_
  refine hk_lt0N (tgt := 14) hx hb (by omega) dX2_put_1 (by decide) ?_
  refine lv_iload_n hx hb dX2_put_4 rfl (lv_at hl 1 rfl) ?_
  refine lv_aload_n hx hb dX2_put_5 rfl (lv_at hl 0 rfl) ?_
  refine hk_alen0 hx hb hE hP 0 rfl dX2_put_6 ?_
  refine hk_geN (tgt := 14) hx hb (by omega) (by omega) dX2_put_7 (by decide) (fun hc => ?_) (fun hc => ?_)
  · exact absurd hc (by omega)
  · refine lv_aload_n hx hb dX2_put_10 rfl (lv_at hl 0 rfl) ?_
    refine lv_iload_n hx hb dX2_put_11 rfl (lv_at hl 1 rfl) ?_
    refine lv_iload_n hx hb dX2_put_12 rfl (lv_at hl 2 rfl) ?_
    refine hk_iast hx hb hE hP hD hS 0 rfl (j := j) (x := x) (by omega) (by omega) dX2_put_13 (fun H locs hP hD hS => ?_)
    have hP : va_P D vwCl [(a, .inl (ct 0, N, .inl (upd f j x)))] H := hP
    have hD : va_D (hkA [a]) [(a, .inl (ct 0, N, .inl (upd f j x)))] := hD
    have hP9 : va_P D vwCl [(a, .inl (ct 0, N, .inl (upd f j x)))] H := hP
    exact W.vret hx hb hr (fun t ht hW => ⟨rfl, by rw [ht]; exact hP9, by rw [ht]; exact ⟨hS.1, hS.2.1⟩⟩) hS.2.2 dX2_put_14

set_option maxHeartbeats 4000000 in
set_option maxRecDepth 100000 in
theorem c_X2_fingerOf (l : Launch) (D : va_G) (ct : Nat → ClassId) (sa : Nat → Nat) (k : Nat) (hk : k < 12) : Met l yX2_fingerOf wsX2_fingerOf ({ frames := 0, cells := 0, slots := 0, locals := 0 }) (hkPc D ct sa [.int (nI k)] (fun _ => True)) (QcRead (nI (k % 6))) 0 0 (fun _ => False) := by
  refine Met.ofW (cc := cX2_fingerOf) (maxL := 1) (ret := (some .int)) (by decide) rfl ?_
  intro p e s m args below meth c s₁ B hml hv
  obtain ⟨rfl, hE, -⟩ := hv
  have hx := B.exec
  have hb := B.bytes
  have hr := B.returns
  have hts := atoms_spec (ws := wsX2_fingerOf) B.pre
  have hown : s.vm.findClass RX2 = some m.cls := findClass_of_methodNamed B.named
  have hlocks := B.notSynchronized
  have hl := lv_entry ([.int (nI k)]) (n := 1) (Nat.le_of_ble_eq_true rfl)
  rw [lg_entry_eq]
  generalize (lg_sl ([.int (nI k)]) ++ List.replicate (1 - (lg_sl ([.int (nI k)])).length) Slot.unset).toArray = ls at hl ⊢
  have hl : lv_has ls 1 [(0, .int (nI k))] := hl
  refine lv_iload_n hx hb dX2_fingerOf_0 rfl (lv_at hl 0 rfl) ?_
  refine lv_bipush (v := nI 6) hx hb dX2_fingerOf_1 (by decide) ?_
  refine hk_remN hx hb (by omega) (by omega) (by omega) dX2_fingerOf_3 ?_
  exact W.iret (v := nI (k % 6)) hx hb hr (fun t ht hW => ⟨rfl, ht⟩) (fun _ h => nomatch h) dX2_fingerOf_4

set_option maxHeartbeats 4000000 in
set_option maxRecDepth 100000 in
theorem c_X2_handOf (l : Launch) (D : va_G) (ct : Nat → ClassId) (sa : Nat → Nat) (k : Nat) (hk : k < 12) : Met l yX2_handOf wsX2_handOf ({ frames := 0, cells := 0, slots := 0, locals := 0 }) (hkPc D ct sa [.int (nI k)] (fun _ => True)) (QcRead (nI (k % 6 / 3))) 0 0 (fun _ => False) := by
  refine Met.ofW (cc := cX2_handOf) (maxL := 1) (ret := (some .int)) (by decide) rfl ?_
  intro p e s m args below meth c s₁ B hml hv
  obtain ⟨rfl, hE, -⟩ := hv
  have hx := B.exec
  have hb := B.bytes
  have hr := B.returns
  have hts := atoms_spec (ws := wsX2_handOf) B.pre
  have hown : s.vm.findClass RX2 = some m.cls := findClass_of_methodNamed B.named
  have hlocks := B.notSynchronized
  have hl := lv_entry ([.int (nI k)]) (n := 1) (Nat.le_of_ble_eq_true rfl)
  rw [lg_entry_eq]
  generalize (lg_sl ([.int (nI k)]) ++ List.replicate (1 - (lg_sl ([.int (nI k)])).length) Slot.unset).toArray = ls at hl ⊢
  have hl : lv_has ls 1 [(0, .int (nI k))] := hl
  refine lv_iload_n hx hb dX2_handOf_0 rfl (lv_at hl 0 rfl) ?_
  refine lv_bipush (v := nI 6) hx hb dX2_handOf_1 (by decide) ?_
  refine hk_remN hx hb (by omega) (by omega) (by omega) dX2_handOf_3 ?_
  refine lv_iconst (v := nI 3) hx hb dX2_handOf_4 (by decide) ?_
  refine hk_divN hx hb (by omega) (by omega) (by omega) dX2_handOf_5 ?_
  exact W.iret (v := nI ((k % 6) / 3)) hx hb hr (fun t ht hW => ⟨rfl, ht⟩) (fun _ h => nomatch h) dX2_handOf_6

set_option maxHeartbeats 4000000 in
set_option maxRecDepth 100000 in
theorem c_X2_rowOf (l : Launch) (D : va_G) (ct : Nat → ClassId) (sa : Nat → Nat) (k : Nat) (hk : k < 12) : Met l yX2_rowOf wsX2_rowOf ({ frames := 0, cells := 0, slots := 0, locals := 0 }) (hkPc D ct sa [.int (nI k)] (fun _ => True)) (QcRead (nI (k / 6))) 0 0 (fun _ => False) := by
  refine Met.ofW (cc := cX2_rowOf) (maxL := 1) (ret := (some .int)) (by decide) rfl ?_
  intro p e s m args below meth c s₁ B hml hv
  obtain ⟨rfl, hE, -⟩ := hv
  have hx := B.exec
  have hb := B.bytes
  have hr := B.returns
  have hts := atoms_spec (ws := wsX2_rowOf) B.pre
  have hown : s.vm.findClass RX2 = some m.cls := findClass_of_methodNamed B.named
  have hlocks := B.notSynchronized
  have hl := lv_entry ([.int (nI k)]) (n := 1) (Nat.le_of_ble_eq_true rfl)
  rw [lg_entry_eq]
  generalize (lg_sl ([.int (nI k)]) ++ List.replicate (1 - (lg_sl ([.int (nI k)])).length) Slot.unset).toArray = ls at hl ⊢
  have hl : lv_has ls 1 [(0, .int (nI k))] := hl
  refine lv_iload_n hx hb dX2_rowOf_0 rfl (lv_at hl 0 rfl) ?_
  refine lv_bipush (v := nI 6) hx hb dX2_rowOf_1 (by decide) ?_
  refine hk_divN hx hb (by omega) (by omega) (by omega) dX2_rowOf_3 ?_
  exact W.iret (v := nI (k / 6)) hx hb hr (fun t ht hW => ⟨rfl, ht⟩) (fun _ h => nomatch h) dX2_rowOf_4

set_option maxHeartbeats 4000000 in
set_option maxRecDepth 100000 in
theorem c_X2_pairPlace (l : Launch) (D : va_G) (ct : Nat → ClassId) (sa : Nat → Nat) (a b : Nat) : Met l yX2_pairPlace wsX2_pairPlace ({ frames := 0, cells := 0, slots := 0, locals := 0 }) (hkPc D ct sa [.int (nI a), .int (nI b)] (fun _ => True)) (QcRead (nI (12 * a + b))) 0 0 (fun _ => False) := by
  refine Met.ofW (cc := cX2_pairPlace) (maxL := 2) (ret := (some .int)) (by decide) rfl ?_
  intro p e s m args below meth c s₁ B hml hv
  obtain ⟨rfl, hE, -⟩ := hv
  have hx := B.exec
  have hb := B.bytes
  have hr := B.returns
  have hts := atoms_spec (ws := wsX2_pairPlace) B.pre
  have hown : s.vm.findClass RX2 = some m.cls := findClass_of_methodNamed B.named
  have hlocks := B.notSynchronized
  have hl := lv_entry ([.int (nI a), .int (nI b)]) (n := 2) (Nat.le_of_ble_eq_true rfl)
  rw [lg_entry_eq]
  generalize (lg_sl ([.int (nI a), .int (nI b)]) ++ List.replicate (2 - (lg_sl ([.int (nI a), .int (nI b)])).length) Slot.unset).toArray = ls at hl ⊢
  have hl : lv_has ls 2 [(0, .int (nI a)), (1, .int (nI b))] := hl
  refine lv_bipush (v := nI 12) hx hb dX2_pairPlace_0 (by decide) ?_
  refine lv_iload_n hx hb dX2_pairPlace_2 rfl (lv_at hl 0 rfl) ?_
  refine hk_mulN hx hb dX2_pairPlace_3 ?_
  refine lv_iload_n hx hb dX2_pairPlace_4 rfl (lv_at hl 1 rfl) ?_
  refine hk_addN hx hb dX2_pairPlace_5 ?_
  exact W.iret (v := nI ((12 * a) + b)) hx hb hr (fun t ht hW => ⟨rfl, ht⟩) (fun _ h => nomatch h) dX2_pairPlace_6

set_option maxHeartbeats 4000000 in
set_option maxRecDepth 100000 in
theorem c_X2_swapped (l : Launch) (D : va_G) (ct : Nat → ClassId) (sa : Nat → Nat) (k x y : Int32) : Met l yX2_swapped wsX2_swapped ({ frames := 0, cells := 0, slots := 0, locals := 0 }) (hkPc D ct sa [.int k, .int x, .int y] (fun _ => True)) (QcRead (hkSw k x y)) 0 0 (fun _ => False) := by
  refine Met.ofW (cc := cX2_swapped) (maxL := 3) (ret := (some .int)) (by decide) rfl ?_
  intro p e s m args below meth c s₁ B hml hv
  obtain ⟨rfl, hE, -⟩ := hv
  have hx := B.exec
  have hb := B.bytes
  have hr := B.returns
  have hts := atoms_spec (ws := wsX2_swapped) B.pre
  have hown : s.vm.findClass RX2 = some m.cls := findClass_of_methodNamed B.named
  have hlocks := B.notSynchronized
  have hl := lv_entry ([.int k, .int x, .int y]) (n := 3) (Nat.le_of_ble_eq_true rfl)
  rw [lg_entry_eq]
  generalize (lg_sl ([.int k, .int x, .int y]) ++ List.replicate (3 - (lg_sl ([.int k, .int x, .int y])).length) Slot.unset).toArray = ls at hl ⊢
  have hl : lv_has ls 3 [(0, .int k), (1, .int x), (2, .int y)] := hl
  refine lv_iload_n hx hb dX2_swapped_0 rfl (lv_at hl 0 rfl) ?_
  refine lv_iload_n hx hb dX2_swapped_1 rfl (lv_at hl 1 rfl) ?_
  refine lv_icmp_ne (tgt := 7) hx hb dX2_swapped_2 (by decide) (fun c1 => ?_) (fun c1 => ?_)
  · refine lv_iload_n hx hb dX2_swapped_7 rfl (lv_at hl 0 rfl) ?_
    refine lv_iload_n hx hb dX2_swapped_8 rfl (lv_at hl 2 rfl) ?_
    refine lv_icmp_ne (tgt := 16) hx hb dX2_swapped_9 (by decide) (fun c2 => ?_) (fun c2 => ?_)
    · refine lv_iload_n hx hb dX2_swapped_16 rfl (lv_at hl 0 rfl) ?_
      exact W.iret (v := k) hx hb hr (fun t ht hW => ⟨by rw [hkSw, if_neg c1, if_neg c2], ht⟩) (fun _ h => nomatch h) dX2_swapped_17
    · refine lv_iload_n hx hb dX2_swapped_12 rfl (lv_at hl 1 rfl) ?_
      refine lv_goto (tgt := 17) hx hb dX2_swapped_13 (by decide) ?_
      exact W.iret (v := x) hx hb hr (fun t ht hW => ⟨by rw [hkSw, if_neg c1, if_pos c2], ht⟩) (fun _ h => nomatch h) dX2_swapped_17
  · refine lv_iload_n hx hb dX2_swapped_5 rfl (lv_at hl 2 rfl) ?_
    exact W.iret (v := y) hx hb hr (fun t ht hW => ⟨by rw [hkSw, if_pos c1], ht⟩) (fun _ h => nomatch h) dX2_swapped_6

set_option maxHeartbeats 4000000 in
set_option maxRecDepth 100000 in
/-- row[j] grows by one -/
theorem c_X2_count (l : Launch) (D : va_G) (ct : Nat → ClassId) (sa : Nat → Nat) (a N : Nat) (f : Nat → Int32) (j : Nat) (hN : N < 2 ^ 31) (hj : j < N) : Met l yX2_count wsX2_count ({ frames := 1, cells := 0, slots := 0, locals := 22 }) (hkPc D ct sa [.ref a, .int (nI j)] (fun H => va_P D vwCl [(a, .inl (ct 0, N, .inl f))] H ∧ va_D (fun _ => True) [(a, .inl (ct 0, N, .inl f))])) (hkQ none D [(a, .inl (ct 0, N, .inl (upd f j (f j + nI 1))))] [a]) 0 0 (hkA [a]) := by
  refine Met.ofW (cc := cX2_count) (maxL := 2) (ret := none) (by decide) rfl ?_
  intro p e s m args below meth c s₁ B hml hv
  obtain ⟨rfl, hE, hp⟩ := hv
  have hx := B.exec
  have hb := B.bytes
  have hr := B.returns
  have hts := atoms_spec (ws := wsX2_count) B.pre
  have hown : s.vm.findClass RX2 = some m.cls := findClass_of_methodNamed B.named
  have hlocks := B.notSynchronized
  obtain ⟨hP, hD0⟩ := hp
  have hD : va_D (hkA [a]) [(a, .inl (ct 0, N, .inl f))] := hD0.weaken (fun k q hk _ => hk_mem hk)
  have hS : va_S (hkA [a]) s.heap s.heap [] := va_S.rf
  have hl := lv_entry ([.ref a, .int (nI j)]) (n := 2) (Nat.le_of_ble_eq_true rfl)
  rw [lg_entry_eq]
  generalize (lg_sl ([.ref a, .int (nI j)]) ++ List.replicate (2 - (lg_sl ([.ref a, .int (nI j)])).length) Slot.unset).toArray = ls at hl ⊢
  have hl : lv_has ls 2 [(0, .ref a), (1, .int (nI j))] := hl
  refine lv_aload_n hx hb dX2_count_0 rfl (lv_at hl 0 rfl) ?_
  refine lv_iload_n hx hb dX2_count_1 rfl (lv_at hl 1 rfl) ?_
  refine lv_aload_n hx hb dX2_count_2 rfl (lv_at hl 0 rfl) ?_
  refine lv_iload_n hx hb dX2_count_3 rfl (lv_at hl 1 rfl) ?_
  refine hk_R (rest := [.int (nI j), .ref a]) (va_Run.run (va_runS (As := [.ref a, .int (nI j)]) (rest := [.int (nI j), .ref a]) ⟨hx, hb, hml, hown, hts⟩ (c_X2_at l D ct sa a N f (nI j) hN) (va_cwS 2 hts gX2_count_X2_at rfl rfl rfl (by decide +kernel) ⟨Nat.le_of_ble_eq_true rfl, Nat.le_of_ble_eq_true rfl⟩) (hk_preS hE (hP.sub (ws' := [(a, .inl (ct 0, N, .inl f))]) [0] rfl)) rfl rfl hl.1 rfl (lv_room (Nat.le_of_ble_eq_true rfl)) dX2_count_4 ⟨Nat.zero_le _, Nat.zero_le _⟩)) ?_
  refine hk_top (y := f j) (hkAt_in hj hN) ?_
  refine lv_iconst (v := nI 1) hx hb dX2_count_7 (by decide) ?_
  refine lv_iadd hx hb dX2_count_8 ?_
  refine hk_M (rest := []) (va_Run.run (va_runS (As := [.ref a, .int (nI j), .int ((f j) + (nI 1))]) (rest := []) ⟨hx, hb, hml, hown, hts⟩ (c_X2_put l D ct sa a N f j ((f j) + (nI 1)) hN hj) (va_cwS 3 hts gX2_count_X2_put rfl rfl rfl (by decide +kernel) ⟨Nat.le_of_ble_eq_true rfl, Nat.le_of_ble_eq_true rfl⟩) (hk_preS hE ⟨hP, hD.weaken (fun _ _ _ _ => trivial)⟩) rfl rfl hl.1 rfl (lv_room (Nat.le_of_ble_eq_true rfl)) dX2_count_9 ⟨Nat.zero_le _, Nat.zero_le _⟩)) hP hD hS [0] (wc := [(a, .inl (ct 0, N, .inl f))]) rfl rfl rfl (fun H locs hP hD hS => ?_)
  have hP : va_P D vwCl [(a, .inl (ct 0, N, .inl (upd f j ((f j) + (nI 1)))))] H := hP
  have hD : va_D (hkA [a]) [(a, .inl (ct 0, N, .inl (upd f j ((f j) + (nI 1)))))] := hD
  have hP9 : va_P D vwCl [(a, .inl (ct 0, N, .inl (upd f j ((f j) + (nI 1)))))] H := hP
  exact W.vret hx hb hr (fun t ht hW => ⟨rfl, by rw [ht]; exact hP9, by rw [ht]; exact ⟨hS.1, hS.2.1⟩⟩) hS.2.2 dX2_count_12

set_option maxHeartbeats 4000000 in
set_option maxRecDepth 100000 in
theorem c_X2_stepTime (l : Launch) (D : va_G) (ct : Nat → ClassId) (sa : Nat → Nat) (a b : Nat) (ha : a < 12) (hb9 : b < 12) : Met l yX2_stepTime wsX2_stepTime ({ frames := 1, cells := 0, slots := 0, locals := 20 }) (hkPc D ct sa [.int (nI a), .int (nI b)] (fun _ => True)) (QcRead (nI (stp a b))) 0 0 (fun _ => False) := by
  refine Met.ofW (cc := cX2_stepTime) (maxL := 2) (ret := (some .int)) (by decide) rfl ?_
  intro p e s m args below meth c s₁ B hml hv
  obtain ⟨rfl, hE, -⟩ := hv
  have hx := B.exec
  have hb := B.bytes
  have hr := B.returns
  have hts := atoms_spec (ws := wsX2_stepTime) B.pre
  have hown : s.vm.findClass RX2 = some m.cls := findClass_of_methodNamed B.named
  have hlocks := B.notSynchronized
  have hl := lv_entry ([.int (nI a), .int (nI b)]) (n := 2) (Nat.le_of_ble_eq_true rfl)
  rw [lg_entry_eq]
  generalize (lg_sl ([.int (nI a), .int (nI b)]) ++ List.replicate (2 - (lg_sl ([.int (nI a), .int (nI b)])).length) Slot.unset).toArray = ls at hl ⊢
  have hl : lv_has ls 2 [(0, .int (nI a)), (1, .int (nI b))] := hl
  refine lv_iload_n hx hb dX2_stepTime_0 rfl (lv_at hl 0 rfl) ?_
  refine lv_iload_n hx hb dX2_stepTime_1 rfl (lv_at hl 1 rfl) ?_
  refine hk_neN (tgt := 7) hx hb (by omega) (by omega) dX2_stepTime_2 (by decide) (fun c1 => ?_) (fun c1 => ?_)
  · refine lv_iload_n hx hb dX2_stepTime_7 rfl (lv_at hl 0 rfl) ?_
    refine hk_R (rest := []) (va_Run.run (va_runS (As := [.int (nI a)]) (rest := []) ⟨hx, hb, hml, hown, hts⟩ (c_X2_fingerOf l D ct sa a ha) (va_cwS 1 hts gX2_stepTime_X2_fingerOf rfl rfl rfl (by decide +kernel) ⟨Nat.le_of_ble_eq_true rfl, Nat.le_of_ble_eq_true rfl⟩) (hk_preS hE trivial) rfl rfl hl.1 rfl (lv_room (Nat.le_of_ble_eq_true rfl)) dX2_stepTime_8 ⟨Nat.zero_le _, Nat.zero_le _⟩)) ?_
    refine lv_iload_n hx hb dX2_stepTime_11 rfl (lv_at hl 1 rfl) ?_
    refine hk_R (rest := [.int (nI (a % 6))]) (va_Run.run (va_runS (As := [.int (nI b)]) (rest := [.int (nI (a % 6))]) ⟨hx, hb, hml, hown, hts⟩ (c_X2_fingerOf l D ct sa b hb9) (va_cwS 1 hts gX2_stepTime_X2_fingerOf rfl rfl rfl (by decide +kernel) ⟨Nat.le_of_ble_eq_true rfl, Nat.le_of_ble_eq_true rfl⟩) (hk_preS hE trivial) rfl rfl hl.1 rfl (lv_room (Nat.le_of_ble_eq_true rfl)) dX2_stepTime_12 ⟨Nat.zero_le _, Nat.zero_le _⟩)) ?_
    refine hk_neN (tgt := 35) hx hb (by omega) (by omega) dX2_stepTime_15 (by decide) (fun c2 => ?_) (fun c2 => ?_)
    · refine lv_iload_n hx hb dX2_stepTime_35 rfl (lv_at hl 0 rfl) ?_
      refine hk_R (rest := []) (va_Run.run (va_runS (As := [.int (nI a)]) (rest := []) ⟨hx, hb, hml, hown, hts⟩ (c_X2_handOf l D ct sa a ha) (va_cwS 1 hts gX2_stepTime_X2_handOf rfl rfl rfl (by decide +kernel) ⟨Nat.le_of_ble_eq_true rfl, Nat.le_of_ble_eq_true rfl⟩) (hk_preS hE trivial) rfl rfl hl.1 rfl (lv_room (Nat.le_of_ble_eq_true rfl)) dX2_stepTime_36 ⟨Nat.zero_le _, Nat.zero_le _⟩)) ?_
      refine lv_iload_n hx hb dX2_stepTime_39 rfl (lv_at hl 1 rfl) ?_
      refine hk_R (rest := [.int (nI (a % 6 / 3))]) (va_Run.run (va_runS (As := [.int (nI b)]) (rest := [.int (nI (a % 6 / 3))]) ⟨hx, hb, hml, hown, hts⟩ (c_X2_handOf l D ct sa b hb9) (va_cwS 1 hts gX2_stepTime_X2_handOf rfl rfl rfl (by decide +kernel) ⟨Nat.le_of_ble_eq_true rfl, Nat.le_of_ble_eq_true rfl⟩) (hk_preS hE trivial) rfl rfl hl.1 rfl (lv_room (Nat.le_of_ble_eq_true rfl)) dX2_stepTime_40 ⟨Nat.zero_le _, Nat.zero_le _⟩)) ?_
      refine hk_neN (tgt := 50) hx hb (by omega) (by omega) dX2_stepTime_43 (by decide) (fun c3 => ?_) (fun c3 => ?_)
      · refine lv_iconst (v := nI 2) hx hb dX2_stepTime_50 (by decide) ?_
        exact W.iret (v := nI 2) hx hb hr (fun t ht hW => ⟨by rw [stp, if_neg c1, if_neg c2, if_neg c3], ht⟩) (fun _ h => nomatch h) dX2_stepTime_51
      · refine lv_iconst (v := nI 4) hx hb dX2_stepTime_46 (by decide) ?_
        refine lv_goto (tgt := 51) hx hb dX2_stepTime_47 (by decide) ?_
        exact W.iret (v := nI 4) hx hb hr (fun t ht hW => ⟨by rw [stp, if_neg c1, if_neg c2, if_pos c3], ht⟩) (fun _ h => nomatch h) dX2_stepTime_51
    · refine lv_iconst (v := nI 5) hx hb dX2_stepTime_18 (by decide) ?_
      refine lv_iconst (v := nI 2) hx hb dX2_stepTime_19 (by decide) ?_
      refine lv_iload_n hx hb dX2_stepTime_20 rfl (lv_at hl 0 rfl) ?_
      refine hk_R (rest := [.int (nI 2), .int (nI 5)]) (va_Run.run (va_runS (As := [.int (nI a)]) (rest := [.int (nI 2), .int (nI 5)]) ⟨hx, hb, hml, hown, hts⟩ (c_X2_rowOf l D ct sa a ha) (va_cwS 1 hts gX2_stepTime_X2_rowOf rfl rfl rfl (by decide +kernel) ⟨Nat.le_of_ble_eq_true rfl, Nat.le_of_ble_eq_true rfl⟩) (hk_preS hE trivial) rfl rfl hl.1 rfl (lv_room (Nat.le_of_ble_eq_true rfl)) dX2_stepTime_21 ⟨Nat.zero_le _, Nat.zero_le _⟩)) ?_
      refine lv_iload_n hx hb dX2_stepTime_24 rfl (lv_at hl 1 rfl) ?_
      refine hk_R (rest := [.int (nI (a / 6)), .int (nI 2), .int (nI 5)]) (va_Run.run (va_runS (As := [.int (nI b)]) (rest := [.int (nI (a / 6)), .int (nI 2), .int (nI 5)]) ⟨hx, hb, hml, hown, hts⟩ (c_X2_rowOf l D ct sa b hb9) (va_cwS 1 hts gX2_stepTime_X2_rowOf rfl rfl rfl (by decide +kernel) ⟨Nat.le_of_ble_eq_true rfl, Nat.le_of_ble_eq_true rfl⟩) (hk_preS hE trivial) rfl rfl hl.1 rfl (lv_room (Nat.le_of_ble_eq_true rfl)) dX2_stepTime_25 ⟨Nat.zero_le _, Nat.zero_le _⟩)) ?_
      refine lv_isub hx hb dX2_stepTime_28 ?_
      refine va_mabs hx hb (hml.trans hl.1.symm) hown (hts (.methodLink RX2 204 Lib.Math.abs.name) (by decide +kernel)) (hts (.static Lib.Math.abs.name) (by decide +kernel)) (hts (.initialized "java/lang/Math") (by decide +kernel)) (hts (.code Lib.Math.abs.name Lib.Math.abs.code 1 (some .int)) (by decide +kernel)) (Nat.le_of_ble_eq_true rfl) (Nat.le_of_ble_eq_true rfl) (Nat.zero_le _) (Nat.zero_le _) dX2_stepTime_29 ?_
      refine hk_top (y := nI 1) (hk_abs a ha b hb9 c1 c2) ?_
      refine hk_mulN hx hb dX2_stepTime_32 ?_
      refine hk_addN hx hb dX2_stepTime_33 ?_
      exact W.iret (v := nI (5 + (2 * 1))) hx hb hr (fun t ht hW => ⟨by rw [stp, if_neg c1, if_pos c2], ht⟩) (fun _ h => nomatch h) dX2_stepTime_34
  · refine lv_iconst (v := nI 3) hx hb dX2_stepTime_5 (by decide) ?_
    exact W.iret (v := nI 3) hx hb hr (fun t ht hW => ⟨by rw [stp, if_pos c1], ht⟩) (fun _ h => nomatch h) dX2_stepTime_6
end
section
set_option maxHeartbeats 4000000 in
set_option maxRecDepth 100000 in
/-- the time of a text by a layout in which two keys are swapped -/
theorem c_X2_textTime (l : Launch) (D : va_G) (ct : Nat → ClassId) (sa : Nat → Nat) (t y n N : Nat) (tx kf g : Nat → Nat) (k1 k2 : Int32) (hN : N < 2 ^ 31) (hn : n ≤ N) (ht12 : ∀ p, p < n → tx p < 12) (hg : ∀ p, p < n → hkSw (nI (kf (tx p))) k1 k2 = nI (g p) ∧ g p < 12) : Met l yX2_textTime wsX2_textTime ({ frames := 2, cells := 0, slots := 0, locals := 41 }) (hkPc D ct sa [.ref t, .int (nI n), .ref y, .int k1, .int k2] (fun H => va_P D vwCl [(t, .inl (ct 0, N, .inl (fun p => nI (tx p)))), (y, .inl (ct 0, 12, .inl (fun x => nI (kf x))))] H)) (QcRead (nI (tt g n))) 0 0 (fun _ => False) := by
  refine Met.ofW (cc := cX2_textTime) (maxL := 9) (ret := (some .int)) (by decide) rfl ?_
  intro p e s m args below meth c s₁ B hml hv
  obtain ⟨rfl, hE, hP⟩ := hv
  have hx := B.exec
  have hb := B.bytes
  have hr := B.returns
  have hts := atoms_spec (ws := wsX2_textTime) B.pre
  have hown : s.vm.findClass RX2 = some m.cls := findClass_of_methodNamed B.named
  have hlocks := B.notSynchronized
  have hl := lv_entry ([.ref t, .int (nI n), .ref y, .int k1, .int k2]) (n := 9) (Nat.le_of_ble_eq_true rfl)
  rw [lg_entry_eq]
  generalize (lg_sl ([.ref t, .int (nI n), .ref y, .int k1, .int k2]) ++ List.replicate (9 - (lg_sl ([.ref t, .int (nI n), .ref y, .int k1, .int k2])).length) Slot.unset).toArray = ls at hl ⊢
  have hl : lv_has ls 9 [(0, .ref t), (1, .int (nI n)), (2, .ref y), (3, .int k1), (4, .int k2)] := hl
  refine lv_iconst (v := nI 0) hx hb dX2_textTime_0 (by decide) ?_
  refine lv_istore (lv' := [(5, .int (nI 0)), (0, .ref t), (1, .int (nI n)), (2, .ref y), (3, .int k1), (4, .int k2)]) hx hb dX2_textTime_1 hl (by decide) rfl (fun ls hl => ?_)
  refine lv_iconst (v := (-1)) hx hb dX2_textTime_3 (by decide) ?_
  refine lv_istore (lv' := [(6, .int (-1)), (5, .int (nI 0)), (0, .ref t), (1, .int (nI n)), (2, .ref y), (3, .int k1), (4, .int k2)]) hx hb dX2_textTime_4 hl (by decide) rfl (fun ls hl => ?_)
  refine lv_iconst (v := nI 0) hx hb dX2_textTime_6 (by decide) ?_
  refine lv_istore (lv' := [(7, .int (nI 0)), (6, .int (-1)), (5, .int (nI 0)), (0, .ref t), (1, .int (nI n)), (2, .ref y), (3, .int k1), (4, .int k2)]) hx hb dX2_textTime_7 hl (by decide) rfl (fun ls hl => ?_)
  have loop : ∀ (k : Nat) (i : Nat) (bf : Int32), n < i + k → i ≤ n → bf = (if i = 0 then (-1) else nI (g (i - 1))) → ∀ (ls : Array Slot), lv_has ls 9 [(0, .ref t), (1, .int (nI n)), (2, .ref y), (3, .int k1), (4, .int k2), (5, .int (nI (tt g i))), (6, .int bf), (7, .int (nI i))] → W p l e (headSpec wsX2_textTime ({ frames := 2, cells := 0, slots := 0, locals := 41 })).room s m ([.ref t, .int (nI n), .ref y, .int k1, .int k2] : List Value).toArray below meth c s.heap [] 0 0 (MQ below (QcRead (nI (tt g n))) ([.ref t, .int (nI n), .ref y, .int k1, .int k2] : List Value).toArray s 0 0 (fun _ => False)) (F0 m 9 ls []) := by
    intro k
    induction k with
    | zero => intro i bf hk; intros; exact absurd hk (by omega)
    | succ k ih_loop =>
      intro i bf hk hi hbf ls hl
      refine lv_iload hx hb dX2_textTime_9 (lv_at hl 7 rfl) ?_
      refine lv_iload_n hx hb dX2_textTime_11 rfl (lv_at hl 1 rfl) ?_
      refine hk_geN (tgt := 64) hx hb (by omega) (by omega) dX2_textTime_12 (by decide) (fun hc => ?_) (fun hc => ?_)
      · refine lv_iload hx hb dX2_textTime_64 (lv_at hl 5 rfl) ?_
        obtain rfl : i = n := by omega
        exact W.iret (v := nI (tt g i)) hx hb hr (fun t ht hW => ⟨rfl, ht⟩) (fun _ h => nomatch h) dX2_textTime_66
      · have hti : tx i < 12 := ht12 i hc
        obtain ⟨hg1, hg2⟩ := hg i hc
        refine lv_aload_n hx hb dX2_textTime_15 rfl (lv_at hl 2 rfl) ?_
        refine lv_aload_n hx hb dX2_textTime_16 rfl (lv_at hl 0 rfl) ?_
        refine lv_iload hx hb dX2_textTime_17 (lv_at hl 7 rfl) ?_
        refine hk_R (rest := [.ref y]) (va_Run.run (va_runS (As := [.ref t, .int (nI i)]) (rest := [.ref y]) ⟨hx, hb, hml, hown, hts⟩ (c_X2_at l D ct sa t N (fun p => nI (tx p)) (nI i) hN) (va_cwS 2 hts gX2_textTime_X2_at rfl rfl rfl (by decide +kernel) ⟨Nat.le_of_ble_eq_true rfl, Nat.le_of_ble_eq_true rfl⟩) (hk_preS hE (hP.sub (ws' := [(t, .inl (ct 0, N, .inl (fun p => nI (tx p))))]) [0] rfl)) rfl rfl hl.1 rfl (lv_room (Nat.le_of_ble_eq_true rfl)) dX2_textTime_19 ⟨Nat.zero_le _, Nat.zero_le _⟩)) ?_
        refine hk_top (y := nI (tx i)) (hkAt_in (by omega) hN) ?_
        refine hk_R (rest := []) (va_Run.run (va_runS (As := [.ref y, .int (nI (tx i))]) (rest := []) ⟨hx, hb, hml, hown, hts⟩ (c_X2_at l D ct sa y 12 (fun x => nI (kf x)) (nI (tx i)) (by decide)) (va_cwS 2 hts gX2_textTime_X2_at rfl rfl rfl (by decide +kernel) ⟨Nat.le_of_ble_eq_true rfl, Nat.le_of_ble_eq_true rfl⟩) (hk_preS hE (hP.sub (ws' := [(y, .inl (ct 0, 12, .inl (fun x => nI (kf x))))]) [1] rfl)) rfl rfl hl.1 rfl (lv_room (Nat.le_of_ble_eq_true rfl)) dX2_textTime_22 ⟨Nat.zero_le _, Nat.zero_le _⟩)) ?_
        refine hk_top (y := nI (kf (tx i))) (hkAt_in hti (by decide)) ?_
        refine lv_iload_n hx hb dX2_textTime_25 rfl (lv_at hl 3 rfl) ?_
        refine lv_iload hx hb dX2_textTime_26 (lv_at hl 4 rfl) ?_
        refine hk_R (rest := []) (va_Run.run (va_runS (As := [.int (nI (kf (tx i))), .int k1, .int k2]) (rest := []) ⟨hx, hb, hml, hown, hts⟩ (c_X2_swapped l D ct sa (nI (kf (tx i))) k1 k2) (va_cwS 3 hts gX2_textTime_X2_swapped rfl rfl rfl (by decide +kernel) ⟨Nat.le_of_ble_eq_true rfl, Nat.le_of_ble_eq_true rfl⟩) (hk_preS hE trivial) rfl rfl hl.1 rfl (lv_room (Nat.le_of_ble_eq_true rfl)) dX2_textTime_28 ⟨Nat.zero_le _, Nat.zero_le _⟩)) ?_
        refine hk_top (y := nI (g i)) hg1 ?_
        refine lv_istore (lv' := [(8, .int (nI (g i))), (0, .ref t), (1, .int (nI n)), (2, .ref y), (3, .int k1), (4, .int k2), (5, .int (nI (tt g i))), (6, .int bf), (7, .int (nI i))]) hx hb dX2_textTime_31 hl (by decide) rfl (fun ls hl => ?_)
        refine lv_iload hx hb dX2_textTime_33 (lv_at hl 6 rfl) ?_
        refine lv_iload hx hb dX2_textTime_35 (lv_at hl 8 rfl) ?_
        refine hk_ne0N (tgt := 44) hx hb (by omega) dX2_textTime_37 (by decide) (fun h0 => ?_) (fun h0 => ?_)
        · obtain ⟨j, rfl⟩ : ∃ j, i = j + 1 := ⟨i - 1, by omega⟩
          obtain rfl : bf = nI (g j) := hbf.trans (if_neg (Nat.succ_ne_zero j))
          have hgj : g j < 12 := (hg j (by omega)).2
          refine lv_iload hx hb dX2_textTime_44 (lv_at hl 7 rfl) ?_
          refine lv_iload hx hb dX2_textTime_46 (lv_at hl 0 rfl) ?_
          refine hk_R (rest := [.int (nI (tt g (j + 1)))]) (va_Run.run (va_runS (As := [.int (nI (g j)), .int (nI (g (j + 1)))]) (rest := [.int (nI (tt g (j + 1)))]) ⟨hx, hb, hml, hown, hts⟩ (c_X2_stepTime l D ct sa (g j) (g (j + 1)) hgj hg2) (va_cwS 2 hts gX2_textTime_X2_stepTime rfl rfl rfl (by decide +kernel) ⟨Nat.le_of_ble_eq_true rfl, Nat.le_of_ble_eq_true rfl⟩) (hk_preS hE trivial) rfl rfl hl.1 rfl (lv_room (Nat.le_of_ble_eq_true rfl)) dX2_textTime_48 ⟨Nat.zero_le _, Nat.zero_le _⟩)) ?_
          refine hk_addN hx hb dX2_textTime_51 ?_
          refine lv_istore (lv' := [(5, .int (nI ((tt g (j + 1)) + (stp (g j) (g (j + 1)))))), (8, .int (nI (g (j + 1)))), (0, .ref t), (1, .int (nI n)), (2, .ref y), (3, .int k1), (4, .int k2), (6, .int (nI (g j))), (7, .int (nI (j + 1)))]) hx hb dX2_textTime_52 hl (by decide) rfl (fun ls hl => ?_)
          refine lv_iload hx hb dX2_textTime_54 (lv_at hl 1 rfl) ?_
          refine lv_istore (lv' := [(6, .int (nI (g (j + 1)))), (5, .int (nI ((tt g (j + 1)) + (stp (g j) (g (j + 1)))))), (8, .int (nI (g (j + 1)))), (0, .ref t), (1, .int (nI n)), (2, .ref y), (3, .int k1), (4, .int k2), (7, .int (nI (j + 1)))]) hx hb dX2_textTime_56 hl (by decide) rfl (fun ls hl => ?_)
          refine lv_iinc (v := nI ((j + 1) + 1)) (lv' := [(7, .int (nI ((j + 1) + 1))), (6, .int (nI (g (j + 1)))), (5, .int (nI ((tt g (j + 1)) + (stp (g j) (g (j + 1)))))), (8, .int (nI (g (j + 1)))), (0, .ref t), (1, .int (nI n)), (2, .ref y), (3, .int k1), (4, .int k2)]) hx hb dX2_textTime_58 hl (k := 8) rfl (nI_add _ _) (by decide) rfl (fun ls hl => ?_)
          refine lv_goto (tgt := 9) hx hb dX2_textTime_61 (by decide) ?_
          exact ih_loop (j + 1 + 1) _ (by omega) (by omega) rfl ls (lv_sub hl [4, 5, 6, 7, 8, 2, 1, 0] rfl)
        · subst h0
          refine lv_iconst (v := nI 2) hx hb dX2_textTime_40 (by decide) ?_
          refine lv_goto (tgt := 51) hx hb dX2_textTime_41 (by decide) ?_
          refine hk_addN hx hb dX2_textTime_51 ?_
          refine lv_istore (lv' := [(5, .int (nI ((tt g 0) + 2))), (8, .int (nI (g 0))), (0, .ref t), (1, .int (nI n)), (2, .ref y), (3, .int k1), (4, .int k2), (6, .int bf), (7, .int (nI 0))]) hx hb dX2_textTime_52 hl (by decide) rfl (fun ls hl => ?_)
          refine lv_iload hx hb dX2_textTime_54 (lv_at hl 1 rfl) ?_
          refine lv_istore (lv' := [(6, .int (nI (g 0))), (5, .int (nI ((tt g 0) + 2))), (8, .int (nI (g 0))), (0, .ref t), (1, .int (nI n)), (2, .ref y), (3, .int k1), (4, .int k2), (7, .int (nI 0))]) hx hb dX2_textTime_56 hl (by decide) rfl (fun ls hl => ?_)
          refine lv_iinc (v := nI 1) (lv' := [(7, .int (nI 1)), (6, .int (nI (g 0))), (5, .int (nI ((tt g 0) + 2))), (8, .int (nI (g 0))), (0, .ref t), (1, .int (nI n)), (2, .ref y), (3, .int k1), (4, .int k2)]) hx hb dX2_textTime_58 hl (k := 8) rfl (nI_add _ _) (by decide) rfl (fun ls hl => ?_)
          refine lv_goto (tgt := 9) hx hb dX2_textTime_61 (by decide) ?_
          exact ih_loop 1 _ (by omega) (by omega) rfl ls (lv_sub hl [4, 5, 6, 7, 8, 2, 1, 0] rfl)
  exact loop (n + 1) 0 (-1) (by omega) (by omega) rfl ls (lv_sub hl [3, 4, 5, 6, 7, 2, 1, 0] rfl)
end
section
set_option maxHeartbeats 4000000 in
set_option maxRecDepth 100000 in
theorem c_X2_groupOf (l : Launch) (D : va_G) (ct : Nat → ClassId) (sa : Nat → Nat) (x : Int32) (k : Nat) (hk : k < 12) : Met l yX2_groupOf wsX2_groupOf ({ frames := 1, cells := 0, slots := 0, locals := 20 }) (hkPc D ct sa [.int x, .int (nI k)] (fun _ => True)) (QcRead (hkGr x k)) 0 0 (fun _ => False) := by
  refine Met.ofW (cc := cX2_groupOf) (maxL := 2) (ret := (some .int)) (by decide) rfl ?_
  intro p e s m args below meth c s₁ B hml hv
  obtain ⟨rfl, hE, -⟩ := hv
  have hx := B.exec
  have hb := B.bytes
  have hr := B.returns
  have hts := atoms_spec (ws := wsX2_groupOf) B.pre
  have hown : s.vm.findClass RX2 = some m.cls := findClass_of_methodNamed B.named
  have hlocks := B.notSynchronized
  have hl := lv_entry ([.int x, .int (nI k)]) (n := 2) (Nat.le_of_ble_eq_true rfl)
  rw [lg_entry_eq]
  generalize (lg_sl ([.int x, .int (nI k)]) ++ List.replicate (2 - (lg_sl ([.int x, .int (nI k)])).length) Slot.unset).toArray = ls at hl ⊢
  have hl : lv_has ls 2 [(0, .int x), (1, .int (nI k))] := hl
  refine lv_iload_n hx hb dX2_groupOf_0 rfl (lv_at hl 0 rfl) ?_
  rcases hk_t2 x with rfl | rfl | rfl | ⟨h0, h1, h2, hn⟩
  · refine lv_tableIn (tgt := 28) hx hb dX2_groupOf_1 (by decide) (by decide) rfl (by decide) ?_
    refine lv_iload_n hx hb dX2_groupOf_28 rfl (lv_at hl 1 rfl) ?_
    exact W.iret (v := nI k) hx hb hr (fun t ht hW => ⟨rfl, ht⟩) (fun _ h => nomatch h) dX2_groupOf_29
  · refine lv_tableIn (tgt := 30) hx hb dX2_groupOf_1 (by decide) (by decide) rfl (by decide) ?_
    refine lv_iload_n hx hb dX2_groupOf_30 rfl (lv_at hl 1 rfl) ?_
    refine hk_R (rest := []) (va_Run.run (va_runS (As := [.int (nI k)]) (rest := []) ⟨hx, hb, hml, hown, hts⟩ (c_X2_fingerOf l D ct sa k hk) (va_cwS 1 hts gX2_groupOf_X2_fingerOf rfl rfl rfl (by decide +kernel) ⟨Nat.le_of_ble_eq_true rfl, Nat.le_of_ble_eq_true rfl⟩) (hk_preS hE trivial) rfl rfl hl.1 rfl (lv_room (Nat.le_of_ble_eq_true rfl)) dX2_groupOf_31 ⟨Nat.zero_le _, Nat.zero_le _⟩)) ?_
    exact W.iret (v := nI (k % 6)) hx hb hr (fun t ht hW => ⟨rfl, ht⟩) (fun _ h => nomatch h) dX2_groupOf_34
  · refine lv_tableIn (tgt := 35) hx hb dX2_groupOf_1 (by decide) (by decide) rfl (by decide) ?_
    refine lv_iload_n hx hb dX2_groupOf_35 rfl (lv_at hl 1 rfl) ?_
    refine hk_R (rest := []) (va_Run.run (va_runS (As := [.int (nI k)]) (rest := []) ⟨hx, hb, hml, hown, hts⟩ (c_X2_handOf l D ct sa k hk) (va_cwS 1 hts gX2_groupOf_X2_handOf rfl rfl rfl (by decide +kernel) ⟨Nat.le_of_ble_eq_true rfl, Nat.le_of_ble_eq_true rfl⟩) (hk_preS hE trivial) rfl rfl hl.1 rfl (lv_room (Nat.le_of_ble_eq_true rfl)) dX2_groupOf_36 ⟨Nat.zero_le _, Nat.zero_le _⟩)) ?_
    exact W.iret (v := nI (k % 6 / 3)) hx hb hr (fun t ht hW => ⟨rfl, ht⟩) (fun _ h => nomatch h) dX2_groupOf_39
  · refine lv_tableOut (tgt := 40) hx hb dX2_groupOf_1 hn (by decide) ?_
    refine lv_iconst (v := nI 0) hx hb dX2_groupOf_40 (by decide) ?_
    exact W.iret (v := nI 0) hx hb hr (fun t ht hW => ⟨by rw [hkGr, if_neg h0, if_neg h1, if_neg h2]; rfl, ht⟩) (fun _ h => nomatch h) dX2_groupOf_41

set_option maxHeartbeats 4000000 in
set_option maxRecDepth 100000 in
theorem c_X2_groups (l : Launch) (D : va_G) (ct : Nat → ClassId) (sa : Nat → Nat) (x : Int32) : Met l yX2_groups wsX2_groups ({ frames := 0, cells := 0, slots := 0, locals := 0 }) (hkPc D ct sa [.int x] (fun _ => True)) (QcRead (hkGs x)) 0 0 (fun _ => False) := by
  refine Met.ofW (cc := cX2_groups) (maxL := 1) (ret := (some .int)) (by decide) rfl ?_
  intro p e s m args below meth c s₁ B hml hv
  obtain ⟨rfl, hE, -⟩ := hv
  have hx := B.exec
  have hb := B.bytes
  have hr := B.returns
  have hts := atoms_spec (ws := wsX2_groups) B.pre
  have hown : s.vm.findClass RX2 = some m.cls := findClass_of_methodNamed B.named
  have hlocks := B.notSynchronized
  have hl := lv_entry ([.int x]) (n := 1) (Nat.le_of_ble_eq_true rfl)
  rw [lg_entry_eq]
  generalize (lg_sl ([.int x]) ++ List.replicate (1 - (lg_sl ([.int x])).length) Slot.unset).toArray = ls at hl ⊢
  have hl : lv_has ls 1 [(0, .int x)] := hl
  refine lv_iload_n hx hb dX2_groups_0 rfl (lv_at hl 0 rfl) ?_
  rcases hk_t3 x with rfl | rfl | rfl | rfl | ⟨h0, h1, h2, h3, hn⟩
  · refine lv_tableIn (tgt := 32) hx hb dX2_groups_1 (by decide) (by decide) rfl (by decide) ?_
    refine lv_bipush (v := nI 12) hx hb dX2_groups_32 (by decide) ?_
    exact W.iret (v := nI 12) hx hb hr (fun t ht hW => ⟨rfl, ht⟩) (fun _ h => nomatch h) dX2_groups_34
  · refine lv_tableIn (tgt := 35) hx hb dX2_groups_1 (by decide) (by decide) rfl (by decide) ?_
    refine lv_bipush (v := nI 6) hx hb dX2_groups_35 (by decide) ?_
    exact W.iret (v := nI 6) hx hb hr (fun t ht hW => ⟨rfl, ht⟩) (fun _ h => nomatch h) dX2_groups_37
  · refine lv_tableIn (tgt := 38) hx hb dX2_groups_1 (by decide) (by decide) rfl (by decide) ?_
    refine lv_iconst (v := nI 2) hx hb dX2_groups_38 (by decide) ?_
    exact W.iret (v := nI 2) hx hb hr (fun t ht hW => ⟨rfl, ht⟩) (fun _ h => nomatch h) dX2_groups_39
  · refine lv_tableIn (tgt := 40) hx hb dX2_groups_1 (by decide) (by decide) rfl (by decide) ?_
    refine lv_iconst (v := nI 1) hx hb dX2_groups_40 (by decide) ?_
    exact W.iret (v := nI 1) hx hb hr (fun t ht hW => ⟨rfl, ht⟩) (fun _ h => nomatch h) dX2_groups_41
  · refine lv_tableOut (tgt := 42) hx hb dX2_groups_1 hn (by decide) ?_
    refine lv_iconst (v := nI 0) hx hb dX2_groups_42 (by decide) ?_
    exact W.iret (v := nI 0) hx hb hr (fun t ht hW => ⟨by rw [hkGs, if_neg h0, if_neg h1, if_neg h2, if_neg h3]; rfl, ht⟩) (fun _ h => nomatch h) dX2_groups_43

set_option maxHeartbeats 4000000 in
set_option maxRecDepth 100000 in
theorem c_X1_timeWith (l : Launch) (D : va_G) (ct : Nat → ClassId) (sa : Nat → Nat) (q0 q1 q2 q3 q4 q5 kp : Nat) (K L T : Nat → Nat) (S P : Nat → Int32) (Y C : Int32) (g : Nat → Nat) (k1 k2 : Int32) (hkp : kp ≤ 30) (hT : ∀ p, T p < 12) (hg : ∀ p, p < kp → hkSw (nI (K (T p))) k1 k2 = nI (g p) ∧ g p < 12) : Met l yX1_timeWith wsX1_timeWith ({ frames := 3, cells := 0, slots := 0, locals := 69 }) (hkPc D ct sa [.ref q0, .int k1, .int k2] (fun H => va_P D vwCl [(q0, .inr (1, [.ref q1, .ref q2, .int Y, .ref q3, .ref q4, .ref q5, .int (nI kp), .int C])), (q1, .inl (ct 0, 12, .inl (fun j => nI (K j)))), (q2, .inl (ct 0, 12, .inl (fun j => nI (L j)))), (q3, .inl (ct 0, 12, .inl S)), (q4, .inl (ct 0, 144, .inl P)), (q5, .inl (ct 0, 30, .inl (fun j => nI (T j))))] H)) (QcRead (nI (tt g kp))) 0 0 (fun _ => False) := by
  refine Met.ofW (cc := cX1_timeWith) (maxL := 3) (ret := (some .int)) (by decide) rfl ?_
  intro p e s m args below meth c s₁ B hml hv
  obtain ⟨rfl, hE, hP⟩ := hv
  have hx := B.exec
  have hb := B.bytes
  have hr := B.returns
  have hts := atoms_spec (ws := wsX1_timeWith) B.pre
  have hown : s.vm.findClass RX1 = some m.cls := findClass_of_methodNamed B.named
  have hlocks := B.notSynchronized
  have hin1 : ∀ w ∈ wsX10, w ∈ wsX1_timeWith := by decide +kernel
  have hl := lv_entry ([.ref q0, .int k1, .int k2]) (n := 3) (Nat.le_of_ble_eq_true rfl)
  rw [lg_entry_eq]
  generalize (lg_sl ([.ref q0, .int k1, .int k2]) ++ List.replicate (3 - (lg_sl ([.ref q0, .int k1, .int k2])).length) Slot.unset).toArray = ls at hl ⊢
  have hl : lv_has ls 3 [(0, .ref q0), (1, .int k1), (2, .int k2)] := hl
  refine lv_aload_n hx hb dX1_timeWith_0 rfl (lv_at hl 0 rfl) ?_
  refine va_get (D := D) (ci := 1) (v := .ref q5) (C := RX1) (T := TX1) (N := 8) hx hb hts hin1 hown hE.1 hP 0 rfl rfl 5 (by decide) (hts (.fieldLink RX1 28 "Homekeys$Student" "typed" "[I") (by decide +kernel)) (fun _ h9 => h9) rfl dX1_timeWith_1 ?_
  refine lv_aload_n hx hb dX1_timeWith_4 rfl (lv_at hl 0 rfl) ?_
  refine va_get (D := D) (ci := 1) (v := .int (nI kp)) (C := RX1) (T := TX1) (N := 8) hx hb hts hin1 hown hE.1 hP 0 rfl rfl 6 (by decide) (hts (.fieldLink RX1 31 "Homekeys$Student" "kept" "I") (by decide +kernel)) (fun _ h9 => h9) rfl dX1_timeWith_5 ?_
  refine lv_aload_n hx hb dX1_timeWith_8 rfl (lv_at hl 0 rfl) ?_
  refine va_get (D := D) (ci := 1) (v := .ref q1) (C := RX1) (T := TX1) (N := 8) hx hb hts hin1 hown hE.1 hP 0 rfl rfl 0 (by decide) (hts (.fieldLink RX1 9 "Homekeys$Student" "keys" "[I") (by decide +kernel)) (fun _ h9 => h9) rfl dX1_timeWith_9 ?_
  refine lv_iload_n hx hb dX1_timeWith_12 rfl (lv_at hl 1 rfl) ?_
  refine lv_iload_n hx hb dX1_timeWith_13 rfl (lv_at hl 2 rfl) ?_
  refine hk_R (rest := []) (va_Run.run (va_runSN (host := RX2) (As := [.ref q5, .int (nI kp), .ref q1, .int k1, .int k2]) (rest := []) ⟨hx, hb, hml, hown, hts⟩ (c_X2_textTime l D ct sa q5 q1 kp 30 T K g k1 k2 (by decide) hkp (fun p _ => hT p) hg) ⟨va_cnB 5 hts gX1_timeWith_X2_textTime_n66 rfl rfl rfl (hE.nw hkN_X1_66) (hts (.initialized RX2) (by decide +kernel)) (by decide +kernel) ⟨Nat.le_of_ble_eq_true rfl, Nat.le_of_ble_eq_true rfl⟩, hts (.static yX2_textTime) (by decide +kernel), trivial⟩ (hk_preS hE (hP.sub (ws' := [(q5, .inl (ct 0, 30, .inl (fun j => nI (T j)))), (q1, .inl (ct 0, 12, .inl (fun j => nI (K j))))]) [5, 1] rfl)) rfl rfl hl.1 rfl (lv_room (Nat.le_of_ble_eq_true rfl)) dX1_timeWith_14 ⟨Nat.zero_le _, Nat.zero_le _⟩)) ?_
  exact W.iret (v := nI (tt g kp)) hx hb hr (fun t ht hW => ⟨rfl, ht⟩) (fun _ h => nomatch h) dX1_timeWith_17

set_option maxHeartbeats 4000000 in
set_option maxRecDepth 100000 in
theorem c_X1_savedBy (l : Launch) (D : va_G) (ct : Nat → ClassId) (sa : Nat → Nat) (q0 q1 q2 q3 q4 q5 kp : Nat) (K L T : Nat → Nat) (S P : Nat → Int32) (Y C : Int32) (a b : Nat) (hkp : kp ≤ 30) (hT : ∀ p, T p < 12) (hK : ∀ x, x < 12 → K x < 12) (ha : a < 12) (hb9 : b < 12) : Met l yX1_savedBy wsX1_savedBy ({ frames := 4, cells := 0, slots := 0, locals := 91 }) (hkPc D ct sa [.ref q0, .int (nI a), .int (nI b)] (fun H => va_P D vwCl [(q0, .inr (1, [.ref q1, .ref q2, .int Y, .ref q3, .ref q4, .ref q5, .int (nI kp), .int C])), (q1, .inl (ct 0, 12, .inl (fun j => nI (K j)))), (q2, .inl (ct 0, 12, .inl (fun j => nI (L j)))), (q3, .inl (ct 0, 12, .inl S)), (q4, .inl (ct 0, 144, .inl P)), (q5, .inl (ct 0, 30, .inl (fun j => nI (T j))))] H)) (QcRead (sv K T kp a b)) 0 0 (fun _ => False) := by
  refine Met.ofW (cc := cX1_savedBy) (maxL := 3) (ret := (some .int)) (by decide) rfl ?_
  intro p e s m args below meth c s₁ B hml hv
  obtain ⟨rfl, hE, hP⟩ := hv
  have hx := B.exec
  have hb := B.bytes
  have hr := B.returns
  have hts := atoms_spec (ws := wsX1_savedBy) B.pre
  have hown : s.vm.findClass RX1 = some m.cls := findClass_of_methodNamed B.named
  have hlocks := B.notSynchronized
  have hl := lv_entry ([.ref q0, .int (nI a), .int (nI b)]) (n := 3) (Nat.le_of_ble_eq_true rfl)
  rw [lg_entry_eq]
  generalize (lg_sl ([.ref q0, .int (nI a), .int (nI b)]) ++ List.replicate (3 - (lg_sl ([.ref q0, .int (nI a), .int (nI b)])).length) Slot.unset).toArray = ls at hl ⊢
  have hl : lv_has ls 3 [(0, .ref q0), (1, .int (nI a)), (2, .int (nI b))] := hl
  refine lv_aload_n hx hb dX1_savedBy_0 rfl (lv_at hl 0 rfl) ?_
  refine lv_iconst (v := (-1)) hx hb dX1_savedBy_1 (by decide) ?_
  refine lv_iconst (v := (-1)) hx hb dX1_savedBy_2 (by decide) ?_
  refine hk_R (rest := []) (va_Run.run (va_runV (As := [.int (-1), .int (-1)]) (rest := []) ⟨hx, hb, hml, hown, hts⟩ (c_X1_timeWith l D ct sa q0 q1 q2 q3 q4 q5 kp K L T S P Y C (gk K T) (-1) (-1) hkp hT (fun p _ => ⟨hkSw_m1 (hK _ (hT p)), hK _ (hT p)⟩)) (cwV 2 hts gX1_savedBy_X1_timeWith rfl rfl rfl (by decide +kernel) ⟨Nat.le_of_ble_eq_true rfl, Nat.le_of_ble_eq_true rfl⟩) (hk_preV hE (va_recv hE.1 hP (ci := 1) (q0 := 0) rfl rfl) hP) rfl rfl hl.1 rfl (lv_room (Nat.le_of_ble_eq_true rfl)) dX1_savedBy_3 ⟨Nat.zero_le _, Nat.zero_le _⟩)) ?_
  refine lv_aload_n hx hb dX1_savedBy_6 rfl (lv_at hl 0 rfl) ?_
  refine lv_iload_n hx hb dX1_savedBy_7 rfl (lv_at hl 1 rfl) ?_
  refine lv_iload_n hx hb dX1_savedBy_8 rfl (lv_at hl 2 rfl) ?_
  refine hk_R (rest := [.int (nI (tt (gk K T) kp))]) (va_Run.run (va_runV (As := [.int (nI a), .int (nI b)]) (rest := [.int (nI (tt (gk K T) kp))]) ⟨hx, hb, hml, hown, hts⟩ (c_X1_timeWith l D ct sa q0 q1 q2 q3 q4 q5 kp K L T S P Y C (gs K T a b) (nI a) (nI b) hkp hT (fun p _ => ⟨hkSw_nI ha hb9 (hK _ (hT p)), swp_lt ha hb9 (hK _ (hT p))⟩)) (cwV 2 hts gX1_savedBy_X1_timeWith rfl rfl rfl (by decide +kernel) ⟨Nat.le_of_ble_eq_true rfl, Nat.le_of_ble_eq_true rfl⟩) (hk_preV hE (va_recv hE.1 hP (ci := 1) (q0 := 0) rfl rfl) hP) rfl rfl hl.1 rfl (lv_room (Nat.le_of_ble_eq_true rfl)) dX1_savedBy_9 ⟨Nat.zero_le _, Nat.zero_le _⟩)) ?_
  refine lv_isub hx hb dX1_savedBy_12 ?_
  exact W.iret (v := (nI (tt (gk K T) kp)) - (nI (tt (gs K T a b) kp))) hx hb hr (fun t ht hW => ⟨rfl, ht⟩) (fun _ h => nomatch h) dX1_savedBy_13

set_option maxHeartbeats 4000000 in
set_option maxRecDepth 100000 in
theorem c_X1_bestExchange (l : Launch) (D : va_G) (ct : Nat → ClassId) (sa : Nat → Nat) (q0 q1 q2 q3 q4 q5 kp : Nat) (K L T : Nat → Nat) (S P : Nat → Int32) (Y C : Int32) (hkp : kp ≤ 30) (hT : ∀ p, T p < 12) (hK : ∀ x, x < 12 → K x < 12) : Met l yX1_bestExchange wsX1_bestExchange ({ frames := 4, cells := 0, slots := 0, locals := 91 }) (hkPc D ct sa [.ref q0] (fun H => va_P D vwCl [(q0, .inr (1, [.ref q1, .ref q2, .int Y, .ref q3, .ref q4, .ref q5, .int (nI kp), .int C])), (q1, .inl (ct 0, 12, .inl (fun j => nI (K j)))), (q2, .inl (ct 0, 12, .inl (fun j => nI (L j)))), (q3, .inl (ct 0, 12, .inl S)), (q4, .inl (ct 0, 144, .inl P)), (q5, .inl (ct 0, 30, .inl (fun j => nI (T j))))] H)) (QcRead (bs K T kp 144).1) 0 0 (fun _ => False) := by
  refine Met.ofW (cc := cX1_bestExchange) (maxL := 7) (ret := (some .int)) (by decide) rfl ?_
  intro p e s m args below meth c s₁ B hml hv
  obtain ⟨rfl, hE, hP⟩ := hv
  have hx := B.exec
  have hb := B.bytes
  have hr := B.returns
  have hts := atoms_spec (ws := wsX1_bestExchange) B.pre
  have hown : s.vm.findClass RX1 = some m.cls := findClass_of_methodNamed B.named
  have hlocks := B.notSynchronized
  have hl := lv_entry ([.ref q0]) (n := 7) (Nat.le_of_ble_eq_true rfl)
  rw [lg_entry_eq]
  generalize (lg_sl ([.ref q0]) ++ List.replicate (7 - (lg_sl ([.ref q0])).length) Slot.unset).toArray = ls at hl ⊢
  have hl : lv_has ls 7 [(0, .ref q0)] := hl
  refine lv_aload_n hx hb dX1_bestExchange_0 rfl (lv_at hl 0 rfl) ?_
  refine lv_iconst (v := (-1)) hx hb dX1_bestExchange_1 (by decide) ?_
  refine lv_iconst (v := (-1)) hx hb dX1_bestExchange_2 (by decide) ?_
  refine hk_R (rest := []) (va_Run.run (va_runV (As := [.int (-1), .int (-1)]) (rest := []) ⟨hx, hb, hml, hown, hts⟩ (c_X1_timeWith l D ct sa q0 q1 q2 q3 q4 q5 kp K L T S P Y C (gk K T) (-1) (-1) hkp hT (fun p _ => ⟨hkSw_m1 (hK _ (hT p)), hK _ (hT p)⟩)) (cwV 2 hts gX1_bestExchange_X1_timeWith rfl rfl rfl (by decide +kernel) ⟨Nat.le_of_ble_eq_true rfl, Nat.le_of_ble_eq_true rfl⟩) (hk_preV hE (va_recv hE.1 hP (ci := 1) (q0 := 0) rfl rfl) hP) rfl rfl hl.1 rfl (lv_room (Nat.le_of_ble_eq_true rfl)) dX1_bestExchange_3 ⟨Nat.zero_le _, Nat.zero_le _⟩)) ?_
  refine lv_istore_n (lv' := [(1, .int (nI (tt (gk K T) kp))), (0, .ref q0)]) hx hb dX1_bestExchange_6 rfl hl (by decide) rfl (fun ls hl => ?_)
  refine lv_iconst (v := nI 0) hx hb dX1_bestExchange_7 (by decide) ?_
  refine lv_istore_n (lv' := [(2, .int (nI 0)), (1, .int (nI (tt (gk K T) kp))), (0, .ref q0)]) hx hb dX1_bestExchange_8 rfl hl (by decide) rfl (fun ls hl => ?_)
  refine lv_iconst (v := (-1)) hx hb dX1_bestExchange_9 (by decide) ?_
  refine lv_istore_n (lv' := [(3, .int (-1)), (2, .int (nI 0)), (1, .int (nI (tt (gk K T) kp))), (0, .ref q0)]) hx hb dX1_bestExchange_10 rfl hl (by decide) rfl (fun ls hl => ?_)
  refine lv_iconst (v := nI 0) hx hb dX1_bestExchange_11 (by decide) ?_
  refine lv_istore (lv' := [(4, .int (nI 0)), (3, .int (-1)), (2, .int (nI 0)), (1, .int (nI (tt (gk K T) kp))), (0, .ref q0)]) hx hb dX1_bestExchange_12 hl (by decide) rfl (fun ls hl => ?_)
  have loop : ∀ (k : Nat) (i : Nat), 12 < i + k → i ≤ 12 → ∀ (ls : Array Slot), lv_has ls 7 [(0, .ref q0), (1, .int (nI (tt (gk K T) kp))), (2, .int ((bs K T kp (12 * i)).2)), (3, .int ((bs K T kp (12 * i)).1)), (4, .int (nI i))] → W p l e (headSpec wsX1_bestExchange ({ frames := 4, cells := 0, slots := 0, locals := 91 })).room s m ([.ref q0] : List Value).toArray below meth c s.heap [] 0 0 (MQ below (QcRead (bs K T kp 144).1) ([.ref q0] : List Value).toArray s 0 0 (fun _ => False)) (F0 m 14 ls []) := by
    intro k
    induction k with
    | zero => intro i hk; intros; exact absurd hk (by omega)
    | succ k ih_loop =>
      intro i hk hi ls hl
      refine lv_iload hx hb dX1_bestExchange_14 (lv_at hl 4 rfl) ?_
      refine lv_bipush (v := nI 12) hx hb dX1_bestExchange_16 (by decide) ?_
      refine hk_geN (tgt := 76) hx hb (by omega) (by omega) dX1_bestExchange_18 (by decide) (fun hc => ?_) (fun hc => ?_)
      · obtain rfl : i = 12 := by omega
        refine lv_iload_n hx hb dX1_bestExchange_76 rfl (lv_at hl 3 rfl) ?_
        exact W.iret (v := (bs K T kp (12 * 12)).1) hx hb hr (fun t ht hW => ⟨rfl, ht⟩) (fun _ h => nomatch h) dX1_bestExchange_77
      · refine lv_iload hx hb dX1_bestExchange_21 (lv_at hl 4 rfl) ?_
        refine lv_iconst (v := nI 1) hx hb dX1_bestExchange_23 (by decide) ?_
        refine hk_addN hx hb dX1_bestExchange_24 ?_
        refine lv_istore (lv' := [(5, .int (nI (i + 1))), (0, .ref q0), (1, .int (nI (tt (gk K T) kp))), (2, .int ((bs K T kp (12 * i)).2)), (3, .int ((bs K T kp (12 * i)).1)), (4, .int (nI i))]) hx hb dX1_bestExchange_25 hl (by decide) rfl (fun ls hl => ?_)
        have loop2 : ∀ (k : Nat) (j : Nat), 12 < j + k → j ≤ 12 → i < j → ∀ (ls : Array Slot), lv_has ls 7 [(0, .ref q0), (1, .int (nI (tt (gk K T) kp))), (2, .int ((bs K T kp (12 * i + j)).2)), (3, .int ((bs K T kp (12 * i + j)).1)), (4, .int (nI i)), (5, .int (nI j))] → W p l e (headSpec wsX1_bestExchange ({ frames := 4, cells := 0, slots := 0, locals := 91 })).room s m ([.ref q0] : List Value).toArray below meth c s.heap [] 0 0 (MQ below (QcRead (bs K T kp 144).1) ([.ref q0] : List Value).toArray s 0 0 (fun _ => False)) (F0 m 27 ls []) := by
          intro k
          induction k with
          | zero => intro j hk; intros; exact absurd hk (by omega)
          | succ k ih_loop2 =>
            intro j hk hj hij ls hl
            refine lv_iload hx hb dX1_bestExchange_27 (lv_at hl 5 rfl) ?_
            refine lv_bipush (v := nI 12) hx hb dX1_bestExchange_29 (by decide) ?_
            refine hk_geN (tgt := 70) hx hb (by omega) (by omega) dX1_bestExchange_31 (by decide) (fun hc => ?_) (fun hc => ?_)
            · obtain rfl : j = 12 := by omega
              refine lv_iinc (v := nI (i + 1)) (lv' := [(4, .int (nI (i + 1))), (0, .ref q0), (1, .int (nI (tt (gk K T) kp))), (2, .int ((bs K T kp (12 * i + 12)).2)), (3, .int ((bs K T kp (12 * i + 12)).1)), (5, .int (nI 12))]) hx hb dX1_bestExchange_70 hl (k := 4) rfl (nI_add _ _) (by decide) rfl (fun ls hl => ?_)
              refine lv_goto (tgt := 14) hx hb dX1_bestExchange_73 (by decide) ?_
              exact ih_loop (i + 1) (by omega) (by omega) ls (lv_sub hl [1, 2, 3, 4, 0] rfl)
            · refine lv_iload_n hx hb dX1_bestExchange_34 rfl (lv_at hl 1 rfl) ?_
              refine lv_aload_n hx hb dX1_bestExchange_35 rfl (lv_at hl 0 rfl) ?_
              refine lv_iload hx hb dX1_bestExchange_36 (lv_at hl 4 rfl) ?_
              refine lv_iload hx hb dX1_bestExchange_38 (lv_at hl 5 rfl) ?_
              refine hk_R (rest := [.int (nI (tt (gk K T) kp))]) (va_Run.run (va_runV (As := [.int (nI i), .int (nI j)]) (rest := [.int (nI (tt (gk K T) kp))]) ⟨hx, hb, hml, hown, hts⟩ (c_X1_timeWith l D ct sa q0 q1 q2 q3 q4 q5 kp K L T S P Y C (gs K T i j) (nI i) (nI j) hkp hT (fun p _ => ⟨hkSw_nI (by omega) (by omega) (hK _ (hT p)), swp_lt (by omega) (by omega) (hK _ (hT p))⟩)) (cwV 2 hts gX1_bestExchange_X1_timeWith rfl rfl rfl (by decide +kernel) ⟨Nat.le_of_ble_eq_true rfl, Nat.le_of_ble_eq_true rfl⟩) (hk_preV hE (va_recv hE.1 hP (ci := 1) (q0 := 0) rfl rfl) hP) rfl rfl hl.1 rfl (lv_room (Nat.le_of_ble_eq_true rfl)) dX1_bestExchange_40 ⟨Nat.zero_le _, Nat.zero_le _⟩)) ?_
              refine lv_isub hx hb dX1_bestExchange_43 ?_
              refine lv_istore (lv' := [(6, .int (sv K T kp i j)), (0, .ref q0), (1, .int (nI (tt (gk K T) kp))), (2, .int ((bs K T kp (12 * i + j)).2)), (3, .int ((bs K T kp (12 * i + j)).1)), (4, .int (nI i)), (5, .int (nI j))]) hx hb dX1_bestExchange_44 hl (by decide) rfl (fun ls hl => ?_)
              refine lv_iload hx hb dX1_bestExchange_46 (lv_at hl 0 rfl) ?_
              refine lv_iload_n hx hb dX1_bestExchange_48 rfl (lv_at hl 3 rfl) ?_
              have hst := bs_step K T kp i j (by omega) hij
              refine lv_icmp_le (tgt := 64) hx hb dX1_bestExchange_49 (by decide) (fun hc => ?_) (fun hc => ?_)
              · rw [if_neg (Int32.not_lt.mpr hc)] at hst
                refine lv_iinc (v := nI (j + 1)) (lv' := [(5, .int (nI (j + 1))), (6, .int (sv K T kp i j)), (0, .ref q0), (1, .int (nI (tt (gk K T) kp))), (2, .int ((bs K T kp (12 * i + j)).2)), (3, .int ((bs K T kp (12 * i + j)).1)), (4, .int (nI i))]) hx hb dX1_bestExchange_64 hl (k := 6) rfl (nI_add _ _) (by decide) rfl (fun ls hl => ?_)
                refine lv_goto (tgt := 27) hx hb dX1_bestExchange_67 (by decide) ?_
                exact ih_loop2 (j + 1) (by omega) (by omega) (by omega) ls (by rw [show 12 * i + (j + 1) = 12 * i + j + 1 from rfl, hst]; exact lv_sub hl [2, 3, 4, 5, 6, 0] rfl)
              · rw [if_pos (Int32.not_le.mp hc)] at hst
                refine lv_iload hx hb dX1_bestExchange_52 (lv_at hl 0 rfl) ?_
                refine lv_istore_n (lv' := [(2, .int (sv K T kp i j)), (6, .int (sv K T kp i j)), (0, .ref q0), (1, .int (nI (tt (gk K T) kp))), (3, .int ((bs K T kp (12 * i + j)).1)), (4, .int (nI i)), (5, .int (nI j))]) hx hb dX1_bestExchange_54 rfl hl (by decide) rfl (fun ls hl => ?_)
                refine lv_bipush (v := nI 12) hx hb dX1_bestExchange_55 (by decide) ?_
                refine lv_iload hx hb dX1_bestExchange_57 (lv_at hl 5 rfl) ?_
                refine hk_mulN hx hb dX1_bestExchange_59 ?_
                refine lv_iload hx hb dX1_bestExchange_60 (lv_at hl 6 rfl) ?_
                refine hk_addN hx hb dX1_bestExchange_62 ?_
                refine lv_istore_n (lv' := [(3, .int (nI ((12 * i) + j))), (2, .int (sv K T kp i j)), (6, .int (sv K T kp i j)), (0, .ref q0), (1, .int (nI (tt (gk K T) kp))), (4, .int (nI i)), (5, .int (nI j))]) hx hb dX1_bestExchange_63 rfl hl (by decide) rfl (fun ls hl => ?_)
                refine lv_iinc (v := nI (j + 1)) (lv' := [(5, .int (nI (j + 1))), (3, .int (nI ((12 * i) + j))), (2, .int (sv K T kp i j)), (6, .int (sv K T kp i j)), (0, .ref q0), (1, .int (nI (tt (gk K T) kp))), (4, .int (nI i))]) hx hb dX1_bestExchange_64 hl (k := 6) rfl (nI_add _ _) (by decide) rfl (fun ls hl => ?_)
                refine lv_goto (tgt := 27) hx hb dX1_bestExchange_67 (by decide) ?_
                exact ih_loop2 (j + 1) (by omega) (by omega) (by omega) ls (by rw [show 12 * i + (j + 1) = 12 * i + j + 1 from rfl, hst]; exact lv_sub hl [4, 5, 2, 1, 6, 0] rfl)
        have hsk := bs_skip K T kp i (by omega) (i + 1) (by omega)
        exact loop2 13 (i + 1) (by omega) (by omega) (by omega) ls (by rw [hsk]; exact lv_sub hl [1, 2, 3, 4, 5, 0] rfl)
  exact loop 13 0 (by omega) (by omega) ls (lv_sub hl [4, 3, 2, 1, 0] rfl)

set_option maxHeartbeats 4000000 in
set_option maxRecDepth 100000 in
theorem c_X1_slipsOf (l : Launch) (D : va_G) (ct : Nat → ClassId) (sa : Nat → Nat) (q0 q1 q2 q3 q4 q5 kp : Nat) (K L T : Nat → Nat) (S P : Nat → Int32) (Y C : Int32) (x z : Int32) : Met l yX1_slipsOf wsX1_slipsOf ({ frames := 2, cells := 0, slots := 0, locals := 41 }) (hkPc D ct sa [.ref q0, .int x, .int z] (fun H => va_P D vwCl [(q0, .inr (1, [.ref q1, .ref q2, .int Y, .ref q3, .ref q4, .ref q5, .int (nI kp), .int C])), (q1, .inl (ct 0, 12, .inl (fun j => nI (K j)))), (q2, .inl (ct 0, 12, .inl (fun j => nI (L j)))), (q3, .inl (ct 0, 12, .inl S)), (q4, .inl (ct 0, 144, .inl P)), (q5, .inl (ct 0, 30, .inl (fun j => nI (T j))))] H)) (QcRead (sl S x z 12)) 0 0 (fun _ => False) := by
  refine Met.ofW (cc := cX1_slipsOf) (maxL := 5) (ret := (some .int)) (by decide) rfl ?_
  intro p e s m args below meth c s₁ B hml hv
  obtain ⟨rfl, hE, hP⟩ := hv
  have hx := B.exec
  have hb := B.bytes
  have hr := B.returns
  have hts := atoms_spec (ws := wsX1_slipsOf) B.pre
  have hown : s.vm.findClass RX1 = some m.cls := findClass_of_methodNamed B.named
  have hlocks := B.notSynchronized
  have hin1 : ∀ w ∈ wsX10, w ∈ wsX1_slipsOf := by decide +kernel
  have hl := lv_entry ([.ref q0, .int x, .int z]) (n := 5) (Nat.le_of_ble_eq_true rfl)
  rw [lg_entry_eq]
  generalize (lg_sl ([.ref q0, .int x, .int z]) ++ List.replicate (5 - (lg_sl ([.ref q0, .int x, .int z])).length) Slot.unset).toArray = ls at hl ⊢
  have hl : lv_has ls 5 [(0, .ref q0), (1, .int x), (2, .int z)] := hl
  refine lv_iconst (v := nI 0) hx hb dX1_slipsOf_0 (by decide) ?_
  refine lv_istore_n (lv' := [(3, .int (nI 0)), (0, .ref q0), (1, .int x), (2, .int z)]) hx hb dX1_slipsOf_1 rfl hl (by decide) rfl (fun ls hl => ?_)
  refine lv_iconst (v := nI 0) hx hb dX1_slipsOf_2 (by decide) ?_
  refine lv_istore (lv' := [(4, .int (nI 0)), (3, .int (nI 0)), (0, .ref q0), (1, .int x), (2, .int z)]) hx hb dX1_slipsOf_3 hl (by decide) rfl (fun ls hl => ?_)
  have loop : ∀ (k : Nat) (i : Nat), 12 < i + k → i ≤ 12 → ∀ (ls : Array Slot), lv_has ls 5 [(0, .ref q0), (1, .int x), (2, .int z), (3, .int (sl S x z i)), (4, .int (nI i))] → W p l e (headSpec wsX1_slipsOf ({ frames := 2, cells := 0, slots := 0, locals := 41 })).room s m ([.ref q0, .int x, .int z] : List Value).toArray below meth c s.heap [] 0 0 (MQ below (QcRead (sl S x z 12)) ([.ref q0, .int x, .int z] : List Value).toArray s 0 0 (fun _ => False)) (F0 m 5 ls []) := by
    intro k
    induction k with
    | zero => intro i hk; intros; exact absurd hk (by omega)
    | succ k ih_loop =>
      intro i hk hi ls hl
      refine lv_iload hx hb dX1_slipsOf_5 (lv_at hl 4 rfl) ?_
      refine lv_bipush (v := nI 12) hx hb dX1_slipsOf_7 (by decide) ?_
      refine hk_geN (tgt := 40) hx hb (by omega) (by omega) dX1_slipsOf_9 (by decide) (fun hc => ?_) (fun hc => ?_)
      · obtain rfl : i = 12 := by omega
        refine lv_iload_n hx hb dX1_slipsOf_40 rfl (lv_at hl 3 rfl) ?_
        exact W.iret (v := sl S x z 12) hx hb hr (fun t ht hW => ⟨rfl, ht⟩) (fun _ h => nomatch h) dX1_slipsOf_41
      · refine lv_iload_n hx hb dX1_slipsOf_12 rfl (lv_at hl 1 rfl) ?_
        refine lv_iload hx hb dX1_slipsOf_13 (lv_at hl 4 rfl) ?_
        refine hk_R (rest := []) (va_Run.run (va_runSN (host := RX2) (As := [.int x, .int (nI i)]) (rest := []) ⟨hx, hb, hml, hown, hts⟩ (c_X2_groupOf l D ct sa x i hc) ⟨va_cnB 2 hts gX1_slipsOf_X2_groupOf_n63 rfl rfl rfl (hE.nw hkN_X1_63) (hts (.initialized RX2) (by decide +kernel)) (by decide +kernel) ⟨Nat.le_of_ble_eq_true rfl, Nat.le_of_ble_eq_true rfl⟩, hts (.static yX2_groupOf) (by decide +kernel), trivial⟩ (hk_preS hE trivial) rfl rfl hl.1 rfl (lv_room (Nat.le_of_ble_eq_true rfl)) dX1_slipsOf_15 ⟨Nat.zero_le _, Nat.zero_le _⟩)) ?_
        refine lv_iload_n hx hb dX1_slipsOf_18 rfl (lv_at hl 2 rfl) ?_
        refine lv_icmp_ne (tgt := 34) hx hb dX1_slipsOf_19 (by decide) (fun hg => ?_) (fun hg => ?_)
        · refine lv_iinc (v := nI (i + 1)) (lv' := [(4, .int (nI (i + 1))), (0, .ref q0), (1, .int x), (2, .int z), (3, .int (sl S x z i))]) hx hb dX1_slipsOf_34 hl (k := 4) rfl (nI_add _ _) (by decide) rfl (fun ls hl => ?_)
          refine lv_goto (tgt := 5) hx hb dX1_slipsOf_37 (by decide) ?_
          exact ih_loop (i + 1) (by omega) (by omega) ls (by rw [sl, if_neg hg]; exact lv_sub hl [1, 2, 3, 4, 0] rfl)
        · refine lv_iload_n hx hb dX1_slipsOf_22 rfl (lv_at hl 3 rfl) ?_
          refine lv_aload_n hx hb dX1_slipsOf_23 rfl (lv_at hl 0 rfl) ?_
          refine va_get (D := D) (ci := 1) (v := .ref q3) (C := RX1) (T := TX1) (N := 8) hx hb hts hin1 hown hE.1 hP 0 rfl rfl 3 (by decide) (hts (.fieldLink RX1 22 "Homekeys$Student" "keySlips" "[I") (by decide +kernel)) (fun _ h9 => h9) rfl dX1_slipsOf_24 ?_
          refine lv_iload hx hb dX1_slipsOf_27 (lv_at hl 4 rfl) ?_
          refine hk_R (rest := [.int (sl S x z i)]) (va_Run.run (va_runSN (host := RX2) (As := [.ref q3, .int (nI i)]) (rest := [.int (sl S x z i)]) ⟨hx, hb, hml, hown, hts⟩ (c_X2_at l D ct sa q3 12 (S) (nI i) (by decide)) ⟨va_cnB 2 hts gX1_slipsOf_X2_at_n41 rfl rfl rfl (hE.nw hkN_X1_41) (hts (.initialized RX2) (by decide +kernel)) (by decide +kernel) ⟨Nat.le_of_ble_eq_true rfl, Nat.le_of_ble_eq_true rfl⟩, hts (.static yX2_at) (by decide +kernel), trivial⟩ (hk_preS hE (hP.sub (ws' := [(q3, .inl (ct 0, 12, .inl S))]) [3] rfl)) rfl rfl hl.1 rfl (lv_room (Nat.le_of_ble_eq_true rfl)) dX1_slipsOf_29 ⟨Nat.zero_le _, Nat.zero_le _⟩)) ?_
          refine hk_top (y := S i) (hkAt_in hc (by decide)) ?_
          refine lv_iadd hx hb dX1_slipsOf_32 ?_
          refine lv_istore_n (lv' := [(3, .int ((sl S x z i) + (S i))), (0, .ref q0), (1, .int x), (2, .int z), (4, .int (nI i))]) hx hb dX1_slipsOf_33 rfl hl (by decide) rfl (fun ls hl => ?_)
          refine lv_iinc (v := nI (i + 1)) (lv' := [(4, .int (nI (i + 1))), (3, .int ((sl S x z i) + (S i))), (0, .ref q0), (1, .int x), (2, .int z)]) hx hb dX1_slipsOf_34 hl (k := 4) rfl (nI_add _ _) (by decide) rfl (fun ls hl => ?_)
          refine lv_goto (tgt := 5) hx hb dX1_slipsOf_37 (by decide) ?_
          exact ih_loop (i + 1) (by omega) (by omega) ls (by rw [sl, if_pos hg]; exact lv_sub hl [2, 3, 4, 1, 0] rfl)
  exact loop 13 0 (by omega) (by omega) ls (lv_sub hl [2, 3, 4, 1, 0] rfl)

set_option maxHeartbeats 4000000 in
set_option maxRecDepth 100000 in
theorem c_X1_letterSlips (l : Launch) (D : va_G) (ct : Nat → ClassId) (sa : Nat → Nat) (q0 q1 q2 q3 q4 q5 kp : Nat) (K L T : Nat → Nat) (S P : Nat → Int32) (Y C : Int32) (i : Nat) (hi : i < 12) (hK : ∀ x, x < 12 → K x < 12) : Met l yX1_letterSlips wsX1_letterSlips ({ frames := 1, cells := 0, slots := 0, locals := 21 }) (hkPc D ct sa [.ref q0, .int (nI i)] (fun H => va_P D vwCl [(q0, .inr (1, [.ref q1, .ref q2, .int Y, .ref q3, .ref q4, .ref q5, .int (nI kp), .int C])), (q1, .inl (ct 0, 12, .inl (fun j => nI (K j)))), (q2, .inl (ct 0, 12, .inl (fun j => nI (L j)))), (q3, .inl (ct 0, 12, .inl S)), (q4, .inl (ct 0, 144, .inl P)), (q5, .inl (ct 0, 30, .inl (fun j => nI (T j))))] H)) (QcRead (S (K i))) 0 0 (fun _ => False) := by
  refine Met.ofW (cc := cX1_letterSlips) (maxL := 2) (ret := (some .int)) (by decide) rfl ?_
  intro p e s m args below meth c s₁ B hml hv
  obtain ⟨rfl, hE, hP⟩ := hv
  have hx := B.exec
  have hb := B.bytes
  have hr := B.returns
  have hts := atoms_spec (ws := wsX1_letterSlips) B.pre
  have hown : s.vm.findClass RX1 = some m.cls := findClass_of_methodNamed B.named
  have hlocks := B.notSynchronized
  have hin1 : ∀ w ∈ wsX10, w ∈ wsX1_letterSlips := by decide +kernel
  have hl := lv_entry ([.ref q0, .int (nI i)]) (n := 2) (Nat.le_of_ble_eq_true rfl)
  rw [lg_entry_eq]
  generalize (lg_sl ([.ref q0, .int (nI i)]) ++ List.replicate (2 - (lg_sl ([.ref q0, .int (nI i)])).length) Slot.unset).toArray = ls at hl ⊢
  have hl : lv_has ls 2 [(0, .ref q0), (1, .int (nI i))] := hl
  refine lv_aload_n hx hb dX1_letterSlips_0 rfl (lv_at hl 0 rfl) ?_
  refine va_get (D := D) (ci := 1) (v := .ref q3) (C := RX1) (T := TX1) (N := 8) hx hb hts hin1 hown hE.1 hP 0 rfl rfl 3 (by decide) (hts (.fieldLink RX1 22 "Homekeys$Student" "keySlips" "[I") (by decide +kernel)) (fun _ h9 => h9) rfl dX1_letterSlips_1 ?_
  refine lv_aload_n hx hb dX1_letterSlips_4 rfl (lv_at hl 0 rfl) ?_
  refine va_get (D := D) (ci := 1) (v := .ref q1) (C := RX1) (T := TX1) (N := 8) hx hb hts hin1 hown hE.1 hP 0 rfl rfl 0 (by decide) (hts (.fieldLink RX1 9 "Homekeys$Student" "keys" "[I") (by decide +kernel)) (fun _ h9 => h9) rfl dX1_letterSlips_5 ?_
  refine lv_iload_n hx hb dX1_letterSlips_8 rfl (lv_at hl 1 rfl) ?_
  refine hk_R (rest := [.ref q3]) (va_Run.run (va_runSN (host := RX2) (As := [.ref q1, .int (nI i)]) (rest := [.ref q3]) ⟨hx, hb, hml, hown, hts⟩ (c_X2_at l D ct sa q1 12 (fun j => nI (K j)) (nI i) (by decide)) ⟨va_cnB 2 hts gX1_letterSlips_X2_at_n41 rfl rfl rfl (hE.nw hkN_X1_41) (hts (.initialized RX2) (by decide +kernel)) (by decide +kernel) ⟨Nat.le_of_ble_eq_true rfl, Nat.le_of_ble_eq_true rfl⟩, hts (.static yX2_at) (by decide +kernel), trivial⟩ (hk_preS hE (hP.sub (ws' := [(q1, .inl (ct 0, 12, .inl (fun j => nI (K j))))]) [1] rfl)) rfl rfl hl.1 rfl (lv_room (Nat.le_of_ble_eq_true rfl)) dX1_letterSlips_9 ⟨Nat.zero_le _, Nat.zero_le _⟩)) ?_
  refine hk_top (y := nI (K i)) (hkAt_in hi (by decide)) ?_
  refine hk_R (rest := []) (va_Run.run (va_runSN (host := RX2) (As := [.ref q3, .int (nI (K i))]) (rest := []) ⟨hx, hb, hml, hown, hts⟩ (c_X2_at l D ct sa q3 12 (S) (nI (K i)) (by decide)) ⟨va_cnB 2 hts gX1_letterSlips_X2_at_n41 rfl rfl rfl (hE.nw hkN_X1_41) (hts (.initialized RX2) (by decide +kernel)) (by decide +kernel) ⟨Nat.le_of_ble_eq_true rfl, Nat.le_of_ble_eq_true rfl⟩, hts (.static yX2_at) (by decide +kernel), trivial⟩ (hk_preS hE (hP.sub (ws' := [(q3, .inl (ct 0, 12, .inl S))]) [3] rfl)) rfl rfl hl.1 rfl (lv_room (Nat.le_of_ble_eq_true rfl)) dX1_letterSlips_12 ⟨Nat.zero_le _, Nat.zero_le _⟩)) ?_
  refine hk_top (y := S (K i)) (hkAt_in (hK i hi) (by decide)) ?_
  exact W.iret (v := S (K i)) hx hb hr (fun t ht hW => ⟨rfl, ht⟩) (fun _ h => nomatch h) dX1_letterSlips_15

set_option maxHeartbeats 4000000 in
set_option maxRecDepth 100000 in
theorem c_X1_lettersAhead (l : Launch) (D : va_G) (ct : Nat → ClassId) (sa : Nat → Nat) (q0 q1 q2 q3 q4 q5 kp : Nat) (K L T : Nat → Nat) (S P : Nat → Int32) (Y C : Int32) (i : Nat) (hi : i < 12) (hK : ∀ x, x < 12 → K x < 12) : Met l yX1_lettersAhead wsX1_lettersAhead ({ frames := 2, cells := 0, slots := 0, locals := 42 }) (hkPc D ct sa [.ref q0, .int (nI i)] (fun H => va_P D vwCl [(q0, .inr (1, [.ref q1, .ref q2, .int Y, .ref q3, .ref q4, .ref q5, .int (nI kp), .int C])), (q1, .inl (ct 0, 12, .inl (fun j => nI (K j)))), (q2, .inl (ct 0, 12, .inl (fun j => nI (L j)))), (q3, .inl (ct 0, 12, .inl S)), (q4, .inl (ct 0, 144, .inl P)), (q5, .inl (ct 0, 30, .inl (fun j => nI (T j))))] H)) (QcRead (nI (la (fun x => S (K x)) i 12))) 0 0 (fun _ => False) := by
  refine Met.ofW (cc := cX1_lettersAhead) (maxL := 6) (ret := (some .int)) (by decide) rfl ?_
  intro p e s m args below meth c s₁ B hml hv
  obtain ⟨rfl, hE, hP⟩ := hv
  have hx := B.exec
  have hb := B.bytes
  have hr := B.returns
  have hts := atoms_spec (ws := wsX1_lettersAhead) B.pre
  have hown : s.vm.findClass RX1 = some m.cls := findClass_of_methodNamed B.named
  have hlocks := B.notSynchronized
  have hl := lv_entry ([.ref q0, .int (nI i)]) (n := 6) (Nat.le_of_ble_eq_true rfl)
  rw [lg_entry_eq]
  generalize (lg_sl ([.ref q0, .int (nI i)]) ++ List.replicate (6 - (lg_sl ([.ref q0, .int (nI i)])).length) Slot.unset).toArray = ls at hl ⊢
  have hl : lv_has ls 6 [(0, .ref q0), (1, .int (nI i))] := hl
  refine lv_aload_n hx hb dX1_lettersAhead_0 rfl (lv_at hl 0 rfl) ?_
  refine lv_iload_n hx hb dX1_lettersAhead_1 rfl (lv_at hl 1 rfl) ?_
  refine hk_R (rest := []) (va_Run.run (va_runV (As := [.int (nI i)]) (rest := []) ⟨hx, hb, hml, hown, hts⟩ (c_X1_letterSlips l D ct sa q0 q1 q2 q3 q4 q5 kp K L T S P Y C i hi hK) (cwV 1 hts gX1_lettersAhead_X1_letterSlips rfl rfl rfl (by decide +kernel) ⟨Nat.le_of_ble_eq_true rfl, Nat.le_of_ble_eq_true rfl⟩) (hk_preV hE (va_recv hE.1 hP (ci := 1) (q0 := 0) rfl rfl) hP) rfl rfl hl.1 rfl (lv_room (Nat.le_of_ble_eq_true rfl)) dX1_lettersAhead_2 ⟨Nat.zero_le _, Nat.zero_le _⟩)) ?_
  refine lv_istore_n (lv' := [(2, .int (S (K i))), (0, .ref q0), (1, .int (nI i))]) hx hb dX1_lettersAhead_5 rfl hl (by decide) rfl (fun ls hl => ?_)
  refine lv_iconst (v := nI 0) hx hb dX1_lettersAhead_6 (by decide) ?_
  refine lv_istore_n (lv' := [(3, .int (nI 0)), (2, .int (S (K i))), (0, .ref q0), (1, .int (nI i))]) hx hb dX1_lettersAhead_7 rfl hl (by decide) rfl (fun ls hl => ?_)
  refine lv_iconst (v := nI 0) hx hb dX1_lettersAhead_8 (by decide) ?_
  refine lv_istore (lv' := [(4, .int (nI 0)), (3, .int (nI 0)), (2, .int (S (K i))), (0, .ref q0), (1, .int (nI i))]) hx hb dX1_lettersAhead_9 hl (by decide) rfl (fun ls hl => ?_)
  have loop : ∀ (k : Nat) (r : Nat), 12 < r + k → r ≤ 12 → ∀ (ls : Array Slot), lv_has ls 6 [(0, .ref q0), (1, .int (nI i)), (2, .int (S (K i))), (3, .int (nI (la (fun x => S (K x)) i r))), (4, .int (nI r))] → W p l e (headSpec wsX1_lettersAhead ({ frames := 2, cells := 0, slots := 0, locals := 42 })).room s m ([.ref q0, .int (nI i)] : List Value).toArray below meth c s.heap [] 0 0 (MQ below (QcRead (nI (la (fun x => S (K x)) i 12))) ([.ref q0, .int (nI i)] : List Value).toArray s 0 0 (fun _ => False)) (F0 m 11 ls []) := by
    intro k
    induction k with
    | zero => intro r hk; intros; exact absurd hk (by omega)
    | succ k ih_loop =>
      intro r hk hr9 ls hl
      refine lv_iload hx hb dX1_lettersAhead_11 (lv_at hl 4 rfl) ?_
      refine lv_bipush (v := nI 12) hx hb dX1_lettersAhead_13 (by decide) ?_
      refine hk_geN (tgt := 53) hx hb (by omega) (by omega) dX1_lettersAhead_15 (by decide) (fun hc => ?_) (fun hc => ?_)
      · obtain rfl : r = 12 := by omega
        refine lv_iload_n hx hb dX1_lettersAhead_53 rfl (lv_at hl 3 rfl) ?_
        exact W.iret (v := nI (la (fun x => S (K x)) i 12)) hx hb hr (fun t ht hW => ⟨rfl, ht⟩) (fun _ h => nomatch h) dX1_lettersAhead_54
      · refine lv_aload_n hx hb dX1_lettersAhead_18 rfl (lv_at hl 0 rfl) ?_
        refine lv_iload hx hb dX1_lettersAhead_19 (lv_at hl 4 rfl) ?_
        refine hk_R (rest := []) (va_Run.run (va_runV (As := [.int (nI r)]) (rest := []) ⟨hx, hb, hml, hown, hts⟩ (c_X1_letterSlips l D ct sa q0 q1 q2 q3 q4 q5 kp K L T S P Y C r hc hK) (cwV 1 hts gX1_lettersAhead_X1_letterSlips rfl rfl rfl (by decide +kernel) ⟨Nat.le_of_ble_eq_true rfl, Nat.le_of_ble_eq_true rfl⟩) (hk_preV hE (va_recv hE.1 hP (ci := 1) (q0 := 0) rfl rfl) hP) rfl rfl hl.1 rfl (lv_room (Nat.le_of_ble_eq_true rfl)) dX1_lettersAhead_21 ⟨Nat.zero_le _, Nat.zero_le _⟩)) ?_
        refine lv_istore (lv' := [(5, .int (S (K r))), (0, .ref q0), (1, .int (nI i)), (2, .int (S (K i))), (3, .int (nI (la (fun x => S (K x)) i r))), (4, .int (nI r))]) hx hb dX1_lettersAhead_24 hl (by decide) rfl (fun ls hl => ?_)
        refine lv_iload hx hb dX1_lettersAhead_26 (lv_at hl 0 rfl) ?_
        refine lv_iload_n hx hb dX1_lettersAhead_28 rfl (lv_at hl 3 rfl) ?_
        refine lv_icmp_gt (tgt := 44) hx hb dX1_lettersAhead_29 (by decide) (fun h1 => ?_) (fun h1 => ?_)
        · refine lv_iinc (v := nI (la (fun x => S (K x)) i r + 1)) (lv' := [(3, .int (nI (la (fun x => S (K x)) i r + 1))), (5, .int (S (K r))), (0, .ref q0), (1, .int (nI i)), (2, .int (S (K i))), (4, .int (nI r))]) hx hb dX1_lettersAhead_44 hl (k := 4) rfl (nI_add _ _) (by decide) rfl (fun ls hl => ?_)
          refine lv_iinc (v := nI (r + 1)) (lv' := [(4, .int (nI (r + 1))), (3, .int (nI (la (fun x => S (K x)) i r + 1))), (5, .int (S (K r))), (0, .ref q0), (1, .int (nI i)), (2, .int (S (K i)))]) hx hb dX1_lettersAhead_47 hl (k := 5) rfl (nI_add _ _) (by decide) rfl (fun ls hl => ?_)
          refine lv_goto (tgt := 11) hx hb dX1_lettersAhead_50 (by decide) ?_
          exact ih_loop (r + 1) (by omega) (by omega) ls (by rw [la, if_pos (Or.inl h1)]; exact lv_sub hl [3, 4, 5, 1, 0] rfl)
        · refine lv_iload hx hb dX1_lettersAhead_32 (lv_at hl 0 rfl) ?_
          refine lv_iload_n hx hb dX1_lettersAhead_34 rfl (lv_at hl 3 rfl) ?_
          refine lv_icmp_ne (tgt := 47) hx hb dX1_lettersAhead_35 (by decide) (fun h2 => ?_) (fun h2 => ?_)
          · refine lv_iinc (v := nI (r + 1)) (lv' := [(4, .int (nI (r + 1))), (5, .int (S (K r))), (0, .ref q0), (1, .int (nI i)), (2, .int (S (K i))), (3, .int (nI (la (fun x => S (K x)) i r)))]) hx hb dX1_lettersAhead_47 hl (k := 5) rfl (nI_add _ _) (by decide) rfl (fun ls hl => ?_)
            refine lv_goto (tgt := 11) hx hb dX1_lettersAhead_50 (by decide) ?_
            exact ih_loop (r + 1) (by omega) (by omega) ls (by rw [la, if_neg (fun z => z.elim h1 (fun z => h2 z.1))]; exact lv_sub hl [2, 3, 4, 5, 0] rfl)
          · refine lv_iload hx hb dX1_lettersAhead_38 (lv_at hl 5 rfl) ?_
            refine lv_iload_n hx hb dX1_lettersAhead_40 rfl (lv_at hl 2 rfl) ?_
            refine hk_geN (tgt := 47) hx hb (by omega) (by omega) dX1_lettersAhead_41 (by decide) (fun h3 => ?_) (fun h3 => ?_)
            · refine lv_iinc (v := nI (r + 1)) (lv' := [(4, .int (nI (r + 1))), (5, .int (S (K r))), (0, .ref q0), (1, .int (nI i)), (2, .int (S (K i))), (3, .int (nI (la (fun x => S (K x)) i r)))]) hx hb dX1_lettersAhead_47 hl (k := 5) rfl (nI_add _ _) (by decide) rfl (fun ls hl => ?_)
              refine lv_goto (tgt := 11) hx hb dX1_lettersAhead_50 (by decide) ?_
              exact ih_loop (r + 1) (by omega) (by omega) ls (by rw [la, if_neg (fun z => z.elim h1 (fun z => absurd z.2 (by omega)))]; exact lv_sub hl [2, 3, 4, 5, 0] rfl)
            · refine lv_iinc (v := nI (la (fun x => S (K x)) i r + 1)) (lv' := [(3, .int (nI (la (fun x => S (K x)) i r + 1))), (5, .int (S (K r))), (0, .ref q0), (1, .int (nI i)), (2, .int (S (K i))), (4, .int (nI r))]) hx hb dX1_lettersAhead_44 hl (k := 4) rfl (nI_add _ _) (by decide) rfl (fun ls hl => ?_)
              refine lv_iinc (v := nI (r + 1)) (lv' := [(4, .int (nI (r + 1))), (3, .int (nI (la (fun x => S (K x)) i r + 1))), (5, .int (S (K r))), (0, .ref q0), (1, .int (nI i)), (2, .int (S (K i)))]) hx hb dX1_lettersAhead_47 hl (k := 5) rfl (nI_add _ _) (by decide) rfl (fun ls hl => ?_)
              refine lv_goto (tgt := 11) hx hb dX1_lettersAhead_50 (by decide) ?_
              exact ih_loop (r + 1) (by omega) (by omega) ls (by rw [la, if_pos (Or.inr ⟨h2, h3⟩)]; exact lv_sub hl [3, 4, 5, 1, 0] rfl)
  exact loop 13 0 (by omega) (by omega) ls (lv_sub hl [3, 4, 2, 1, 0] rfl)

set_option maxHeartbeats 4000000 in
set_option maxRecDepth 100000 in
theorem c_X1_slippingLetter (l : Launch) (D : va_G) (ct : Nat → ClassId) (sa : Nat → Nat) (q0 q1 q2 q3 q4 q5 kp : Nat) (K L T : Nat → Nat) (S P : Nat → Int32) (Y C : Int32) (z : Nat) (hz : z < 12) (hK : ∀ x, x < 12 → K x < 12) : Met l yX1_slippingLetter wsX1_slippingLetter ({ frames := 3, cells := 0, slots := 0, locals := 67 }) (hkPc D ct sa [.ref q0, .int (nI z)] (fun H => va_P D vwCl [(q0, .inr (1, [.ref q1, .ref q2, .int Y, .ref q3, .ref q4, .ref q5, .int (nI kp), .int C])), (q1, .inl (ct 0, 12, .inl (fun j => nI (K j)))), (q2, .inl (ct 0, 12, .inl (fun j => nI (L j)))), (q3, .inl (ct 0, 12, .inl S)), (q4, .inl (ct 0, 144, .inl P)), (q5, .inl (ct 0, 30, .inl (fun j => nI (T j))))] H)) (QcRead (lf (fun x => decide (la (fun x => S (K x)) x 12 = z)) 0 12)) 0 0 (fun _ => False) := by
  refine Met.ofW (cc := cX1_slippingLetter) (maxL := 4) (ret := (some .int)) (by decide) rfl ?_
  intro p e s m args below meth c s₁ B hml hv
  obtain ⟨rfl, hE, hP⟩ := hv
  have hx := B.exec
  have hb := B.bytes
  have hr := B.returns
  have hts := atoms_spec (ws := wsX1_slippingLetter) B.pre
  have hown : s.vm.findClass RX1 = some m.cls := findClass_of_methodNamed B.named
  have hlocks := B.notSynchronized
  have hl := lv_entry ([.ref q0, .int (nI z)]) (n := 4) (Nat.le_of_ble_eq_true rfl)
  rw [lg_entry_eq]
  generalize (lg_sl ([.ref q0, .int (nI z)]) ++ List.replicate (4 - (lg_sl ([.ref q0, .int (nI z)])).length) Slot.unset).toArray = ls at hl ⊢
  have hl : lv_has ls 4 [(0, .ref q0), (1, .int (nI z))] := hl
  refine lv_iconst (v := nI 0) hx hb dX1_slippingLetter_0 (by decide) ?_
  refine lv_istore_n (lv' := [(2, .int (nI 0)), (0, .ref q0), (1, .int (nI z))]) hx hb dX1_slippingLetter_1 rfl hl (by decide) rfl (fun ls hl => ?_)
  refine lv_iconst (v := nI 0) hx hb dX1_slippingLetter_2 (by decide) ?_
  refine lv_istore_n (lv' := [(3, .int (nI 0)), (2, .int (nI 0)), (0, .ref q0), (1, .int (nI z))]) hx hb dX1_slippingLetter_3 rfl hl (by decide) rfl (fun ls hl => ?_)
  have loop : ∀ (k : Nat) (i : Nat), 12 < i + k → i ≤ 12 → ∀ (ls : Array Slot), lv_has ls 4 [(0, .ref q0), (1, .int (nI z)), (2, .int (lf (fun x => decide (la (fun x => S (K x)) x 12 = z)) 0 i)), (3, .int (nI i))] → W p l e (headSpec wsX1_slippingLetter ({ frames := 3, cells := 0, slots := 0, locals := 67 })).room s m ([.ref q0, .int (nI z)] : List Value).toArray below meth c s.heap [] 0 0 (MQ below (QcRead (lf (fun x => decide (la (fun x => S (K x)) x 12 = z)) 0 12)) ([.ref q0, .int (nI z)] : List Value).toArray s 0 0 (fun _ => False)) (F0 m 4 ls []) := by
    intro k
    induction k with
    | zero => intro i hk; intros; exact absurd hk (by omega)
    | succ k ih_loop =>
      intro i hk hi ls hl
      refine lv_iload_n hx hb dX1_slippingLetter_4 rfl (lv_at hl 3 rfl) ?_
      refine lv_bipush (v := nI 12) hx hb dX1_slippingLetter_5 (by decide) ?_
      refine hk_geN (tgt := 27) hx hb (by omega) (by omega) dX1_slippingLetter_7 (by decide) (fun hc => ?_) (fun hc => ?_)
      · obtain rfl : i = 12 := by omega
        refine lv_iload_n hx hb dX1_slippingLetter_27 rfl (lv_at hl 2 rfl) ?_
        exact W.iret (v := lf (fun x => decide (la (fun x => S (K x)) x 12 = z)) 0 12) hx hb hr (fun t ht hW => ⟨rfl, ht⟩) (fun _ h => nomatch h) dX1_slippingLetter_28
      · have hle := la_le (fun x => S (K x)) i 12
        refine lv_aload_n hx hb dX1_slippingLetter_10 rfl (lv_at hl 0 rfl) ?_
        refine lv_iload_n hx hb dX1_slippingLetter_11 rfl (lv_at hl 3 rfl) ?_
        refine hk_R (rest := []) (va_Run.run (va_runV (As := [.int (nI i)]) (rest := []) ⟨hx, hb, hml, hown, hts⟩ (c_X1_lettersAhead l D ct sa q0 q1 q2 q3 q4 q5 kp K L T S P Y C i hc hK) (cwV 1 hts gX1_slippingLetter_X1_lettersAhead rfl rfl rfl (by decide +kernel) ⟨Nat.le_of_ble_eq_true rfl, Nat.le_of_ble_eq_true rfl⟩) (hk_preV hE (va_recv hE.1 hP (ci := 1) (q0 := 0) rfl rfl) hP) rfl rfl hl.1 rfl (lv_room (Nat.le_of_ble_eq_true rfl)) dX1_slippingLetter_12 ⟨Nat.zero_le _, Nat.zero_le _⟩)) ?_
        refine lv_iload_n hx hb dX1_slippingLetter_15 rfl (lv_at hl 1 rfl) ?_
        refine hk_neN (tgt := 21) hx hb (by omega) (by omega) dX1_slippingLetter_16 (by decide) (fun h1 => ?_) (fun h1 => ?_)
        · refine lv_iinc (v := nI (i + 1)) (lv' := [(3, .int (nI (i + 1))), (0, .ref q0), (1, .int (nI z)), (2, .int (lf (fun x => decide (la (fun x => S (K x)) x 12 = z)) 0 i))]) hx hb dX1_slippingLetter_21 hl (k := 3) rfl (nI_add _ _) (by decide) rfl (fun ls hl => ?_)
          refine lv_goto (tgt := 4) hx hb dX1_slippingLetter_24 (by decide) ?_
          exact ih_loop (i + 1) (by omega) (by omega) ls (by rw [lf, if_neg (by simpa using h1)]; exact lv_sub hl [1, 2, 3, 0] rfl)
        · refine lv_iload_n hx hb dX1_slippingLetter_19 rfl (lv_at hl 3 rfl) ?_
          refine lv_istore_n (lv' := [(2, .int (nI i)), (0, .ref q0), (1, .int (nI z)), (3, .int (nI i))]) hx hb dX1_slippingLetter_20 rfl hl (by decide) rfl (fun ls hl => ?_)
          refine lv_iinc (v := nI (i + 1)) (lv' := [(3, .int (nI (i + 1))), (2, .int (nI i)), (0, .ref q0), (1, .int (nI z))]) hx hb dX1_slippingLetter_21 hl (k := 3) rfl (nI_add _ _) (by decide) rfl (fun ls hl => ?_)
          refine lv_goto (tgt := 4) hx hb dX1_slippingLetter_24 (by decide) ?_
          exact ih_loop (i + 1) (by omega) (by omega) ls (by rw [lf, if_pos (by simpa using h1)]; exact lv_sub hl [2, 3, 1, 0] rfl)
  exact loop 13 0 (by omega) (by omega) ls (lv_sub hl [2, 3, 1, 0] rfl)
end
section
/-- the history, shifted; with a letter more -/
def shT (T : Nat → Nat) : Nat → Nat := fun j => if j < 29 then T (j + 1) else T j
def kpT (T : Nat → Nat) (kp z : Nat) : Nat → Nat := fun j => if kp = 30 then (if j = 29 then z else if j < 29 then T (j + 1) else T j) else (if j = kp then z else T j)
def kpN (kp : Nat) : Nat := if kp = 30 then 30 else kp + 1
theorem shT_cpy (T : Nat → Nat) : va_cpy (fun j => nI (T j)) (fun j => nI (T j)) (nI 1).toNatClampNeg (nI 0).toNatClampNeg (nI 29).toNatClampNeg = fun j => nI (shT T j) := by
  funext j
  rw [nI_clamp (by decide), nI_clamp (by decide), nI_clamp (by decide)]
  by_cases h : j < 29
  · rw [pk_cpy_in (Nat.zero_le _) (by omega), shT, if_pos h, Nat.sub_zero, Nat.add_comm 1 j]
  · rw [pk_cpy_out (Or.inr (by omega)), shT, if_neg h]
theorem kpT_full (T : Nat → Nat) (z : Nat) : upd (fun j => nI (shT T j)) 29 (nI z) = fun j => nI (kpT T 30 z j) := by
  funext j
  unfold upd kpT shT
  rw [if_pos rfl]
  split
  · rfl
  · rfl
theorem kpT_room (T : Nat → Nat) {kp : Nat} (z : Nat) (h : ¬ kp = 30) : upd (fun j => nI (T j)) kp (nI z) = fun j => nI (kpT T kp z j) := by
  funext j
  unfold upd kpT
  rw [if_neg h]
  split <;> rfl
/-- a press: the answer, the slips of keys, of pairs -/
def tpR (K : Nat → Nat) (z b : Nat) : Int32 := if K z = b then 0 else 1
def tpS (K : Nat → Nat) (S : Nat → Int32) (z b : Nat) : Nat → Int32 := if K z = b then S else upd S (K z) (S (K z) + nI 1)
def tpP (K T : Nat → Nat) (P : Nat → Int32) (kp z b : Nat) : Nat → Int32 := if K z = b ∨ kp = 0 then P else upd P (12 * T (kp - 1) + z) (P (12 * T (kp - 1) + z) + nI 1)
/-- two keys change their letters -/
def exL (L : Nat → Nat) (a b : Nat) : Nat → Nat := fun j => if j = b then L a else if j = a then L b else L j
def exK (K L : Nat → Nat) (a b : Nat) : Nat → Nat := fun j => if j = L b then a else if j = L a then b else K j
def exS (S : Nat → Int32) (Y : Int32) (a b : Nat) : Nat → Int32 := if Y = nI 1 then upd (upd S a (S b)) b (S a) else S
theorem exL_upd (L : Nat → Nat) (a b : Nat) : upd (upd (fun j => nI (L j)) a (nI (L b))) b (nI (L a)) = fun j => nI (exL L a b j) := by
  funext j
  unfold upd exL
  split
  · rfl
  · split <;> rfl
theorem exK_upd (K L : Nat → Nat) (a b : Nat) : upd (upd (fun j => nI (K j)) (L a) (nI b)) (L b) (nI a) = fun j => nI (exK K L a b j) := by
  funext j
  unfold upd exK
  split
  · rfl
  · split <;> rfl
set_option maxHeartbeats 4000000 in
set_option maxRecDepth 100000 in
theorem c_X1_keep (l : Launch) (D : va_G) (ct : Nat → ClassId) (sa : Nat → Nat) (q0 q1 q2 q3 q4 q5 kp : Nat) (K L T : Nat → Nat) (S P : Nat → Int32) (Y C : Int32) (z : Nat) (hkp : kp ≤ 30) : Met l yX1_keep wsX1_keep ({ frames := 1, cells := 0, slots := 0, locals := 31 }) (hkPc D ct sa [.ref q0, .int (nI z)] (fun H => va_P D vwCl [(q0, .inr (1, [.ref q1, .ref q2, .int Y, .ref q3, .ref q4, .ref q5, .int (nI kp), .int C])), (q1, .inl (ct 0, 12, .inl (fun j => nI (K j)))), (q2, .inl (ct 0, 12, .inl (fun j => nI (L j)))), (q3, .inl (ct 0, 12, .inl S)), (q4, .inl (ct 0, 144, .inl P)), (q5, .inl (ct 0, 30, .inl (fun j => nI (T j))))] H ∧ va_D (fun _ => True) [(q0, .inr (1, [.ref q1, .ref q2, .int Y, .ref q3, .ref q4, .ref q5, .int (nI kp), .int C])), (q1, .inl (ct 0, 12, .inl (fun j => nI (K j)))), (q2, .inl (ct 0, 12, .inl (fun j => nI (L j)))), (q3, .inl (ct 0, 12, .inl S)), (q4, .inl (ct 0, 144, .inl P)), (q5, .inl (ct 0, 30, .inl (fun j => nI (T j))))])) (hkQ none D [(q0, .inr (1, [.ref q1, .ref q2, .int Y, .ref q3, .ref q4, .ref q5, .int (nI (kpN kp)), .int C])), (q1, .inl (ct 0, 12, .inl (fun j => nI (K j)))), (q2, .inl (ct 0, 12, .inl (fun j => nI (L j)))), (q3, .inl (ct 0, 12, .inl S)), (q4, .inl (ct 0, 144, .inl P)), (q5, .inl (ct 0, 30, .inl (fun j => nI ((kpT T kp z) j))))] [q0, q1, q2, q3, q4, q5]) 0 0 (hkA [q0, q1, q2, q3, q4, q5]) := by
  refine Met.ofW (cc := cX1_keep) (maxL := 2) (ret := none) (by decide) rfl ?_
  intro p e s m args below meth c s₁ B hml hv
  obtain ⟨rfl, hE, hp⟩ := hv
  have hx := B.exec
  have hb := B.bytes
  have hr := B.returns
  have hts := atoms_spec (ws := wsX1_keep) B.pre
  have hown : s.vm.findClass RX1 = some m.cls := findClass_of_methodNamed B.named
  have hlocks := B.notSynchronized
  have hin1 : ∀ w ∈ wsX10, w ∈ wsX1_keep := by decide +kernel
  obtain ⟨hP, hD0⟩ := hp
  have hD : va_D (hkA [q0, q1, q2, q3, q4, q5]) [(q0, .inr (1, [.ref q1, .ref q2, .int Y, .ref q3, .ref q4, .ref q5, .int (nI kp), .int C])), (q1, .inl (ct 0, 12, .inl (fun j => nI (K j)))), (q2, .inl (ct 0, 12, .inl (fun j => nI (L j)))), (q3, .inl (ct 0, 12, .inl S)), (q4, .inl (ct 0, 144, .inl P)), (q5, .inl (ct 0, 30, .inl (fun j => nI (T j))))] := hD0.weaken (fun k q hk _ => hk_mem hk)
  have hS : va_S (hkA [q0, q1, q2, q3, q4, q5]) s.heap s.heap [] := va_S.rf
  have hl := lv_entry ([.ref q0, .int (nI z)]) (n := 2) (Nat.le_of_ble_eq_true rfl)
  rw [lg_entry_eq]
  generalize (lg_sl ([.ref q0, .int (nI z)]) ++ List.replicate (2 - (lg_sl ([.ref q0, .int (nI z)])).length) Slot.unset).toArray = ls at hl ⊢
  have hl : lv_has ls 2 [(0, .ref q0), (1, .int (nI z))] := hl
  refine lv_aload_n hx hb dX1_keep_0 rfl (lv_at hl 0 rfl) ?_
  refine va_get (D := D) (ci := 1) (v := .int (nI kp)) (C := RX1) (T := TX1) (N := 8) hx hb hts hin1 hown hE.1 hP 0 rfl rfl 6 (by decide) (hts (.fieldLink RX1 31 "Homekeys$Student" "kept" "I") (by decide +kernel)) (fun _ h9 => h9) rfl dX1_keep_1 ?_
  refine lv_bipush (v := nI 30) hx hb dX1_keep_4 (by decide) ?_
  refine hk_neN (tgt := 34) hx hb (by omega) (by omega) dX1_keep_6 (by decide) (fun hc => ?_) (fun hc => ?_)
  · refine lv_aload_n hx hb dX1_keep_34 rfl (lv_at hl 0 rfl) ?_
    refine va_get (D := D) (ci := 1) (v := .ref q5) (C := RX1) (T := TX1) (N := 8) hx hb hts hin1 hown hE.1 hP 0 rfl rfl 5 (by decide) (hts (.fieldLink RX1 28 "Homekeys$Student" "typed" "[I") (by decide +kernel)) (fun _ h9 => h9) rfl dX1_keep_35 ?_
    refine lv_aload_n hx hb dX1_keep_38 rfl (lv_at hl 0 rfl) ?_
    refine va_get (D := D) (ci := 1) (v := .int (nI kp)) (C := RX1) (T := TX1) (N := 8) hx hb hts hin1 hown hE.1 hP 0 rfl rfl 6 (by decide) (hts (.fieldLink RX1 31 "Homekeys$Student" "kept" "I") (by decide +kernel)) (fun _ h9 => h9) rfl dX1_keep_39 ?_
    refine lv_iload_n hx hb dX1_keep_42 rfl (lv_at hl 1 rfl) ?_
    refine hk_M (rest := []) (va_Run.run (va_runSN (host := RX2) (As := [.ref q5, .int (nI kp), .int (nI z)]) (rest := []) ⟨hx, hb, hml, hown, hts⟩ (c_X2_put l D ct sa q5 30 (fun j => nI (T j)) kp (nI z) (by decide) (by omega)) ⟨va_cnB 3 hts gX1_keep_X2_put_n37 rfl rfl rfl (hE.nw hkN_X1_37) (hts (.initialized RX2) (by decide +kernel)) (by decide +kernel) ⟨Nat.le_of_ble_eq_true rfl, Nat.le_of_ble_eq_true rfl⟩, hts (.static yX2_put) (by decide +kernel), trivial⟩ (hk_preS hE ⟨hP.sub (ws' := [(q5, .inl (ct 0, 30, .inl (fun j => nI (T j))))]) [5] rfl, (hD.sub (ws' := [(q5, .inl (ct 0, 30, .inl (fun j => nI (T j))))]) [5] (by decide) rfl).weaken (fun _ _ _ _ => trivial)⟩) rfl rfl hl.1 rfl (lv_room (Nat.le_of_ble_eq_true rfl)) dX1_keep_43 ⟨Nat.zero_le _, Nat.zero_le _⟩)) hP hD hS [5] (wc := [(q5, .inl (ct 0, 30, .inl (fun j => nI (T j))))]) rfl rfl rfl (fun H locs hP hD hS => ?_)
    have hP : va_P D vwCl [(q0, .inr (1, [.ref q1, .ref q2, .int Y, .ref q3, .ref q4, .ref q5, .int (nI kp), .int C])), (q1, .inl (ct 0, 12, .inl (fun j => nI (K j)))), (q2, .inl (ct 0, 12, .inl (fun j => nI (L j)))), (q3, .inl (ct 0, 12, .inl S)), (q4, .inl (ct 0, 144, .inl P)), (q5, .inl (ct 0, 30, .inl (upd (fun j => nI (T j)) kp (nI z))))] H := hP
    have hD : va_D (hkA [q0, q1, q2, q3, q4, q5]) [(q0, .inr (1, [.ref q1, .ref q2, .int Y, .ref q3, .ref q4, .ref q5, .int (nI kp), .int C])), (q1, .inl (ct 0, 12, .inl (fun j => nI (K j)))), (q2, .inl (ct 0, 12, .inl (fun j => nI (L j)))), (q3, .inl (ct 0, 12, .inl S)), (q4, .inl (ct 0, 144, .inl P)), (q5, .inl (ct 0, 30, .inl (upd (fun j => nI (T j)) kp (nI z))))] := hD
    refine lv_aload_n hx hb dX1_keep_46 rfl (lv_at hl 0 rfl) ?_
    refine lv_dup hx hb dX1_keep_47 rfl ?_
    refine va_get (D := D) (ci := 1) (v := .int (nI kp)) (C := RX1) (T := TX1) (N := 8) hx hb hts hin1 hown hE.1 hP 0 rfl rfl 6 (by decide) (hts (.fieldLink RX1 31 "Homekeys$Student" "kept" "I") (by decide +kernel)) (fun _ h9 => h9) rfl dX1_keep_48 ?_
    refine lv_iconst (v := nI 1) hx hb dX1_keep_51 (by decide) ?_
    refine hk_addN hx hb dX1_keep_52 ?_
    refine va_put (D := D) (ci := 1) (v := .int (nI (kp + 1))) (ty := .int) (C := RX1) (T := TX1) (N := 8) hx hb hts hin1 tyX1 tyX1_ok nmX1 hown hE.1 hP hD hS 0 rfl rfl 6 (by decide) (hts (.fieldLink RX1 31 "Homekeys$Student" "kept" "I") (by decide +kernel)) (fun _ h9 => h9) rfl (by decide +kernel) rfl rfl (Nat.le_of_ble_eq_true rfl) dX1_keep_53 (fun H locs hP hD hS => ?_)
    have hP : va_P D vwCl [(q0, .inr (1, [.ref q1, .ref q2, .int Y, .ref q3, .ref q4, .ref q5, .int (nI (kp + 1)), .int C])), (q1, .inl (ct 0, 12, .inl (fun j => nI (K j)))), (q2, .inl (ct 0, 12, .inl (fun j => nI (L j)))), (q3, .inl (ct 0, 12, .inl S)), (q4, .inl (ct 0, 144, .inl P)), (q5, .inl (ct 0, 30, .inl (upd (fun j => nI (T j)) kp (nI z))))] H := hP
    have hD : va_D (hkA [q0, q1, q2, q3, q4, q5]) [(q0, .inr (1, [.ref q1, .ref q2, .int Y, .ref q3, .ref q4, .ref q5, .int (nI (kp + 1)), .int C])), (q1, .inl (ct 0, 12, .inl (fun j => nI (K j)))), (q2, .inl (ct 0, 12, .inl (fun j => nI (L j)))), (q3, .inl (ct 0, 12, .inl S)), (q4, .inl (ct 0, 144, .inl P)), (q5, .inl (ct 0, 30, .inl (upd (fun j => nI (T j)) kp (nI z))))] := hD
    have hP : va_P D vwCl [(q0, .inr (1, [.ref q1, .ref q2, .int Y, .ref q3, .ref q4, .ref q5, .int (nI (kp + 1)), .int C])), (q1, .inl (ct 0, 12, .inl (fun j => nI (K j)))), (q2, .inl (ct 0, 12, .inl (fun j => nI (L j)))), (q3, .inl (ct 0, 12, .inl S)), (q4, .inl (ct 0, 144, .inl P)), (q5, .inl (ct 0, 30, .inl (fun j => nI (kpT T kp z j))))] H := by rw [show upd (fun j => nI (T j)) kp (nI z) = fun j => nI (kpT T kp z j) from kpT_room T z (by omega)] at hP; exact hP
    have hD : va_D (hkA [q0, q1, q2, q3, q4, q5]) [(q0, .inr (1, [.ref q1, .ref q2, .int Y, .ref q3, .ref q4, .ref q5, .int (nI (kp + 1)), .int C])), (q1, .inl (ct 0, 12, .inl (fun j => nI (K j)))), (q2, .inl (ct 0, 12, .inl (fun j => nI (L j)))), (q3, .inl (ct 0, 12, .inl S)), (q4, .inl (ct 0, 144, .inl P)), (q5, .inl (ct 0, 30, .inl (fun j => nI (kpT T kp z j))))] := by rw [show upd (fun j => nI (T j)) kp (nI z) = fun j => nI (kpT T kp z j) from kpT_room T z (by omega)] at hD; exact hD
    have hkq : kpN kp = kp + 1 := if_neg (by omega)
    have hP9 : va_P D vwCl [(q0, .inr (1, [.ref q1, .ref q2, .int Y, .ref q3, .ref q4, .ref q5, .int (nI (kp + 1)), .int C])), (q1, .inl (ct 0, 12, .inl (fun j => nI (K j)))), (q2, .inl (ct 0, 12, .inl (fun j => nI (L j)))), (q3, .inl (ct 0, 12, .inl S)), (q4, .inl (ct 0, 144, .inl P)), (q5, .inl (ct 0, 30, .inl (fun j => nI (kpT T kp z j))))] H := hP
    exact W.vret hx hb hr (fun t ht hW => ⟨rfl, by rw [ht]; rw [hkq]; exact hP9, by rw [ht]; exact ⟨hS.1, hS.2.1⟩⟩) hS.2.2 dX1_keep_56
  · subst hc
    refine lv_aload_n hx hb dX1_keep_9 rfl (lv_at hl 0 rfl) ?_
    refine va_get (D := D) (ci := 1) (v := .ref q5) (C := RX1) (T := TX1) (N := 8) hx hb hts hin1 hown hE.1 hP 0 rfl rfl 5 (by decide) (hts (.fieldLink RX1 28 "Homekeys$Student" "typed" "[I") (by decide +kernel)) (fun _ h9 => h9) rfl dX1_keep_10 ?_
    refine lv_iconst (v := nI 1) hx hb dX1_keep_13 (by decide) ?_
    refine lv_aload_n hx hb dX1_keep_14 rfl (lv_at hl 0 rfl) ?_
    refine va_get (D := D) (ci := 1) (v := .ref q5) (C := RX1) (T := TX1) (N := 8) hx hb hts hin1 hown hE.1 hP 0 rfl rfl 5 (by decide) (hts (.fieldLink RX1 28 "Homekeys$Student" "typed" "[I") (by decide +kernel)) (fun _ h9 => h9) rfl dX1_keep_15 ?_
    refine lv_iconst (v := nI 0) hx hb dX1_keep_18 (by decide) ?_
    refine lv_bipush (v := nI 29) hx hb dX1_keep_19 (by decide) ?_
    refine va_copyi hx hb (hml.trans hl.1.symm) hown (hts (.methodLink RX1 57 arraycopyName) (by decide +kernel)) (hts (.native arraycopyName) (by decide +kernel)) (hts (.static arraycopyName) (by decide +kernel)) (hts (.initialized "java/lang/System") (by decide +kernel)) hE.1 hP hD hS 5 5 0 0 rfl rfl rfl rfl rfl (ty := .int) (by decide) (by decide) (by decide) (by decide) (by decide) (fun _ _ => rfl) (Nat.le_of_ble_eq_true rfl) (Nat.le_of_ble_eq_true rfl) dX1_keep_21 (fun H locs hP hD hS => ?_)
    have hP : va_P D vwCl [(q0, .inr (1, [.ref q1, .ref q2, .int Y, .ref q3, .ref q4, .ref q5, .int (nI 30), .int C])), (q1, .inl (ct 0, 12, .inl (fun j => nI (K j)))), (q2, .inl (ct 0, 12, .inl (fun j => nI (L j)))), (q3, .inl (ct 0, 12, .inl S)), (q4, .inl (ct 0, 144, .inl P)), (q5, .inl (ct 0, 30, .inl (va_cpy (fun j => nI (T j)) (fun j => nI (T j)) (nI 1).toNatClampNeg (nI 0).toNatClampNeg (nI 29).toNatClampNeg)))] H := hP
    have hD : va_D (hkA [q0, q1, q2, q3, q4, q5]) [(q0, .inr (1, [.ref q1, .ref q2, .int Y, .ref q3, .ref q4, .ref q5, .int (nI 30), .int C])), (q1, .inl (ct 0, 12, .inl (fun j => nI (K j)))), (q2, .inl (ct 0, 12, .inl (fun j => nI (L j)))), (q3, .inl (ct 0, 12, .inl S)), (q4, .inl (ct 0, 144, .inl P)), (q5, .inl (ct 0, 30, .inl (va_cpy (fun j => nI (T j)) (fun j => nI (T j)) (nI 1).toNatClampNeg (nI 0).toNatClampNeg (nI 29).toNatClampNeg)))] := hD
    have hP : va_P D vwCl [(q0, .inr (1, [.ref q1, .ref q2, .int Y, .ref q3, .ref q4, .ref q5, .int (nI 30), .int C])), (q1, .inl (ct 0, 12, .inl (fun j => nI (K j)))), (q2, .inl (ct 0, 12, .inl (fun j => nI (L j)))), (q3, .inl (ct 0, 12, .inl S)), (q4, .inl (ct 0, 144, .inl P)), (q5, .inl (ct 0, 30, .inl (fun j => nI (shT T j))))] H := by rw [shT_cpy] at hP; exact hP
    have hD : va_D (hkA [q0, q1, q2, q3, q4, q5]) [(q0, .inr (1, [.ref q1, .ref q2, .int Y, .ref q3, .ref q4, .ref q5, .int (nI 30), .int C])), (q1, .inl (ct 0, 12, .inl (fun j => nI (K j)))), (q2, .inl (ct 0, 12, .inl (fun j => nI (L j)))), (q3, .inl (ct 0, 12, .inl S)), (q4, .inl (ct 0, 144, .inl P)), (q5, .inl (ct 0, 30, .inl (fun j => nI (shT T j))))] := by rw [shT_cpy] at hD; exact hD
    refine lv_aload_n hx hb dX1_keep_24 rfl (lv_at hl 0 rfl) ?_
    refine lv_dup hx hb dX1_keep_25 rfl ?_
    refine va_get (D := D) (ci := 1) (v := .int (nI 30)) (C := RX1) (T := TX1) (N := 8) hx hb hts hin1 hown hE.1 hP 0 rfl rfl 6 (by decide) (hts (.fieldLink RX1 31 "Homekeys$Student" "kept" "I") (by decide +kernel)) (fun _ h9 => h9) rfl dX1_keep_26 ?_
    refine lv_iconst (v := nI 1) hx hb dX1_keep_29 (by decide) ?_
    refine hk_subN hx hb (by omega) dX1_keep_30 ?_
    refine va_put (D := D) (ci := 1) (v := .int (nI (30 - 1))) (ty := .int) (C := RX1) (T := TX1) (N := 8) hx hb hts hin1 tyX1 tyX1_ok nmX1 hown hE.1 hP hD hS 0 rfl rfl 6 (by decide) (hts (.fieldLink RX1 31 "Homekeys$Student" "kept" "I") (by decide +kernel)) (fun _ h9 => h9) rfl (by decide +kernel) rfl rfl (Nat.le_of_ble_eq_true rfl) dX1_keep_31 (fun H locs hP hD hS => ?_)
    have hP : va_P D vwCl [(q0, .inr (1, [.ref q1, .ref q2, .int Y, .ref q3, .ref q4, .ref q5, .int (nI (30 - 1)), .int C])), (q1, .inl (ct 0, 12, .inl (fun j => nI (K j)))), (q2, .inl (ct 0, 12, .inl (fun j => nI (L j)))), (q3, .inl (ct 0, 12, .inl S)), (q4, .inl (ct 0, 144, .inl P)), (q5, .inl (ct 0, 30, .inl (fun j => nI (shT T j))))] H := hP
    have hD : va_D (hkA [q0, q1, q2, q3, q4, q5]) [(q0, .inr (1, [.ref q1, .ref q2, .int Y, .ref q3, .ref q4, .ref q5, .int (nI (30 - 1)), .int C])), (q1, .inl (ct 0, 12, .inl (fun j => nI (K j)))), (q2, .inl (ct 0, 12, .inl (fun j => nI (L j)))), (q3, .inl (ct 0, 12, .inl S)), (q4, .inl (ct 0, 144, .inl P)), (q5, .inl (ct 0, 30, .inl (fun j => nI (shT T j))))] := hD
    have hP : va_P D vwCl [(q0, .inr (1, [.ref q1, .ref q2, .int Y, .ref q3, .ref q4, .ref q5, .int (nI 29), .int C])), (q1, .inl (ct 0, 12, .inl (fun j => nI (K j)))), (q2, .inl (ct 0, 12, .inl (fun j => nI (L j)))), (q3, .inl (ct 0, 12, .inl S)), (q4, .inl (ct 0, 144, .inl P)), (q5, .inl (ct 0, 30, .inl (fun j => nI (shT T j))))] H := hP
    have hD : va_D (hkA [q0, q1, q2, q3, q4, q5]) [(q0, .inr (1, [.ref q1, .ref q2, .int Y, .ref q3, .ref q4, .ref q5, .int (nI 29), .int C])), (q1, .inl (ct 0, 12, .inl (fun j => nI (K j)))), (q2, .inl (ct 0, 12, .inl (fun j => nI (L j)))), (q3, .inl (ct 0, 12, .inl S)), (q4, .inl (ct 0, 144, .inl P)), (q5, .inl (ct 0, 30, .inl (fun j => nI (shT T j))))] := hD
    refine lv_aload_n hx hb dX1_keep_34 rfl (lv_at hl 0 rfl) ?_
    refine va_get (D := D) (ci := 1) (v := .ref q5) (C := RX1) (T := TX1) (N := 8) hx hb hts hin1 hown hE.1 hP 0 rfl rfl 5 (by decide) (hts (.fieldLink RX1 28 "Homekeys$Student" "typed" "[I") (by decide +kernel)) (fun _ h9 => h9) rfl dX1_keep_35 ?_
    refine lv_aload_n hx hb dX1_keep_38 rfl (lv_at hl 0 rfl) ?_
    refine va_get (D := D) (ci := 1) (v := .int (nI 29)) (C := RX1) (T := TX1) (N := 8) hx hb hts hin1 hown hE.1 hP 0 rfl rfl 6 (by decide) (hts (.fieldLink RX1 31 "Homekeys$Student" "kept" "I") (by decide +kernel)) (fun _ h9 => h9) rfl dX1_keep_39 ?_
    refine lv_iload_n hx hb dX1_keep_42 rfl (lv_at hl 1 rfl) ?_
    refine hk_M (rest := []) (va_Run.run (va_runSN (host := RX2) (As := [.ref q5, .int (nI 29), .int (nI z)]) (rest := []) ⟨hx, hb, hml, hown, hts⟩ (c_X2_put l D ct sa q5 30 (fun j => nI (shT T j)) 29 (nI z) (by decide) (by omega)) ⟨va_cnB 3 hts gX1_keep_X2_put_n37 rfl rfl rfl (hE.nw hkN_X1_37) (hts (.initialized RX2) (by decide +kernel)) (by decide +kernel) ⟨Nat.le_of_ble_eq_true rfl, Nat.le_of_ble_eq_true rfl⟩, hts (.static yX2_put) (by decide +kernel), trivial⟩ (hk_preS hE ⟨hP.sub (ws' := [(q5, .inl (ct 0, 30, .inl (fun j => nI (shT T j))))]) [5] rfl, (hD.sub (ws' := [(q5, .inl (ct 0, 30, .inl (fun j => nI (shT T j))))]) [5] (by decide) rfl).weaken (fun _ _ _ _ => trivial)⟩) rfl rfl hl.1 rfl (lv_room (Nat.le_of_ble_eq_true rfl)) dX1_keep_43 ⟨Nat.zero_le _, Nat.zero_le _⟩)) hP hD hS [5] (wc := [(q5, .inl (ct 0, 30, .inl (fun j => nI (shT T j))))]) rfl rfl rfl (fun H locs hP hD hS => ?_)
    have hP : va_P D vwCl [(q0, .inr (1, [.ref q1, .ref q2, .int Y, .ref q3, .ref q4, .ref q5, .int (nI 29), .int C])), (q1, .inl (ct 0, 12, .inl (fun j => nI (K j)))), (q2, .inl (ct 0, 12, .inl (fun j => nI (L j)))), (q3, .inl (ct 0, 12, .inl S)), (q4, .inl (ct 0, 144, .inl P)), (q5, .inl (ct 0, 30, .inl (upd (fun j => nI (shT T j)) 29 (nI z))))] H := hP
    have hD : va_D (hkA [q0, q1, q2, q3, q4, q5]) [(q0, .inr (1, [.ref q1, .ref q2, .int Y, .ref q3, .ref q4, .ref q5, .int (nI 29), .int C])), (q1, .inl (ct 0, 12, .inl (fun j => nI (K j)))), (q2, .inl (ct 0, 12, .inl (fun j => nI (L j)))), (q3, .inl (ct 0, 12, .inl S)), (q4, .inl (ct 0, 144, .inl P)), (q5, .inl (ct 0, 30, .inl (upd (fun j => nI (shT T j)) 29 (nI z))))] := hD
    refine lv_aload_n hx hb dX1_keep_46 rfl (lv_at hl 0 rfl) ?_
    refine lv_dup hx hb dX1_keep_47 rfl ?_
    refine va_get (D := D) (ci := 1) (v := .int (nI 29)) (C := RX1) (T := TX1) (N := 8) hx hb hts hin1 hown hE.1 hP 0 rfl rfl 6 (by decide) (hts (.fieldLink RX1 31 "Homekeys$Student" "kept" "I") (by decide +kernel)) (fun _ h9 => h9) rfl dX1_keep_48 ?_
    refine lv_iconst (v := nI 1) hx hb dX1_keep_51 (by decide) ?_
    refine hk_addN hx hb dX1_keep_52 ?_
    refine va_put (D := D) (ci := 1) (v := .int (nI (29 + 1))) (ty := .int) (C := RX1) (T := TX1) (N := 8) hx hb hts hin1 tyX1 tyX1_ok nmX1 hown hE.1 hP hD hS 0 rfl rfl 6 (by decide) (hts (.fieldLink RX1 31 "Homekeys$Student" "kept" "I") (by decide +kernel)) (fun _ h9 => h9) rfl (by decide +kernel) rfl rfl (Nat.le_of_ble_eq_true rfl) dX1_keep_53 (fun H locs hP hD hS => ?_)
    have hP : va_P D vwCl [(q0, .inr (1, [.ref q1, .ref q2, .int Y, .ref q3, .ref q4, .ref q5, .int (nI (29 + 1)), .int C])), (q1, .inl (ct 0, 12, .inl (fun j => nI (K j)))), (q2, .inl (ct 0, 12, .inl (fun j => nI (L j)))), (q3, .inl (ct 0, 12, .inl S)), (q4, .inl (ct 0, 144, .inl P)), (q5, .inl (ct 0, 30, .inl (upd (fun j => nI (shT T j)) 29 (nI z))))] H := hP
    have hD : va_D (hkA [q0, q1, q2, q3, q4, q5]) [(q0, .inr (1, [.ref q1, .ref q2, .int Y, .ref q3, .ref q4, .ref q5, .int (nI (29 + 1)), .int C])), (q1, .inl (ct 0, 12, .inl (fun j => nI (K j)))), (q2, .inl (ct 0, 12, .inl (fun j => nI (L j)))), (q3, .inl (ct 0, 12, .inl S)), (q4, .inl (ct 0, 144, .inl P)), (q5, .inl (ct 0, 30, .inl (upd (fun j => nI (shT T j)) 29 (nI z))))] := hD
    have hP : va_P D vwCl [(q0, .inr (1, [.ref q1, .ref q2, .int Y, .ref q3, .ref q4, .ref q5, .int (nI (29 + 1)), .int C])), (q1, .inl (ct 0, 12, .inl (fun j => nI (K j)))), (q2, .inl (ct 0, 12, .inl (fun j => nI (L j)))), (q3, .inl (ct 0, 12, .inl S)), (q4, .inl (ct 0, 144, .inl P)), (q5, .inl (ct 0, 30, .inl (fun j => nI (kpT T 30 z j))))] H := by rw [show upd (fun j => nI (shT T j)) 29 (nI z) = fun j => nI (kpT T 30 z j) from kpT_full T z] at hP; exact hP
    have hD : va_D (hkA [q0, q1, q2, q3, q4, q5]) [(q0, .inr (1, [.ref q1, .ref q2, .int Y, .ref q3, .ref q4, .ref q5, .int (nI (29 + 1)), .int C])), (q1, .inl (ct 0, 12, .inl (fun j => nI (K j)))), (q2, .inl (ct 0, 12, .inl (fun j => nI (L j)))), (q3, .inl (ct 0, 12, .inl S)), (q4, .inl (ct 0, 144, .inl P)), (q5, .inl (ct 0, 30, .inl (fun j => nI (kpT T 30 z j))))] := by rw [show upd (fun j => nI (shT T j)) 29 (nI z) = fun j => nI (kpT T 30 z j) from kpT_full T z] at hD; exact hD
    have hP9 : va_P D vwCl [(q0, .inr (1, [.ref q1, .ref q2, .int Y, .ref q3, .ref q4, .ref q5, .int (nI (29 + 1)), .int C])), (q1, .inl (ct 0, 12, .inl (fun j => nI (K j)))), (q2, .inl (ct 0, 12, .inl (fun j => nI (L j)))), (q3, .inl (ct 0, 12, .inl S)), (q4, .inl (ct 0, 144, .inl P)), (q5, .inl (ct 0, 30, .inl (fun j => nI (kpT T 30 z j))))] H := hP
    exact W.vret hx hb hr (fun t ht hW => ⟨rfl, by rw [ht]; exact hP9, by rw [ht]; exact ⟨hS.1, hS.2.1⟩⟩) hS.2.2 dX1_keep_56

set_option maxHeartbeats 4000000 in
set_option maxRecDepth 100000 in
theorem c_X1_type (l : Launch) (D : va_G) (ct : Nat → ClassId) (sa : Nat → Nat) (q0 q1 q2 q3 q4 q5 kp : Nat) (K L T : Nat → Nat) (S P : Nat → Int32) (Y C : Int32) (z b : Nat) (hkp : kp ≤ 30) (hz : z < 12) (hb9 : b < 12) (hK : ∀ x, x < 12 → K x < 12) (hT : ∀ p, T p < 12) : Met l yX1_type wsX1_type ({ frames := 2, cells := 0, slots := 0, locals := 52 }) (hkPc D ct sa [.ref q0, .int (nI z), .int (nI b)] (fun H => va_P D vwCl [(q0, .inr (1, [.ref q1, .ref q2, .int Y, .ref q3, .ref q4, .ref q5, .int (nI kp), .int C])), (q1, .inl (ct 0, 12, .inl (fun j => nI (K j)))), (q2, .inl (ct 0, 12, .inl (fun j => nI (L j)))), (q3, .inl (ct 0, 12, .inl S)), (q4, .inl (ct 0, 144, .inl P)), (q5, .inl (ct 0, 30, .inl (fun j => nI (T j))))] H ∧ va_D (fun _ => True) [(q0, .inr (1, [.ref q1, .ref q2, .int Y, .ref q3, .ref q4, .ref q5, .int (nI kp), .int C])), (q1, .inl (ct 0, 12, .inl (fun j => nI (K j)))), (q2, .inl (ct 0, 12, .inl (fun j => nI (L j)))), (q3, .inl (ct 0, 12, .inl S)), (q4, .inl (ct 0, 144, .inl P)), (q5, .inl (ct 0, 30, .inl (fun j => nI (T j))))])) (hkQ (some (.int (tpR K z b))) D [(q0, .inr (1, [.ref q1, .ref q2, .int Y, .ref q3, .ref q4, .ref q5, .int (nI (kpN kp)), .int (C + nI 1)])), (q1, .inl (ct 0, 12, .inl (fun j => nI (K j)))), (q2, .inl (ct 0, 12, .inl (fun j => nI (L j)))), (q3, .inl (ct 0, 12, .inl (tpS K S z b))), (q4, .inl (ct 0, 144, .inl (tpP K T P kp z b))), (q5, .inl (ct 0, 30, .inl (fun j => nI ((kpT T kp z) j))))] [q0, q1, q2, q3, q4, q5]) 0 0 (hkA [q0, q1, q2, q3, q4, q5]) := by
  refine Met.ofW (cc := cX1_type) (maxL := 5) (ret := (some .boolean)) (by decide) rfl ?_
  intro p e s m args below meth c s₁ B hml hv
  obtain ⟨rfl, hE, hp⟩ := hv
  have hx := B.exec
  have hb := B.bytes
  have hr := B.returns
  have hts := atoms_spec (ws := wsX1_type) B.pre
  have hown : s.vm.findClass RX1 = some m.cls := findClass_of_methodNamed B.named
  have hlocks := B.notSynchronized
  have hin1 : ∀ w ∈ wsX10, w ∈ wsX1_type := by decide +kernel
  obtain ⟨hP, hD0⟩ := hp
  have hD : va_D (hkA [q0, q1, q2, q3, q4, q5]) [(q0, .inr (1, [.ref q1, .ref q2, .int Y, .ref q3, .ref q4, .ref q5, .int (nI kp), .int C])), (q1, .inl (ct 0, 12, .inl (fun j => nI (K j)))), (q2, .inl (ct 0, 12, .inl (fun j => nI (L j)))), (q3, .inl (ct 0, 12, .inl S)), (q4, .inl (ct 0, 144, .inl P)), (q5, .inl (ct 0, 30, .inl (fun j => nI (T j))))] := hD0.weaken (fun k q hk _ => hk_mem hk)
  have hS : va_S (hkA [q0, q1, q2, q3, q4, q5]) s.heap s.heap [] := va_S.rf
  have hl := lv_entry ([.ref q0, .int (nI z), .int (nI b)]) (n := 5) (Nat.le_of_ble_eq_true rfl)
  rw [lg_entry_eq]
  generalize (lg_sl ([.ref q0, .int (nI z), .int (nI b)]) ++ List.replicate (5 - (lg_sl ([.ref q0, .int (nI z), .int (nI b)])).length) Slot.unset).toArray = ls at hl ⊢
  have hl : lv_has ls 5 [(0, .ref q0), (1, .int (nI z)), (2, .int (nI b))] := hl
  refine lv_aload_n hx hb dX1_type_0 rfl (lv_at hl 0 rfl) ?_
  refine va_get (D := D) (ci := 1) (v := .ref q1) (C := RX1) (T := TX1) (N := 8) hx hb hts hin1 hown hE.1 hP 0 rfl rfl 0 (by decide) (hts (.fieldLink RX1 9 "Homekeys$Student" "keys" "[I") (by decide +kernel)) (fun _ h9 => h9) rfl dX1_type_1 ?_
  refine lv_iload_n hx hb dX1_type_4 rfl (lv_at hl 1 rfl) ?_
  refine hk_R (rest := []) (va_Run.run (va_runSN (host := RX2) (As := [.ref q1, .int (nI z)]) (rest := []) ⟨hx, hb, hml, hown, hts⟩ (c_X2_at l D ct sa q1 12 (fun j => nI (K j)) (nI z) (by decide)) ⟨va_cnB 2 hts gX1_type_X2_at_n41 rfl rfl rfl (hE.nw hkN_X1_41) (hts (.initialized RX2) (by decide +kernel)) (by decide +kernel) ⟨Nat.le_of_ble_eq_true rfl, Nat.le_of_ble_eq_true rfl⟩, hts (.static yX2_at) (by decide +kernel), trivial⟩ (hk_preS hE (hP.sub (ws' := [(q1, .inl (ct 0, 12, .inl (fun j => nI (K j))))]) [1] rfl)) rfl rfl hl.1 rfl (lv_room (Nat.le_of_ble_eq_true rfl)) dX1_type_5 ⟨Nat.zero_le _, Nat.zero_le _⟩)) ?_
  refine hk_top (y := nI (K z)) (hkAt_in hz (by decide)) ?_
  refine lv_istore_n (lv' := [(3, .int (nI (K z))), (0, .ref q0), (1, .int (nI z)), (2, .int (nI b))]) hx hb dX1_type_8 rfl hl (by decide) rfl (fun ls hl => ?_)
  refine lv_iload_n hx hb dX1_type_9 rfl (lv_at hl 0 rfl) ?_
  refine lv_iload_n hx hb dX1_type_10 rfl (lv_at hl 3 rfl) ?_
  refine hk_eqN (tgt := 18) hx hb (by have := hK z hz; omega) (by omega) dX1_type_11 (by decide) (fun hc => ?_) (fun hc => ?_)
  · refine lv_iconst (v := nI 0) hx hb dX1_type_18 (by decide) ?_
    refine lv_istore (lv' := [(4, .int (nI 0)), (3, .int (nI (K z))), (0, .ref q0), (1, .int (nI z)), (2, .int (nI b))]) hx hb dX1_type_19 hl (by decide) rfl (fun ls hl => ?_)
    refine lv_iload hx hb dX1_type_21 (lv_at hl 0 rfl) ?_
    refine hk_eq0N (tgt := 65) hx hb (by omega) dX1_type_23 (by decide) (fun hc9 => ?_) (fun hc9 => ?_)
    · refine lv_aload_n hx hb dX1_type_65 rfl (lv_at hl 2 rfl) ?_
      refine lv_iload_n hx hb dX1_type_66 rfl (lv_at hl 3 rfl) ?_
      refine hk_M (rest := []) (va_Run.run (va_runV (As := [.int (nI z)]) (rest := []) ⟨hx, hb, hml, hown, hts⟩ (c_X1_keep l D ct sa q0 q1 q2 q3 q4 q5 kp K L T S P Y C z hkp) (cwV 1 hts gX1_type_X1_keep rfl rfl rfl (by decide +kernel) ⟨Nat.le_of_ble_eq_true rfl, Nat.le_of_ble_eq_true rfl⟩) (hk_preV hE (va_recv hE.1 hP (ci := 1) (q0 := 0) rfl rfl) ⟨hP, hD.weaken (fun _ _ _ _ => trivial)⟩) rfl rfl hl.1 rfl (lv_room (Nat.le_of_ble_eq_true rfl)) dX1_type_67 ⟨Nat.zero_le _, Nat.zero_le _⟩)) hP hD hS [0, 1, 2, 3, 4, 5] (wc := [(q0, .inr (1, [.ref q1, .ref q2, .int Y, .ref q3, .ref q4, .ref q5, .int (nI kp), .int C])), (q1, .inl (ct 0, 12, .inl (fun j => nI (K j)))), (q2, .inl (ct 0, 12, .inl (fun j => nI (L j)))), (q3, .inl (ct 0, 12, .inl S)), (q4, .inl (ct 0, 144, .inl P)), (q5, .inl (ct 0, 30, .inl (fun j => nI (T j))))]) rfl rfl rfl (fun H locs hP hD hS => ?_)
      have hP : va_P D vwCl [(q0, .inr (1, [.ref q1, .ref q2, .int Y, .ref q3, .ref q4, .ref q5, .int (nI (kpN kp)), .int C])), (q1, .inl (ct 0, 12, .inl (fun j => nI (K j)))), (q2, .inl (ct 0, 12, .inl (fun j => nI (L j)))), (q3, .inl (ct 0, 12, .inl S)), (q4, .inl (ct 0, 144, .inl P)), (q5, .inl (ct 0, 30, .inl (fun j => nI (kpT T kp z j))))] H := hP
      have hD : va_D (hkA [q0, q1, q2, q3, q4, q5]) [(q0, .inr (1, [.ref q1, .ref q2, .int Y, .ref q3, .ref q4, .ref q5, .int (nI (kpN kp)), .int C])), (q1, .inl (ct 0, 12, .inl (fun j => nI (K j)))), (q2, .inl (ct 0, 12, .inl (fun j => nI (L j)))), (q3, .inl (ct 0, 12, .inl S)), (q4, .inl (ct 0, 144, .inl P)), (q5, .inl (ct 0, 30, .inl (fun j => nI (kpT T kp z j))))] := hD
      refine lv_aload_n hx hb dX1_type_70 rfl (lv_at hl 2 rfl) ?_
      refine lv_dup hx hb dX1_type_71 rfl ?_
      refine va_get (D := D) (ci := 1) (v := .int C) (C := RX1) (T := TX1) (N := 8) hx hb hts hin1 hown hE.1 hP 0 rfl rfl 7 (by decide) (hts (.fieldLink RX1 34 "Homekeys$Student" "presses" "I") (by decide +kernel)) (fun _ h9 => h9) rfl dX1_type_72 ?_
      refine lv_iconst (v := nI 1) hx hb dX1_type_75 (by decide) ?_
      refine lv_iadd hx hb dX1_type_76 ?_
      refine va_put (D := D) (ci := 1) (v := .int (C + (nI 1))) (ty := .int) (C := RX1) (T := TX1) (N := 8) hx hb hts hin1 tyX1 tyX1_ok nmX1 hown hE.1 hP hD hS 0 rfl rfl 7 (by decide) (hts (.fieldLink RX1 34 "Homekeys$Student" "presses" "I") (by decide +kernel)) (fun _ h9 => h9) rfl (by decide +kernel) rfl rfl (Nat.le_of_ble_eq_true rfl) dX1_type_77 (fun H locs hP hD hS => ?_)
      have hP : va_P D vwCl [(q0, .inr (1, [.ref q1, .ref q2, .int Y, .ref q3, .ref q4, .ref q5, .int (nI (kpN kp)), .int (C + (nI 1))])), (q1, .inl (ct 0, 12, .inl (fun j => nI (K j)))), (q2, .inl (ct 0, 12, .inl (fun j => nI (L j)))), (q3, .inl (ct 0, 12, .inl S)), (q4, .inl (ct 0, 144, .inl P)), (q5, .inl (ct 0, 30, .inl (fun j => nI (kpT T kp z j))))] H := hP
      have hD : va_D (hkA [q0, q1, q2, q3, q4, q5]) [(q0, .inr (1, [.ref q1, .ref q2, .int Y, .ref q3, .ref q4, .ref q5, .int (nI (kpN kp)), .int (C + (nI 1))])), (q1, .inl (ct 0, 12, .inl (fun j => nI (K j)))), (q2, .inl (ct 0, 12, .inl (fun j => nI (L j)))), (q3, .inl (ct 0, 12, .inl S)), (q4, .inl (ct 0, 144, .inl P)), (q5, .inl (ct 0, 30, .inl (fun j => nI (kpT T kp z j))))] := hD
      refine lv_iload hx hb dX1_type_80 (lv_at hl 0 rfl) ?_
      have e1 : tpS K S z b = S := if_pos hc
      have e2 : tpP K T P kp z b = P := if_pos (Or.inl hc)
      have hP9 : va_P D vwCl [(q0, .inr (1, [.ref q1, .ref q2, .int Y, .ref q3, .ref q4, .ref q5, .int (nI (kpN kp)), .int (C + (nI 1))])), (q1, .inl (ct 0, 12, .inl (fun j => nI (K j)))), (q2, .inl (ct 0, 12, .inl (fun j => nI (L j)))), (q3, .inl (ct 0, 12, .inl S)), (q4, .inl (ct 0, 144, .inl P)), (q5, .inl (ct 0, 30, .inl (fun j => nI (kpT T kp z j))))] H := hP
      exact W.zret (v := nI 0) hx hb hr rfl (fun t ht hW => ⟨by rw [tpR, if_pos hc]; rfl, by rw [ht]; rw [e1, e2]; exact hP9, by rw [ht]; exact ⟨hS.1, hS.2.1⟩⟩) hS.2.2 dX1_type_82
    · exact absurd hc9 (by decide)
  · have hKz : K z < 12 := hK z hz
    refine lv_iconst (v := nI 1) hx hb dX1_type_14 (by decide) ?_
    refine lv_goto (tgt := 19) hx hb dX1_type_15 (by decide) ?_
    refine lv_istore (lv' := [(4, .int (nI 1)), (3, .int (nI (K z))), (0, .ref q0), (1, .int (nI z)), (2, .int (nI b))]) hx hb dX1_type_19 hl (by decide) rfl (fun ls hl => ?_)
    refine lv_iload hx hb dX1_type_21 (lv_at hl 0 rfl) ?_
    refine hk_eq0N (tgt := 65) hx hb (by omega) dX1_type_23 (by decide) (fun hc9 => ?_) (fun hc9 => ?_)
    · exact absurd hc9 (by decide)
    · refine lv_aload_n hx hb dX1_type_26 rfl (lv_at hl 2 rfl) ?_
      refine va_get (D := D) (ci := 1) (v := .ref q3) (C := RX1) (T := TX1) (N := 8) hx hb hts hin1 hown hE.1 hP 0 rfl rfl 3 (by decide) (hts (.fieldLink RX1 22 "Homekeys$Student" "keySlips" "[I") (by decide +kernel)) (fun _ h9 => h9) rfl dX1_type_27 ?_
      refine lv_iload_n hx hb dX1_type_30 rfl (lv_at hl 1 rfl) ?_
      refine hk_M (rest := []) (va_Run.run (va_runSN (host := RX2) (As := [.ref q3, .int (nI (K z))]) (rest := []) ⟨hx, hb, hml, hown, hts⟩ (c_X2_count l D ct sa q3 12 S (K z) (by decide) (by omega)) ⟨va_cnB 2 hts gX1_type_X2_count_n45 rfl rfl rfl (hE.nw hkN_X1_45) (hts (.initialized RX2) (by decide +kernel)) (by decide +kernel) ⟨Nat.le_of_ble_eq_true rfl, Nat.le_of_ble_eq_true rfl⟩, hts (.static yX2_count) (by decide +kernel), trivial⟩ (hk_preS hE ⟨hP.sub (ws' := [(q3, .inl (ct 0, 12, .inl S))]) [3] rfl, (hD.sub (ws' := [(q3, .inl (ct 0, 12, .inl S))]) [3] (by decide) rfl).weaken (fun _ _ _ _ => trivial)⟩) rfl rfl hl.1 rfl (lv_room (Nat.le_of_ble_eq_true rfl)) dX1_type_31 ⟨Nat.zero_le _, Nat.zero_le _⟩)) hP hD hS [3] (wc := [(q3, .inl (ct 0, 12, .inl S))]) rfl rfl rfl (fun H locs hP hD hS => ?_)
      have hP : va_P D vwCl [(q0, .inr (1, [.ref q1, .ref q2, .int Y, .ref q3, .ref q4, .ref q5, .int (nI kp), .int C])), (q1, .inl (ct 0, 12, .inl (fun j => nI (K j)))), (q2, .inl (ct 0, 12, .inl (fun j => nI (L j)))), (q3, .inl (ct 0, 12, .inl (upd S (K z) (S (K z) + nI 1)))), (q4, .inl (ct 0, 144, .inl P)), (q5, .inl (ct 0, 30, .inl (fun j => nI (T j))))] H := hP
      have hD : va_D (hkA [q0, q1, q2, q3, q4, q5]) [(q0, .inr (1, [.ref q1, .ref q2, .int Y, .ref q3, .ref q4, .ref q5, .int (nI kp), .int C])), (q1, .inl (ct 0, 12, .inl (fun j => nI (K j)))), (q2, .inl (ct 0, 12, .inl (fun j => nI (L j)))), (q3, .inl (ct 0, 12, .inl (upd S (K z) (S (K z) + nI 1)))), (q4, .inl (ct 0, 144, .inl P)), (q5, .inl (ct 0, 30, .inl (fun j => nI (T j))))] := hD
      refine lv_aload_n hx hb dX1_type_34 rfl (lv_at hl 2 rfl) ?_
      refine va_get (D := D) (ci := 1) (v := .int (nI kp)) (C := RX1) (T := TX1) (N := 8) hx hb hts hin1 hown hE.1 hP 0 rfl rfl 6 (by decide) (hts (.fieldLink RX1 31 "Homekeys$Student" "kept" "I") (by decide +kernel)) (fun _ h9 => h9) rfl dX1_type_35 ?_
      refine hk_le0N (tgt := 65) hx hb (by omega) dX1_type_38 (by decide) (fun h0 => ?_) (fun h0 => ?_)
      · subst h0
        refine lv_aload_n hx hb dX1_type_65 rfl (lv_at hl 2 rfl) ?_
        refine lv_iload_n hx hb dX1_type_66 rfl (lv_at hl 3 rfl) ?_
        refine hk_M (rest := []) (va_Run.run (va_runV (As := [.int (nI z)]) (rest := []) ⟨hx, hb, hml, hown, hts⟩ (c_X1_keep l D ct sa q0 q1 q2 q3 q4 q5 0 K L T (upd S (K z) (S (K z) + nI 1)) P Y C z (by omega)) (cwV 1 hts gX1_type_X1_keep rfl rfl rfl (by decide +kernel) ⟨Nat.le_of_ble_eq_true rfl, Nat.le_of_ble_eq_true rfl⟩) (hk_preV hE (va_recv hE.1 hP (ci := 1) (q0 := 0) rfl rfl) ⟨hP, hD.weaken (fun _ _ _ _ => trivial)⟩) rfl rfl hl.1 rfl (lv_room (Nat.le_of_ble_eq_true rfl)) dX1_type_67 ⟨Nat.zero_le _, Nat.zero_le _⟩)) hP hD hS [0, 1, 2, 3, 4, 5] (wc := [(q0, .inr (1, [.ref q1, .ref q2, .int Y, .ref q3, .ref q4, .ref q5, .int (nI 0), .int C])), (q1, .inl (ct 0, 12, .inl (fun j => nI (K j)))), (q2, .inl (ct 0, 12, .inl (fun j => nI (L j)))), (q3, .inl (ct 0, 12, .inl (upd S (K z) (S (K z) + nI 1)))), (q4, .inl (ct 0, 144, .inl P)), (q5, .inl (ct 0, 30, .inl (fun j => nI (T j))))]) rfl rfl rfl (fun H locs hP hD hS => ?_)
        have hP : va_P D vwCl [(q0, .inr (1, [.ref q1, .ref q2, .int Y, .ref q3, .ref q4, .ref q5, .int (nI (kpN 0)), .int C])), (q1, .inl (ct 0, 12, .inl (fun j => nI (K j)))), (q2, .inl (ct 0, 12, .inl (fun j => nI (L j)))), (q3, .inl (ct 0, 12, .inl (upd S (K z) (S (K z) + nI 1)))), (q4, .inl (ct 0, 144, .inl P)), (q5, .inl (ct 0, 30, .inl (fun j => nI (kpT T 0 z j))))] H := hP
        have hD : va_D (hkA [q0, q1, q2, q3, q4, q5]) [(q0, .inr (1, [.ref q1, .ref q2, .int Y, .ref q3, .ref q4, .ref q5, .int (nI (kpN 0)), .int C])), (q1, .inl (ct 0, 12, .inl (fun j => nI (K j)))), (q2, .inl (ct 0, 12, .inl (fun j => nI (L j)))), (q3, .inl (ct 0, 12, .inl (upd S (K z) (S (K z) + nI 1)))), (q4, .inl (ct 0, 144, .inl P)), (q5, .inl (ct 0, 30, .inl (fun j => nI (kpT T 0 z j))))] := hD
        refine lv_aload_n hx hb dX1_type_70 rfl (lv_at hl 2 rfl) ?_
        refine lv_dup hx hb dX1_type_71 rfl ?_
        refine va_get (D := D) (ci := 1) (v := .int C) (C := RX1) (T := TX1) (N := 8) hx hb hts hin1 hown hE.1 hP 0 rfl rfl 7 (by decide) (hts (.fieldLink RX1 34 "Homekeys$Student" "presses" "I") (by decide +kernel)) (fun _ h9 => h9) rfl dX1_type_72 ?_
        refine lv_iconst (v := nI 1) hx hb dX1_type_75 (by decide) ?_
        refine lv_iadd hx hb dX1_type_76 ?_
        refine va_put (D := D) (ci := 1) (v := .int (C + (nI 1))) (ty := .int) (C := RX1) (T := TX1) (N := 8) hx hb hts hin1 tyX1 tyX1_ok nmX1 hown hE.1 hP hD hS 0 rfl rfl 7 (by decide) (hts (.fieldLink RX1 34 "Homekeys$Student" "presses" "I") (by decide +kernel)) (fun _ h9 => h9) rfl (by decide +kernel) rfl rfl (Nat.le_of_ble_eq_true rfl) dX1_type_77 (fun H locs hP hD hS => ?_)
        have hP : va_P D vwCl [(q0, .inr (1, [.ref q1, .ref q2, .int Y, .ref q3, .ref q4, .ref q5, .int (nI (kpN 0)), .int (C + (nI 1))])), (q1, .inl (ct 0, 12, .inl (fun j => nI (K j)))), (q2, .inl (ct 0, 12, .inl (fun j => nI (L j)))), (q3, .inl (ct 0, 12, .inl (upd S (K z) (S (K z) + nI 1)))), (q4, .inl (ct 0, 144, .inl P)), (q5, .inl (ct 0, 30, .inl (fun j => nI (kpT T 0 z j))))] H := hP
        have hD : va_D (hkA [q0, q1, q2, q3, q4, q5]) [(q0, .inr (1, [.ref q1, .ref q2, .int Y, .ref q3, .ref q4, .ref q5, .int (nI (kpN 0)), .int (C + (nI 1))])), (q1, .inl (ct 0, 12, .inl (fun j => nI (K j)))), (q2, .inl (ct 0, 12, .inl (fun j => nI (L j)))), (q3, .inl (ct 0, 12, .inl (upd S (K z) (S (K z) + nI 1)))), (q4, .inl (ct 0, 144, .inl P)), (q5, .inl (ct 0, 30, .inl (fun j => nI (kpT T 0 z j))))] := hD
        refine lv_iload hx hb dX1_type_80 (lv_at hl 0 rfl) ?_
        have e1 : tpS K S z b = upd S (K z) (S (K z) + nI 1) := if_neg hc
        have e2 : tpP K T P 0 z b = P := if_pos (Or.inr rfl)
        have hP9 : va_P D vwCl [(q0, .inr (1, [.ref q1, .ref q2, .int Y, .ref q3, .ref q4, .ref q5, .int (nI (kpN 0)), .int (C + (nI 1))])), (q1, .inl (ct 0, 12, .inl (fun j => nI (K j)))), (q2, .inl (ct 0, 12, .inl (fun j => nI (L j)))), (q3, .inl (ct 0, 12, .inl (upd S (K z) (S (K z) + nI 1)))), (q4, .inl (ct 0, 144, .inl P)), (q5, .inl (ct 0, 30, .inl (fun j => nI (kpT T 0 z j))))] H := hP
        exact W.zret (v := nI 1) hx hb hr rfl (fun t ht hW => ⟨by rw [tpR, if_neg hc]; rfl, by rw [ht]; rw [e1, e2]; exact hP9, by rw [ht]; exact ⟨hS.1, hS.2.1⟩⟩) hS.2.2 dX1_type_82
      · have hTl := hT (kp - 1)
        refine lv_aload_n hx hb dX1_type_41 rfl (lv_at hl 2 rfl) ?_
        refine va_get (D := D) (ci := 1) (v := .ref q4) (C := RX1) (T := TX1) (N := 8) hx hb hts hin1 hown hE.1 hP 0 rfl rfl 4 (by decide) (hts (.fieldLink RX1 25 "Homekeys$Student" "pairSlips" "[I") (by decide +kernel)) (fun _ h9 => h9) rfl dX1_type_42 ?_
        refine lv_aload_n hx hb dX1_type_45 rfl (lv_at hl 2 rfl) ?_
        refine va_get (D := D) (ci := 1) (v := .ref q5) (C := RX1) (T := TX1) (N := 8) hx hb hts hin1 hown hE.1 hP 0 rfl rfl 5 (by decide) (hts (.fieldLink RX1 28 "Homekeys$Student" "typed" "[I") (by decide +kernel)) (fun _ h9 => h9) rfl dX1_type_46 ?_
        refine lv_aload_n hx hb dX1_type_49 rfl (lv_at hl 2 rfl) ?_
        refine va_get (D := D) (ci := 1) (v := .int (nI kp)) (C := RX1) (T := TX1) (N := 8) hx hb hts hin1 hown hE.1 hP 0 rfl rfl 6 (by decide) (hts (.fieldLink RX1 31 "Homekeys$Student" "kept" "I") (by decide +kernel)) (fun _ h9 => h9) rfl dX1_type_50 ?_
        refine lv_iconst (v := nI 1) hx hb dX1_type_53 (by decide) ?_
        refine hk_subN hx hb (by omega) dX1_type_54 ?_
        refine hk_R (rest := [.ref q4]) (va_Run.run (va_runSN (host := RX2) (As := [.ref q5, .int (nI (kp - 1))]) (rest := [.ref q4]) ⟨hx, hb, hml, hown, hts⟩ (c_X2_at l D ct sa q5 30 (fun j => nI (T j)) (nI (kp - 1)) (by decide)) ⟨va_cnB 2 hts gX1_type_X2_at_n41 rfl rfl rfl (hE.nw hkN_X1_41) (hts (.initialized RX2) (by decide +kernel)) (by decide +kernel) ⟨Nat.le_of_ble_eq_true rfl, Nat.le_of_ble_eq_true rfl⟩, hts (.static yX2_at) (by decide +kernel), trivial⟩ (hk_preS hE (hP.sub (ws' := [(q5, .inl (ct 0, 30, .inl (fun j => nI (T j))))]) [5] rfl)) rfl rfl hl.1 rfl (lv_room (Nat.le_of_ble_eq_true rfl)) dX1_type_55 ⟨Nat.zero_le _, Nat.zero_le _⟩)) ?_
        refine hk_top (y := nI (T (kp - 1))) (hkAt_in (by omega) (by decide)) ?_
        refine lv_iload_n hx hb dX1_type_58 rfl (lv_at hl 3 rfl) ?_
        refine hk_R (rest := [.ref q4]) (va_Run.run (va_runSN (host := RX2) (As := [.int (nI (T (kp - 1))), .int (nI z)]) (rest := [.ref q4]) ⟨hx, hb, hml, hown, hts⟩ (c_X2_pairPlace l D ct sa (T (kp - 1)) z) ⟨va_cnB 2 hts gX1_type_X2_pairPlace_n49 rfl rfl rfl (hE.nw hkN_X1_49) (hts (.initialized RX2) (by decide +kernel)) (by decide +kernel) ⟨Nat.le_of_ble_eq_true rfl, Nat.le_of_ble_eq_true rfl⟩, hts (.static yX2_pairPlace) (by decide +kernel), trivial⟩ (hk_preS hE trivial) rfl rfl hl.1 rfl (lv_room (Nat.le_of_ble_eq_true rfl)) dX1_type_59 ⟨Nat.zero_le _, Nat.zero_le _⟩)) ?_
        refine hk_M (rest := []) (va_Run.run (va_runSN (host := RX2) (As := [.ref q4, .int (nI (12 * T (kp - 1) + z))]) (rest := []) ⟨hx, hb, hml, hown, hts⟩ (c_X2_count l D ct sa q4 144 P (12 * T (kp - 1) + z) (by decide) (by omega)) ⟨va_cnB 2 hts gX1_type_X2_count_n45 rfl rfl rfl (hE.nw hkN_X1_45) (hts (.initialized RX2) (by decide +kernel)) (by decide +kernel) ⟨Nat.le_of_ble_eq_true rfl, Nat.le_of_ble_eq_true rfl⟩, hts (.static yX2_count) (by decide +kernel), trivial⟩ (hk_preS hE ⟨hP.sub (ws' := [(q4, .inl (ct 0, 144, .inl P))]) [4] rfl, (hD.sub (ws' := [(q4, .inl (ct 0, 144, .inl P))]) [4] (by decide) rfl).weaken (fun _ _ _ _ => trivial)⟩) rfl rfl hl.1 rfl (lv_room (Nat.le_of_ble_eq_true rfl)) dX1_type_62 ⟨Nat.zero_le _, Nat.zero_le _⟩)) hP hD hS [4] (wc := [(q4, .inl (ct 0, 144, .inl P))]) rfl rfl rfl (fun H locs hP hD hS => ?_)
        have hP : va_P D vwCl [(q0, .inr (1, [.ref q1, .ref q2, .int Y, .ref q3, .ref q4, .ref q5, .int (nI kp), .int C])), (q1, .inl (ct 0, 12, .inl (fun j => nI (K j)))), (q2, .inl (ct 0, 12, .inl (fun j => nI (L j)))), (q3, .inl (ct 0, 12, .inl (upd S (K z) (S (K z) + nI 1)))), (q4, .inl (ct 0, 144, .inl (upd P (12 * T (kp - 1) + z) (P (12 * T (kp - 1) + z) + nI 1)))), (q5, .inl (ct 0, 30, .inl (fun j => nI (T j))))] H := hP
        have hD : va_D (hkA [q0, q1, q2, q3, q4, q5]) [(q0, .inr (1, [.ref q1, .ref q2, .int Y, .ref q3, .ref q4, .ref q5, .int (nI kp), .int C])), (q1, .inl (ct 0, 12, .inl (fun j => nI (K j)))), (q2, .inl (ct 0, 12, .inl (fun j => nI (L j)))), (q3, .inl (ct 0, 12, .inl (upd S (K z) (S (K z) + nI 1)))), (q4, .inl (ct 0, 144, .inl (upd P (12 * T (kp - 1) + z) (P (12 * T (kp - 1) + z) + nI 1)))), (q5, .inl (ct 0, 30, .inl (fun j => nI (T j))))] := hD
        refine lv_aload_n hx hb dX1_type_65 rfl (lv_at hl 2 rfl) ?_
        refine lv_iload_n hx hb dX1_type_66 rfl (lv_at hl 3 rfl) ?_
        refine hk_M (rest := []) (va_Run.run (va_runV (As := [.int (nI z)]) (rest := []) ⟨hx, hb, hml, hown, hts⟩ (c_X1_keep l D ct sa q0 q1 q2 q3 q4 q5 kp K L T (upd S (K z) (S (K z) + nI 1)) (upd P (12 * T (kp - 1) + z) (P (12 * T (kp - 1) + z) + nI 1)) Y C z hkp) (cwV 1 hts gX1_type_X1_keep rfl rfl rfl (by decide +kernel) ⟨Nat.le_of_ble_eq_true rfl, Nat.le_of_ble_eq_true rfl⟩) (hk_preV hE (va_recv hE.1 hP (ci := 1) (q0 := 0) rfl rfl) ⟨hP, hD.weaken (fun _ _ _ _ => trivial)⟩) rfl rfl hl.1 rfl (lv_room (Nat.le_of_ble_eq_true rfl)) dX1_type_67 ⟨Nat.zero_le _, Nat.zero_le _⟩)) hP hD hS [0, 1, 2, 3, 4, 5] (wc := [(q0, .inr (1, [.ref q1, .ref q2, .int Y, .ref q3, .ref q4, .ref q5, .int (nI kp), .int C])), (q1, .inl (ct 0, 12, .inl (fun j => nI (K j)))), (q2, .inl (ct 0, 12, .inl (fun j => nI (L j)))), (q3, .inl (ct 0, 12, .inl (upd S (K z) (S (K z) + nI 1)))), (q4, .inl (ct 0, 144, .inl (upd P (12 * T (kp - 1) + z) (P (12 * T (kp - 1) + z) + nI 1)))), (q5, .inl (ct 0, 30, .inl (fun j => nI (T j))))]) rfl rfl rfl (fun H locs hP hD hS => ?_)
        have hP : va_P D vwCl [(q0, .inr (1, [.ref q1, .ref q2, .int Y, .ref q3, .ref q4, .ref q5, .int (nI (kpN kp)), .int C])), (q1, .inl (ct 0, 12, .inl (fun j => nI (K j)))), (q2, .inl (ct 0, 12, .inl (fun j => nI (L j)))), (q3, .inl (ct 0, 12, .inl (upd S (K z) (S (K z) + nI 1)))), (q4, .inl (ct 0, 144, .inl (upd P (12 * T (kp - 1) + z) (P (12 * T (kp - 1) + z) + nI 1)))), (q5, .inl (ct 0, 30, .inl (fun j => nI (kpT T kp z j))))] H := hP
        have hD : va_D (hkA [q0, q1, q2, q3, q4, q5]) [(q0, .inr (1, [.ref q1, .ref q2, .int Y, .ref q3, .ref q4, .ref q5, .int (nI (kpN kp)), .int C])), (q1, .inl (ct 0, 12, .inl (fun j => nI (K j)))), (q2, .inl (ct 0, 12, .inl (fun j => nI (L j)))), (q3, .inl (ct 0, 12, .inl (upd S (K z) (S (K z) + nI 1)))), (q4, .inl (ct 0, 144, .inl (upd P (12 * T (kp - 1) + z) (P (12 * T (kp - 1) + z) + nI 1)))), (q5, .inl (ct 0, 30, .inl (fun j => nI (kpT T kp z j))))] := hD
        refine lv_aload_n hx hb dX1_type_70 rfl (lv_at hl 2 rfl) ?_
        refine lv_dup hx hb dX1_type_71 rfl ?_
        refine va_get (D := D) (ci := 1) (v := .int C) (C := RX1) (T := TX1) (N := 8) hx hb hts hin1 hown hE.1 hP 0 rfl rfl 7 (by decide) (hts (.fieldLink RX1 34 "Homekeys$Student" "presses" "I") (by decide +kernel)) (fun _ h9 => h9) rfl dX1_type_72 ?_
        refine lv_iconst (v := nI 1) hx hb dX1_type_75 (by decide) ?_
        refine lv_iadd hx hb dX1_type_76 ?_
        refine va_put (D := D) (ci := 1) (v := .int (C + (nI 1))) (ty := .int) (C := RX1) (T := TX1) (N := 8) hx hb hts hin1 tyX1 tyX1_ok nmX1 hown hE.1 hP hD hS 0 rfl rfl 7 (by decide) (hts (.fieldLink RX1 34 "Homekeys$Student" "presses" "I") (by decide +kernel)) (fun _ h9 => h9) rfl (by decide +kernel) rfl rfl (Nat.le_of_ble_eq_true rfl) dX1_type_77 (fun H locs hP hD hS => ?_)
        have hP : va_P D vwCl [(q0, .inr (1, [.ref q1, .ref q2, .int Y, .ref q3, .ref q4, .ref q5, .int (nI (kpN kp)), .int (C + (nI 1))])), (q1, .inl (ct 0, 12, .inl (fun j => nI (K j)))), (q2, .inl (ct 0, 12, .inl (fun j => nI (L j)))), (q3, .inl (ct 0, 12, .inl (upd S (K z) (S (K z) + nI 1)))), (q4, .inl (ct 0, 144, .inl (upd P (12 * T (kp - 1) + z) (P (12 * T (kp - 1) + z) + nI 1)))), (q5, .inl (ct 0, 30, .inl (fun j => nI (kpT T kp z j))))] H := hP
        have hD : va_D (hkA [q0, q1, q2, q3, q4, q5]) [(q0, .inr (1, [.ref q1, .ref q2, .int Y, .ref q3, .ref q4, .ref q5, .int (nI (kpN kp)), .int (C + (nI 1))])), (q1, .inl (ct 0, 12, .inl (fun j => nI (K j)))), (q2, .inl (ct 0, 12, .inl (fun j => nI (L j)))), (q3, .inl (ct 0, 12, .inl (upd S (K z) (S (K z) + nI 1)))), (q4, .inl (ct 0, 144, .inl (upd P (12 * T (kp - 1) + z) (P (12 * T (kp - 1) + z) + nI 1)))), (q5, .inl (ct 0, 30, .inl (fun j => nI (kpT T kp z j))))] := hD
        refine lv_iload hx hb dX1_type_80 (lv_at hl 0 rfl) ?_
        have e1 : tpS K S z b = upd S (K z) (S (K z) + nI 1) := if_neg hc
        have e2 : tpP K T P kp z b = upd P (12 * T (kp - 1) + z) (P (12 * T (kp - 1) + z) + nI 1) := if_neg (by omega)
        have hP9 : va_P D vwCl [(q0, .inr (1, [.ref q1, .ref q2, .int Y, .ref q3, .ref q4, .ref q5, .int (nI (kpN kp)), .int (C + (nI 1))])), (q1, .inl (ct 0, 12, .inl (fun j => nI (K j)))), (q2, .inl (ct 0, 12, .inl (fun j => nI (L j)))), (q3, .inl (ct 0, 12, .inl (upd S (K z) (S (K z) + nI 1)))), (q4, .inl (ct 0, 144, .inl (upd P (12 * T (kp - 1) + z) (P (12 * T (kp - 1) + z) + nI 1)))), (q5, .inl (ct 0, 30, .inl (fun j => nI (kpT T kp z j))))] H := hP
        exact W.zret (v := nI 1) hx hb hr rfl (fun t ht hW => ⟨by rw [tpR, if_neg hc]; rfl, by rw [ht]; rw [e1, e2]; exact hP9, by rw [ht]; exact ⟨hS.1, hS.2.1⟩⟩) hS.2.2 dX1_type_82

set_option maxHeartbeats 4000000 in
set_option maxRecDepth 100000 in
theorem c_X1_exchange (l : Launch) (D : va_G) (ct : Nat → ClassId) (sa : Nat → Nat) (q0 q1 q2 q3 q4 q5 kp : Nat) (K L T : Nat → Nat) (S P : Nat → Int32) (Y C : Int32) (a b : Nat) (ha : a < 12) (hb9 : b < 12) (hL : ∀ x, x < 12 → L x < 12) : Met l yX1_exchange wsX1_exchange ({ frames := 1, cells := 0, slots := 0, locals := 22 }) (hkPc D ct sa [.ref q0, .int (nI a), .int (nI b)] (fun H => va_P D vwCl [(q0, .inr (1, [.ref q1, .ref q2, .int Y, .ref q3, .ref q4, .ref q5, .int (nI kp), .int C])), (q1, .inl (ct 0, 12, .inl (fun j => nI (K j)))), (q2, .inl (ct 0, 12, .inl (fun j => nI (L j)))), (q3, .inl (ct 0, 12, .inl S)), (q4, .inl (ct 0, 144, .inl P)), (q5, .inl (ct 0, 30, .inl (fun j => nI (T j))))] H ∧ va_D (fun _ => True) [(q0, .inr (1, [.ref q1, .ref q2, .int Y, .ref q3, .ref q4, .ref q5, .int (nI kp), .int C])), (q1, .inl (ct 0, 12, .inl (fun j => nI (K j)))), (q2, .inl (ct 0, 12, .inl (fun j => nI (L j)))), (q3, .inl (ct 0, 12, .inl S)), (q4, .inl (ct 0, 144, .inl P)), (q5, .inl (ct 0, 30, .inl (fun j => nI (T j))))])) (hkQ none D [(q0, .inr (1, [.ref q1, .ref q2, .int Y, .ref q3, .ref q4, .ref q5, .int (nI kp), .int C])), (q1, .inl (ct 0, 12, .inl (fun j => nI ((exK K L a b) j)))), (q2, .inl (ct 0, 12, .inl (fun j => nI ((exL L a b) j)))), (q3, .inl (ct 0, 12, .inl (exS S Y a b))), (q4, .inl (ct 0, 144, .inl P)), (q5, .inl (ct 0, 30, .inl (fun j => nI (T j))))] [q0, q1, q2, q3, q4, q5]) 0 0 (hkA [q0, q1, q2, q3, q4, q5]) := by
  refine Met.ofW (cc := cX1_exchange) (maxL := 6) (ret := none) (by decide) rfl ?_
  intro p e s m args below meth c s₁ B hml hv
  obtain ⟨rfl, hE, hp⟩ := hv
  have hx := B.exec
  have hb := B.bytes
  have hr := B.returns
  have hts := atoms_spec (ws := wsX1_exchange) B.pre
  have hown : s.vm.findClass RX1 = some m.cls := findClass_of_methodNamed B.named
  have hlocks := B.notSynchronized
  have hin1 : ∀ w ∈ wsX10, w ∈ wsX1_exchange := by decide +kernel
  obtain ⟨hP, hD0⟩ := hp
  have hD : va_D (hkA [q0, q1, q2, q3, q4, q5]) [(q0, .inr (1, [.ref q1, .ref q2, .int Y, .ref q3, .ref q4, .ref q5, .int (nI kp), .int C])), (q1, .inl (ct 0, 12, .inl (fun j => nI (K j)))), (q2, .inl (ct 0, 12, .inl (fun j => nI (L j)))), (q3, .inl (ct 0, 12, .inl S)), (q4, .inl (ct 0, 144, .inl P)), (q5, .inl (ct 0, 30, .inl (fun j => nI (T j))))] := hD0.weaken (fun k q hk _ => hk_mem hk)
  have hS : va_S (hkA [q0, q1, q2, q3, q4, q5]) s.heap s.heap [] := va_S.rf
  have hl := lv_entry ([.ref q0, .int (nI a), .int (nI b)]) (n := 6) (Nat.le_of_ble_eq_true rfl)
  rw [lg_entry_eq]
  generalize (lg_sl ([.ref q0, .int (nI a), .int (nI b)]) ++ List.replicate (6 - (lg_sl ([.ref q0, .int (nI a), .int (nI b)])).length) Slot.unset).toArray = ls at hl ⊢
  have hl : lv_has ls 6 [(0, .ref q0), (1, .int (nI a)), (2, .int (nI b))] := hl
  have hLa : L a < 12 := hL a ha
  have hLb : L b < 12 := hL b hb9
  refine lv_aload_n hx hb dX1_exchange_0 rfl (lv_at hl 0 rfl) ?_
  refine va_get (D := D) (ci := 1) (v := .ref q2) (C := RX1) (T := TX1) (N := 8) hx hb hts hin1 hown hE.1 hP 0 rfl rfl 1 (by decide) (hts (.fieldLink RX1 15 "Homekeys$Student" "letters" "[I") (by decide +kernel)) (fun _ h9 => h9) rfl dX1_exchange_1 ?_
  refine lv_iload_n hx hb dX1_exchange_4 rfl (lv_at hl 1 rfl) ?_
  refine hk_R (rest := []) (va_Run.run (va_runSN (host := RX2) (As := [.ref q2, .int (nI a)]) (rest := []) ⟨hx, hb, hml, hown, hts⟩ (c_X2_at l D ct sa q2 12 (fun j => nI (L j)) (nI a) (by decide)) ⟨va_cnB 2 hts gX1_exchange_X2_at_n41 rfl rfl rfl (hE.nw hkN_X1_41) (hts (.initialized RX2) (by decide +kernel)) (by decide +kernel) ⟨Nat.le_of_ble_eq_true rfl, Nat.le_of_ble_eq_true rfl⟩, hts (.static yX2_at) (by decide +kernel), trivial⟩ (hk_preS hE (hP.sub (ws' := [(q2, .inl (ct 0, 12, .inl (fun j => nI (L j))))]) [2] rfl)) rfl rfl hl.1 rfl (lv_room (Nat.le_of_ble_eq_true rfl)) dX1_exchange_5 ⟨Nat.zero_le _, Nat.zero_le _⟩)) ?_
  refine hk_top (y := nI (L a)) (hkAt_in ha (by decide)) ?_
  refine lv_istore_n (lv' := [(3, .int (nI (L a))), (0, .ref q0), (1, .int (nI a)), (2, .int (nI b))]) hx hb dX1_exchange_8 rfl hl (by decide) rfl (fun ls hl => ?_)
  refine lv_aload_n hx hb dX1_exchange_9 rfl (lv_at hl 1 rfl) ?_
  refine va_get (D := D) (ci := 1) (v := .ref q2) (C := RX1) (T := TX1) (N := 8) hx hb hts hin1 hown hE.1 hP 0 rfl rfl 1 (by decide) (hts (.fieldLink RX1 15 "Homekeys$Student" "letters" "[I") (by decide +kernel)) (fun _ h9 => h9) rfl dX1_exchange_10 ?_
  refine lv_iload_n hx hb dX1_exchange_13 rfl (lv_at hl 3 rfl) ?_
  refine hk_R (rest := []) (va_Run.run (va_runSN (host := RX2) (As := [.ref q2, .int (nI b)]) (rest := []) ⟨hx, hb, hml, hown, hts⟩ (c_X2_at l D ct sa q2 12 (fun j => nI (L j)) (nI b) (by decide)) ⟨va_cnB 2 hts gX1_exchange_X2_at_n41 rfl rfl rfl (hE.nw hkN_X1_41) (hts (.initialized RX2) (by decide +kernel)) (by decide +kernel) ⟨Nat.le_of_ble_eq_true rfl, Nat.le_of_ble_eq_true rfl⟩, hts (.static yX2_at) (by decide +kernel), trivial⟩ (hk_preS hE (hP.sub (ws' := [(q2, .inl (ct 0, 12, .inl (fun j => nI (L j))))]) [2] rfl)) rfl rfl hl.1 rfl (lv_room (Nat.le_of_ble_eq_true rfl)) dX1_exchange_14 ⟨Nat.zero_le _, Nat.zero_le _⟩)) ?_
  refine hk_top (y := nI (L b)) (hkAt_in hb9 (by decide)) ?_
  refine lv_istore (lv' := [(4, .int (nI (L b))), (3, .int (nI (L a))), (0, .ref q0), (1, .int (nI a)), (2, .int (nI b))]) hx hb dX1_exchange_17 hl (by decide) rfl (fun ls hl => ?_)
  refine lv_aload_n hx hb dX1_exchange_19 rfl (lv_at hl 2 rfl) ?_
  refine va_get (D := D) (ci := 1) (v := .ref q2) (C := RX1) (T := TX1) (N := 8) hx hb hts hin1 hown hE.1 hP 0 rfl rfl 1 (by decide) (hts (.fieldLink RX1 15 "Homekeys$Student" "letters" "[I") (by decide +kernel)) (fun _ h9 => h9) rfl dX1_exchange_20 ?_
  refine lv_iload_n hx hb dX1_exchange_23 rfl (lv_at hl 3 rfl) ?_
  refine lv_iload hx hb dX1_exchange_24 (lv_at hl 0 rfl) ?_
  refine hk_M (rest := []) (va_Run.run (va_runSN (host := RX2) (As := [.ref q2, .int (nI a), .int (nI (L b))]) (rest := []) ⟨hx, hb, hml, hown, hts⟩ (c_X2_put l D ct sa q2 12 (fun j => nI (L j)) a (nI (L b)) (by decide) (by omega)) ⟨va_cnB 3 hts gX1_exchange_X2_put_n37 rfl rfl rfl (hE.nw hkN_X1_37) (hts (.initialized RX2) (by decide +kernel)) (by decide +kernel) ⟨Nat.le_of_ble_eq_true rfl, Nat.le_of_ble_eq_true rfl⟩, hts (.static yX2_put) (by decide +kernel), trivial⟩ (hk_preS hE ⟨hP.sub (ws' := [(q2, .inl (ct 0, 12, .inl (fun j => nI (L j))))]) [2] rfl, (hD.sub (ws' := [(q2, .inl (ct 0, 12, .inl (fun j => nI (L j))))]) [2] (by decide) rfl).weaken (fun _ _ _ _ => trivial)⟩) rfl rfl hl.1 rfl (lv_room (Nat.le_of_ble_eq_true rfl)) dX1_exchange_26 ⟨Nat.zero_le _, Nat.zero_le _⟩)) hP hD hS [2] (wc := [(q2, .inl (ct 0, 12, .inl (fun j => nI (L j))))]) rfl rfl rfl (fun H locs hP hD hS => ?_)
  have hP : va_P D vwCl [(q0, .inr (1, [.ref q1, .ref q2, .int Y, .ref q3, .ref q4, .ref q5, .int (nI kp), .int C])), (q1, .inl (ct 0, 12, .inl (fun j => nI (K j)))), (q2, .inl (ct 0, 12, .inl (upd (fun j => nI (L j)) a (nI (L b))))), (q3, .inl (ct 0, 12, .inl S)), (q4, .inl (ct 0, 144, .inl P)), (q5, .inl (ct 0, 30, .inl (fun j => nI (T j))))] H := hP
  have hD : va_D (hkA [q0, q1, q2, q3, q4, q5]) [(q0, .inr (1, [.ref q1, .ref q2, .int Y, .ref q3, .ref q4, .ref q5, .int (nI kp), .int C])), (q1, .inl (ct 0, 12, .inl (fun j => nI (K j)))), (q2, .inl (ct 0, 12, .inl (upd (fun j => nI (L j)) a (nI (L b))))), (q3, .inl (ct 0, 12, .inl S)), (q4, .inl (ct 0, 144, .inl P)), (q5, .inl (ct 0, 30, .inl (fun j => nI (T j))))] := hD
  refine lv_aload_n hx hb dX1_exchange_29 rfl (lv_at hl 2 rfl) ?_
  refine va_get (D := D) (ci := 1) (v := .ref q2) (C := RX1) (T := TX1) (N := 8) hx hb hts hin1 hown hE.1 hP 0 rfl rfl 1 (by decide) (hts (.fieldLink RX1 15 "Homekeys$Student" "letters" "[I") (by decide +kernel)) (fun _ h9 => h9) rfl dX1_exchange_30 ?_
  refine lv_iload_n hx hb dX1_exchange_33 rfl (lv_at hl 4 rfl) ?_
  refine lv_iload_n hx hb dX1_exchange_34 rfl (lv_at hl 1 rfl) ?_
  refine hk_M (rest := []) (va_Run.run (va_runSN (host := RX2) (As := [.ref q2, .int (nI b), .int (nI (L a))]) (rest := []) ⟨hx, hb, hml, hown, hts⟩ (c_X2_put l D ct sa q2 12 (upd (fun j => nI (L j)) a (nI (L b))) b (nI (L a)) (by decide) (by omega)) ⟨va_cnB 3 hts gX1_exchange_X2_put_n37 rfl rfl rfl (hE.nw hkN_X1_37) (hts (.initialized RX2) (by decide +kernel)) (by decide +kernel) ⟨Nat.le_of_ble_eq_true rfl, Nat.le_of_ble_eq_true rfl⟩, hts (.static yX2_put) (by decide +kernel), trivial⟩ (hk_preS hE ⟨hP.sub (ws' := [(q2, .inl (ct 0, 12, .inl (upd (fun j => nI (L j)) a (nI (L b)))))]) [2] rfl, (hD.sub (ws' := [(q2, .inl (ct 0, 12, .inl (upd (fun j => nI (L j)) a (nI (L b)))))]) [2] (by decide) rfl).weaken (fun _ _ _ _ => trivial)⟩) rfl rfl hl.1 rfl (lv_room (Nat.le_of_ble_eq_true rfl)) dX1_exchange_35 ⟨Nat.zero_le _, Nat.zero_le _⟩)) hP hD hS [2] (wc := [(q2, .inl (ct 0, 12, .inl (upd (fun j => nI (L j)) a (nI (L b)))))]) rfl rfl rfl (fun H locs hP hD hS => ?_)
  have hP : va_P D vwCl [(q0, .inr (1, [.ref q1, .ref q2, .int Y, .ref q3, .ref q4, .ref q5, .int (nI kp), .int C])), (q1, .inl (ct 0, 12, .inl (fun j => nI (K j)))), (q2, .inl (ct 0, 12, .inl (upd (upd (fun j => nI (L j)) a (nI (L b))) b (nI (L a))))), (q3, .inl (ct 0, 12, .inl S)), (q4, .inl (ct 0, 144, .inl P)), (q5, .inl (ct 0, 30, .inl (fun j => nI (T j))))] H := hP
  have hD : va_D (hkA [q0, q1, q2, q3, q4, q5]) [(q0, .inr (1, [.ref q1, .ref q2, .int Y, .ref q3, .ref q4, .ref q5, .int (nI kp), .int C])), (q1, .inl (ct 0, 12, .inl (fun j => nI (K j)))), (q2, .inl (ct 0, 12, .inl (upd (upd (fun j => nI (L j)) a (nI (L b))) b (nI (L a))))), (q3, .inl (ct 0, 12, .inl S)), (q4, .inl (ct 0, 144, .inl P)), (q5, .inl (ct 0, 30, .inl (fun j => nI (T j))))] := hD
  refine lv_aload_n hx hb dX1_exchange_38 rfl (lv_at hl 2 rfl) ?_
  refine va_get (D := D) (ci := 1) (v := .ref q1) (C := RX1) (T := TX1) (N := 8) hx hb hts hin1 hown hE.1 hP 0 rfl rfl 0 (by decide) (hts (.fieldLink RX1 9 "Homekeys$Student" "keys" "[I") (by decide +kernel)) (fun _ h9 => h9) rfl dX1_exchange_39 ?_
  refine lv_iload_n hx hb dX1_exchange_42 rfl (lv_at hl 1 rfl) ?_
  refine lv_iload_n hx hb dX1_exchange_43 rfl (lv_at hl 4 rfl) ?_
  refine hk_M (rest := []) (va_Run.run (va_runSN (host := RX2) (As := [.ref q1, .int (nI (L a)), .int (nI b)]) (rest := []) ⟨hx, hb, hml, hown, hts⟩ (c_X2_put l D ct sa q1 12 (fun j => nI (K j)) (L a) (nI b) (by decide) (by omega)) ⟨va_cnB 3 hts gX1_exchange_X2_put_n37 rfl rfl rfl (hE.nw hkN_X1_37) (hts (.initialized RX2) (by decide +kernel)) (by decide +kernel) ⟨Nat.le_of_ble_eq_true rfl, Nat.le_of_ble_eq_true rfl⟩, hts (.static yX2_put) (by decide +kernel), trivial⟩ (hk_preS hE ⟨hP.sub (ws' := [(q1, .inl (ct 0, 12, .inl (fun j => nI (K j))))]) [1] rfl, (hD.sub (ws' := [(q1, .inl (ct 0, 12, .inl (fun j => nI (K j))))]) [1] (by decide) rfl).weaken (fun _ _ _ _ => trivial)⟩) rfl rfl hl.1 rfl (lv_room (Nat.le_of_ble_eq_true rfl)) dX1_exchange_44 ⟨Nat.zero_le _, Nat.zero_le _⟩)) hP hD hS [1] (wc := [(q1, .inl (ct 0, 12, .inl (fun j => nI (K j))))]) rfl rfl rfl (fun H locs hP hD hS => ?_)
  have hP : va_P D vwCl [(q0, .inr (1, [.ref q1, .ref q2, .int Y, .ref q3, .ref q4, .ref q5, .int (nI kp), .int C])), (q1, .inl (ct 0, 12, .inl (upd (fun j => nI (K j)) (L a) (nI b)))), (q2, .inl (ct 0, 12, .inl (upd (upd (fun j => nI (L j)) a (nI (L b))) b (nI (L a))))), (q3, .inl (ct 0, 12, .inl S)), (q4, .inl (ct 0, 144, .inl P)), (q5, .inl (ct 0, 30, .inl (fun j => nI (T j))))] H := hP
  have hD : va_D (hkA [q0, q1, q2, q3, q4, q5]) [(q0, .inr (1, [.ref q1, .ref q2, .int Y, .ref q3, .ref q4, .ref q5, .int (nI kp), .int C])), (q1, .inl (ct 0, 12, .inl (upd (fun j => nI (K j)) (L a) (nI b)))), (q2, .inl (ct 0, 12, .inl (upd (upd (fun j => nI (L j)) a (nI (L b))) b (nI (L a))))), (q3, .inl (ct 0, 12, .inl S)), (q4, .inl (ct 0, 144, .inl P)), (q5, .inl (ct 0, 30, .inl (fun j => nI (T j))))] := hD
  refine lv_aload_n hx hb dX1_exchange_47 rfl (lv_at hl 2 rfl) ?_
  refine va_get (D := D) (ci := 1) (v := .ref q1) (C := RX1) (T := TX1) (N := 8) hx hb hts hin1 hown hE.1 hP 0 rfl rfl 0 (by decide) (hts (.fieldLink RX1 9 "Homekeys$Student" "keys" "[I") (by decide +kernel)) (fun _ h9 => h9) rfl dX1_exchange_48 ?_
  refine lv_iload hx hb dX1_exchange_51 (lv_at hl 0 rfl) ?_
  refine lv_iload_n hx hb dX1_exchange_53 rfl (lv_at hl 3 rfl) ?_
  refine hk_M (rest := []) (va_Run.run (va_runSN (host := RX2) (As := [.ref q1, .int (nI (L b)), .int (nI a)]) (rest := []) ⟨hx, hb, hml, hown, hts⟩ (c_X2_put l D ct sa q1 12 (upd (fun j => nI (K j)) (L a) (nI b)) (L b) (nI a) (by decide) (by omega)) ⟨va_cnB 3 hts gX1_exchange_X2_put_n37 rfl rfl rfl (hE.nw hkN_X1_37) (hts (.initialized RX2) (by decide +kernel)) (by decide +kernel) ⟨Nat.le_of_ble_eq_true rfl, Nat.le_of_ble_eq_true rfl⟩, hts (.static yX2_put) (by decide +kernel), trivial⟩ (hk_preS hE ⟨hP.sub (ws' := [(q1, .inl (ct 0, 12, .inl (upd (fun j => nI (K j)) (L a) (nI b))))]) [1] rfl, (hD.sub (ws' := [(q1, .inl (ct 0, 12, .inl (upd (fun j => nI (K j)) (L a) (nI b))))]) [1] (by decide) rfl).weaken (fun _ _ _ _ => trivial)⟩) rfl rfl hl.1 rfl (lv_room (Nat.le_of_ble_eq_true rfl)) dX1_exchange_54 ⟨Nat.zero_le _, Nat.zero_le _⟩)) hP hD hS [1] (wc := [(q1, .inl (ct 0, 12, .inl (upd (fun j => nI (K j)) (L a) (nI b))))]) rfl rfl rfl (fun H locs hP hD hS => ?_)
  have hP : va_P D vwCl [(q0, .inr (1, [.ref q1, .ref q2, .int Y, .ref q3, .ref q4, .ref q5, .int (nI kp), .int C])), (q1, .inl (ct 0, 12, .inl (upd (upd (fun j => nI (K j)) (L a) (nI b)) (L b) (nI a)))), (q2, .inl (ct 0, 12, .inl (upd (upd (fun j => nI (L j)) a (nI (L b))) b (nI (L a))))), (q3, .inl (ct 0, 12, .inl S)), (q4, .inl (ct 0, 144, .inl P)), (q5, .inl (ct 0, 30, .inl (fun j => nI (T j))))] H := hP
  have hD : va_D (hkA [q0, q1, q2, q3, q4, q5]) [(q0, .inr (1, [.ref q1, .ref q2, .int Y, .ref q3, .ref q4, .ref q5, .int (nI kp), .int C])), (q1, .inl (ct 0, 12, .inl (upd (upd (fun j => nI (K j)) (L a) (nI b)) (L b) (nI a)))), (q2, .inl (ct 0, 12, .inl (upd (upd (fun j => nI (L j)) a (nI (L b))) b (nI (L a))))), (q3, .inl (ct 0, 12, .inl S)), (q4, .inl (ct 0, 144, .inl P)), (q5, .inl (ct 0, 30, .inl (fun j => nI (T j))))] := hD
  have hP : va_P D vwCl [(q0, .inr (1, [.ref q1, .ref q2, .int Y, .ref q3, .ref q4, .ref q5, .int (nI kp), .int C])), (q1, .inl (ct 0, 12, .inl (upd (upd (fun j => nI (K j)) (L a) (nI b)) (L b) (nI a)))), (q2, .inl (ct 0, 12, .inl (fun j => nI (exL L a b j)))), (q3, .inl (ct 0, 12, .inl S)), (q4, .inl (ct 0, 144, .inl P)), (q5, .inl (ct 0, 30, .inl (fun j => nI (T j))))] H := by rw [show upd (upd (fun j => nI (L j)) a (nI (L b))) b (nI (L a)) = fun j => nI (exL L a b j) from exL_upd L a b] at hP; exact hP
  have hD : va_D (hkA [q0, q1, q2, q3, q4, q5]) [(q0, .inr (1, [.ref q1, .ref q2, .int Y, .ref q3, .ref q4, .ref q5, .int (nI kp), .int C])), (q1, .inl (ct 0, 12, .inl (upd (upd (fun j => nI (K j)) (L a) (nI b)) (L b) (nI a)))), (q2, .inl (ct 0, 12, .inl (fun j => nI (exL L a b j)))), (q3, .inl (ct 0, 12, .inl S)), (q4, .inl (ct 0, 144, .inl P)), (q5, .inl (ct 0, 30, .inl (fun j => nI (T j))))] := by rw [show upd (upd (fun j => nI (L j)) a (nI (L b))) b (nI (L a)) = fun j => nI (exL L a b j) from exL_upd L a b] at hD; exact hD
  have hP : va_P D vwCl [(q0, .inr (1, [.ref q1, .ref q2, .int Y, .ref q3, .ref q4, .ref q5, .int (nI kp), .int C])), (q1, .inl (ct 0, 12, .inl (fun j => nI (exK K L a b j)))), (q2, .inl (ct 0, 12, .inl (fun j => nI (exL L a b j)))), (q3, .inl (ct 0, 12, .inl S)), (q4, .inl (ct 0, 144, .inl P)), (q5, .inl (ct 0, 30, .inl (fun j => nI (T j))))] H := by rw [show upd (upd (fun j => nI (K j)) (L a) (nI b)) (L b) (nI a) = fun j => nI (exK K L a b j) from exK_upd K L a b] at hP; exact hP
  have hD : va_D (hkA [q0, q1, q2, q3, q4, q5]) [(q0, .inr (1, [.ref q1, .ref q2, .int Y, .ref q3, .ref q4, .ref q5, .int (nI kp), .int C])), (q1, .inl (ct 0, 12, .inl (fun j => nI (exK K L a b j)))), (q2, .inl (ct 0, 12, .inl (fun j => nI (exL L a b j)))), (q3, .inl (ct 0, 12, .inl S)), (q4, .inl (ct 0, 144, .inl P)), (q5, .inl (ct 0, 30, .inl (fun j => nI (T j))))] := by rw [show upd (upd (fun j => nI (K j)) (L a) (nI b)) (L b) (nI a) = fun j => nI (exK K L a b j) from exK_upd K L a b] at hD; exact hD
  refine lv_aload_n hx hb dX1_exchange_57 rfl (lv_at hl 2 rfl) ?_
  refine va_get (D := D) (ci := 1) (v := .int Y) (C := RX1) (T := TX1) (N := 8) hx hb hts hin1 hown hE.1 hP 0 rfl rfl 2 (by decide) (hts (.fieldLink RX1 18 "Homekeys$Student" "way" "I") (by decide +kernel)) (fun _ h9 => h9) rfl dX1_exchange_58 ?_
  refine lv_iconst (v := nI 1) hx hb dX1_exchange_61 (by decide) ?_
  refine lv_icmp_ne (tgt := 101) hx hb dX1_exchange_62 (by decide) (fun hc => ?_) (fun hc => ?_)
  · have e1 : exS S Y a b = S := if_neg hc
    have hP9 : va_P D vwCl [(q0, .inr (1, [.ref q1, .ref q2, .int Y, .ref q3, .ref q4, .ref q5, .int (nI kp), .int C])), (q1, .inl (ct 0, 12, .inl (fun j => nI (exK K L a b j)))), (q2, .inl (ct 0, 12, .inl (fun j => nI (exL L a b j)))), (q3, .inl (ct 0, 12, .inl S)), (q4, .inl (ct 0, 144, .inl P)), (q5, .inl (ct 0, 30, .inl (fun j => nI (T j))))] H := hP
    exact W.vret hx hb hr (fun t ht hW => ⟨rfl, by rw [ht]; rw [e1]; exact hP9, by rw [ht]; exact ⟨hS.1, hS.2.1⟩⟩) hS.2.2 dX1_exchange_101
  · refine lv_aload_n hx hb dX1_exchange_65 rfl (lv_at hl 2 rfl) ?_
    refine va_get (D := D) (ci := 1) (v := .ref q3) (C := RX1) (T := TX1) (N := 8) hx hb hts hin1 hown hE.1 hP 0 rfl rfl 3 (by decide) (hts (.fieldLink RX1 22 "Homekeys$Student" "keySlips" "[I") (by decide +kernel)) (fun _ h9 => h9) rfl dX1_exchange_66 ?_
    refine lv_iload_n hx hb dX1_exchange_69 rfl (lv_at hl 3 rfl) ?_
    refine hk_R (rest := []) (va_Run.run (va_runSN (host := RX2) (As := [.ref q3, .int (nI a)]) (rest := []) ⟨hx, hb, hml, hown, hts⟩ (c_X2_at l D ct sa q3 12 (S) (nI a) (by decide)) ⟨va_cnB 2 hts gX1_exchange_X2_at_n41 rfl rfl rfl (hE.nw hkN_X1_41) (hts (.initialized RX2) (by decide +kernel)) (by decide +kernel) ⟨Nat.le_of_ble_eq_true rfl, Nat.le_of_ble_eq_true rfl⟩, hts (.static yX2_at) (by decide +kernel), trivial⟩ (hk_preS hE (hP.sub (ws' := [(q3, .inl (ct 0, 12, .inl S))]) [3] rfl)) rfl rfl hl.1 rfl (lv_room (Nat.le_of_ble_eq_true rfl)) dX1_exchange_70 ⟨Nat.zero_le _, Nat.zero_le _⟩)) ?_
    refine hk_top (y := S a) (hkAt_in ha (by decide)) ?_
    refine lv_istore (lv' := [(5, .int (S a)), (4, .int (nI (L b))), (3, .int (nI (L a))), (0, .ref q0), (1, .int (nI a)), (2, .int (nI b))]) hx hb dX1_exchange_73 hl (by decide) rfl (fun ls hl => ?_)
    refine lv_aload_n hx hb dX1_exchange_75 rfl (lv_at hl 3 rfl) ?_
    refine va_get (D := D) (ci := 1) (v := .ref q3) (C := RX1) (T := TX1) (N := 8) hx hb hts hin1 hown hE.1 hP 0 rfl rfl 3 (by decide) (hts (.fieldLink RX1 22 "Homekeys$Student" "keySlips" "[I") (by decide +kernel)) (fun _ h9 => h9) rfl dX1_exchange_76 ?_
    refine lv_iload_n hx hb dX1_exchange_79 rfl (lv_at hl 4 rfl) ?_
    refine lv_aload_n hx hb dX1_exchange_80 rfl (lv_at hl 3 rfl) ?_
    refine va_get (D := D) (ci := 1) (v := .ref q3) (C := RX1) (T := TX1) (N := 8) hx hb hts hin1 hown hE.1 hP 0 rfl rfl 3 (by decide) (hts (.fieldLink RX1 22 "Homekeys$Student" "keySlips" "[I") (by decide +kernel)) (fun _ h9 => h9) rfl dX1_exchange_81 ?_
    refine lv_iload_n hx hb dX1_exchange_84 rfl (lv_at hl 5 rfl) ?_
    refine hk_R (rest := [.int (nI a), .ref q3]) (va_Run.run (va_runSN (host := RX2) (As := [.ref q3, .int (nI b)]) (rest := [.int (nI a), .ref q3]) ⟨hx, hb, hml, hown, hts⟩ (c_X2_at l D ct sa q3 12 (S) (nI b) (by decide)) ⟨va_cnB 2 hts gX1_exchange_X2_at_n41 rfl rfl rfl (hE.nw hkN_X1_41) (hts (.initialized RX2) (by decide +kernel)) (by decide +kernel) ⟨Nat.le_of_ble_eq_true rfl, Nat.le_of_ble_eq_true rfl⟩, hts (.static yX2_at) (by decide +kernel), trivial⟩ (hk_preS hE (hP.sub (ws' := [(q3, .inl (ct 0, 12, .inl S))]) [3] rfl)) rfl rfl hl.1 rfl (lv_room (Nat.le_of_ble_eq_true rfl)) dX1_exchange_85 ⟨Nat.zero_le _, Nat.zero_le _⟩)) ?_
    refine hk_top (y := S b) (hkAt_in hb9 (by decide)) ?_
    refine hk_M (rest := []) (va_Run.run (va_runSN (host := RX2) (As := [.ref q3, .int (nI a), .int (S b)]) (rest := []) ⟨hx, hb, hml, hown, hts⟩ (c_X2_put l D ct sa q3 12 S a (S b) (by decide) (by omega)) ⟨va_cnB 3 hts gX1_exchange_X2_put_n37 rfl rfl rfl (hE.nw hkN_X1_37) (hts (.initialized RX2) (by decide +kernel)) (by decide +kernel) ⟨Nat.le_of_ble_eq_true rfl, Nat.le_of_ble_eq_true rfl⟩, hts (.static yX2_put) (by decide +kernel), trivial⟩ (hk_preS hE ⟨hP.sub (ws' := [(q3, .inl (ct 0, 12, .inl S))]) [3] rfl, (hD.sub (ws' := [(q3, .inl (ct 0, 12, .inl S))]) [3] (by decide) rfl).weaken (fun _ _ _ _ => trivial)⟩) rfl rfl hl.1 rfl (lv_room (Nat.le_of_ble_eq_true rfl)) dX1_exchange_88 ⟨Nat.zero_le _, Nat.zero_le _⟩)) hP hD hS [3] (wc := [(q3, .inl (ct 0, 12, .inl S))]) rfl rfl rfl (fun H locs hP hD hS => ?_)
    have hP : va_P D vwCl [(q0, .inr (1, [.ref q1, .ref q2, .int Y, .ref q3, .ref q4, .ref q5, .int (nI kp), .int C])), (q1, .inl (ct 0, 12, .inl (fun j => nI (exK K L a b j)))), (q2, .inl (ct 0, 12, .inl (fun j => nI (exL L a b j)))), (q3, .inl (ct 0, 12, .inl (upd S a (S b)))), (q4, .inl (ct 0, 144, .inl P)), (q5, .inl (ct 0, 30, .inl (fun j => nI (T j))))] H := hP
    have hD : va_D (hkA [q0, q1, q2, q3, q4, q5]) [(q0, .inr (1, [.ref q1, .ref q2, .int Y, .ref q3, .ref q4, .ref q5, .int (nI kp), .int C])), (q1, .inl (ct 0, 12, .inl (fun j => nI (exK K L a b j)))), (q2, .inl (ct 0, 12, .inl (fun j => nI (exL L a b j)))), (q3, .inl (ct 0, 12, .inl (upd S a (S b)))), (q4, .inl (ct 0, 144, .inl P)), (q5, .inl (ct 0, 30, .inl (fun j => nI (T j))))] := hD
    refine lv_aload_n hx hb dX1_exchange_91 rfl (lv_at hl 3 rfl) ?_
    refine va_get (D := D) (ci := 1) (v := .ref q3) (C := RX1) (T := TX1) (N := 8) hx hb hts hin1 hown hE.1 hP 0 rfl rfl 3 (by decide) (hts (.fieldLink RX1 22 "Homekeys$Student" "keySlips" "[I") (by decide +kernel)) (fun _ h9 => h9) rfl dX1_exchange_92 ?_
    refine lv_iload_n hx hb dX1_exchange_95 rfl (lv_at hl 5 rfl) ?_
    refine lv_iload hx hb dX1_exchange_96 (lv_at hl 0 rfl) ?_
    refine hk_M (rest := []) (va_Run.run (va_runSN (host := RX2) (As := [.ref q3, .int (nI b), .int (S a)]) (rest := []) ⟨hx, hb, hml, hown, hts⟩ (c_X2_put l D ct sa q3 12 (upd S a (S b)) b (S a) (by decide) (by omega)) ⟨va_cnB 3 hts gX1_exchange_X2_put_n37 rfl rfl rfl (hE.nw hkN_X1_37) (hts (.initialized RX2) (by decide +kernel)) (by decide +kernel) ⟨Nat.le_of_ble_eq_true rfl, Nat.le_of_ble_eq_true rfl⟩, hts (.static yX2_put) (by decide +kernel), trivial⟩ (hk_preS hE ⟨hP.sub (ws' := [(q3, .inl (ct 0, 12, .inl (upd S a (S b))))]) [3] rfl, (hD.sub (ws' := [(q3, .inl (ct 0, 12, .inl (upd S a (S b))))]) [3] (by decide) rfl).weaken (fun _ _ _ _ => trivial)⟩) rfl rfl hl.1 rfl (lv_room (Nat.le_of_ble_eq_true rfl)) dX1_exchange_98 ⟨Nat.zero_le _, Nat.zero_le _⟩)) hP hD hS [3] (wc := [(q3, .inl (ct 0, 12, .inl (upd S a (S b))))]) rfl rfl rfl (fun H locs hP hD hS => ?_)
    have hP : va_P D vwCl [(q0, .inr (1, [.ref q1, .ref q2, .int Y, .ref q3, .ref q4, .ref q5, .int (nI kp), .int C])), (q1, .inl (ct 0, 12, .inl (fun j => nI (exK K L a b j)))), (q2, .inl (ct 0, 12, .inl (fun j => nI (exL L a b j)))), (q3, .inl (ct 0, 12, .inl (upd (upd S a (S b)) b (S a)))), (q4, .inl (ct 0, 144, .inl P)), (q5, .inl (ct 0, 30, .inl (fun j => nI (T j))))] H := hP
    have hD : va_D (hkA [q0, q1, q2, q3, q4, q5]) [(q0, .inr (1, [.ref q1, .ref q2, .int Y, .ref q3, .ref q4, .ref q5, .int (nI kp), .int C])), (q1, .inl (ct 0, 12, .inl (fun j => nI (exK K L a b j)))), (q2, .inl (ct 0, 12, .inl (fun j => nI (exL L a b j)))), (q3, .inl (ct 0, 12, .inl (upd (upd S a (S b)) b (S a)))), (q4, .inl (ct 0, 144, .inl P)), (q5, .inl (ct 0, 30, .inl (fun j => nI (T j))))] := hD
    have e1 : exS S Y a b = upd (upd S a (S b)) b (S a) := if_pos hc
    have hP9 : va_P D vwCl [(q0, .inr (1, [.ref q1, .ref q2, .int Y, .ref q3, .ref q4, .ref q5, .int (nI kp), .int C])), (q1, .inl (ct 0, 12, .inl (fun j => nI (exK K L a b j)))), (q2, .inl (ct 0, 12, .inl (fun j => nI (exL L a b j)))), (q3, .inl (ct 0, 12, .inl (upd (upd S a (S b)) b (S a)))), (q4, .inl (ct 0, 144, .inl P)), (q5, .inl (ct 0, 30, .inl (fun j => nI (T j))))] H := hP
    exact W.vret hx hb hr (fun t ht hW => ⟨rfl, by rw [ht]; rw [e1]; exact hP9, by rw [ht]; exact ⟨hS.1, hS.2.1⟩⟩) hS.2.2 dX1_exchange_101
end
section
theorem fill_0 (f : Nat → Int32) (v : Int32) : f = fun j => if j < 0 then v else f j := by
  funext j
  rw [if_neg (Nat.not_lt_zero j)]
theorem fill_s (f : Nat → Int32) (v : Int32) (i : Nat) : upd (fun j => if j < i then v else f j) i v = fun j => if j < i + 1 then v else f j := by
  funext j
  show (if j = i then v else if j < i then v else f j) = if j < i + 1 then v else f j
  by_cases h : j = i
  · rw [if_pos h, if_pos (by omega)]
  · by_cases h2 : j < i
    · rw [if_neg h, if_pos h2, if_pos (by omega)]
    · rw [if_neg h, if_neg h2, if_neg (by omega)]
/-- how often the pair x comes among the first i pairs -/
def cn (T : Nat → Nat) (x : Nat) : Nat → Nat
  | 0 => 0
  | i + 1 => if x = 12 * T i + T (i + 1) then cn T x i + 1 else cn T x i
def cn_m (kp : Nat) : Nat := kp - 1
theorem cn_upd (T : Nat → Nat) (F : Nat → Int32) (i : Nat) (h : 12 * T i + T (i + 1) < 144) : upd (fun j => if j < 144 then nI (cn T j i) else F j) (12 * T i + T (i + 1)) ((fun j => if j < 144 then nI (cn T j i) else F j) (12 * T i + T (i + 1)) + nI 1) = fun j => if j < 144 then nI (cn T j (i + 1)) else F j := by
  funext j
  unfold upd
  by_cases hj : j = 12 * T i + T (i + 1)
  · subst hj
    rw [if_pos rfl]
    show (if _ then _ else _) + nI 1 = _
    rw [if_pos h, if_pos h, cn, if_pos rfl, nI_add]
  · rw [if_neg hj]
    show (if _ then _ else _) = if _ then _ else _
    rw [cn, if_neg hj]
def stK (K : Nat → Nat) (x : Nat) : Nat := stp (K (x / 12)) (K (x % 12))
def su (K T : Nat → Nat) (i : Nat) : Nat → Nat
  | 0 => 0
  | x + 1 => su K T i x + cn T x i * stK K x
theorem su_step (K T : Nat → Nat) (i a b : Nat) (hb : b < 12) : su K T i (12 * a + b + 1) = su K T i (12 * a + b) + cn T (12 * a + b) i * stp (K a) (K b) := by
  rw [su, stK]
  rw [show (12 * a + b) / 12 = a by omega, show (12 * a + b) % 12 = b by omega]
theorem su_0 (K T : Nat → Nat) : ∀ x, su K T 0 x = 0
  | 0 => rfl
  | x + 1 => by rw [su, su_0 K T x, cn, Nat.zero_mul]
theorem su_s (K T : Nat → Nat) (i : Nat) : ∀ x, su K T (i + 1) x = su K T i x + if 12 * T i + T (i + 1) < x then stK K (12 * T i + T (i + 1)) else 0
  | 0 => by rw [su, su, if_neg (Nat.not_lt_zero _)]
  | x + 1 => by
    rw [su, su, su_s K T i x, cn]
    by_cases h : x = 12 * T i + T (i + 1)
    · rw [if_pos h, if_neg (by omega), if_pos (by omega), ← h, Nat.add_mul, Nat.one_mul]
      omega
    · by_cases h2 : 12 * T i + T (i + 1) < x
      · rw [if_neg h, if_pos h2, if_pos (by omega)]
        omega
      · rw [if_neg h, if_neg h2, if_neg (by omega)]
        omega
theorem su_tt (K T : Nat → Nat) (hT : ∀ p, T p < 12) : ∀ i, 2 + su K T i 144 = tt (gk K T) (i + 1)
  | 0 => by rw [su_0, tt_1]
  | i + 1 => by
    have h1 := hT i
    have h2 := hT (i + 1)
    rw [su_s, if_pos (by omega), tt_2, ← su_tt K T hT i, stK, show (12 * T i + T (i + 1)) / 12 = T i by omega, show (12 * T i + T (i + 1)) % 12 = T (i + 1) by omega]
    show 2 + (_ + stp _ _) = 2 + _ + stp (K (T i)) (K (T (i + 1)))
    omega
theorem su_tt0 (K T : Nat → Nat) (kp i : Nat) (h : kp = 0) (hi : i = 0) : 0 + su K T i (12 * 12) = tt (gk K T) kp := by
  subst h; subst hi
  rw [su_0, tt]
theorem su_tt2 (K T : Nat → Nat) (kp i : Nat) (h : kp = i + 1) (hT : ∀ p, T p < 12) : 2 + su K T i (12 * 12) = tt (gk K T) kp := by
  subst h
  exact su_tt K T hT i
theorem id_0 : (fun _ => 0 : Nat → Int32) = fun j => if j < 0 then nI j else 0 := by
  funext j
  rw [if_neg (Nat.not_lt_zero j)]
theorem id_s (i : Nat) : upd (fun j => if j < i then nI j else 0) i (nI i) = fun j => if j < i + 1 then nI j else 0 := by
  funext j
  show (if j = i then nI i else if j < i then nI j else 0) = if j < i + 1 then nI j else 0
  by_cases h : j = i
  · rw [if_pos h, if_pos (by omega), h]
  · by_cases h2 : j < i
    · rw [if_neg h, if_pos h2, if_pos (by omega)]
    · rw [if_neg h, if_neg h2, if_neg (by omega)]
set_option maxHeartbeats 4000000 in
set_option maxRecDepth 100000 in
theorem c_J7_fill_53178 (l : Launch) (D : va_G) (ct : Nat → ClassId) (sa : Nat → Nat) (a N : Nat) (f : Nat → Int32) (v : Int32) (hN : N < 2 ^ 31) : Met l yJ7_fill_53178 wsJ7_fill_53178 ({ frames := 0, cells := 0, slots := 0, locals := 0 }) (hkPc D ct sa [.ref a, .int v] (fun H => va_P D vwCl [(a, .inl (ct 0, N, .inl f))] H ∧ va_D (fun _ => True) [(a, .inl (ct 0, N, .inl f))])) (hkQ none D [(a, .inl (ct 0, N, .inl (fun j => if j < N then v else f j)))] [a]) 0 0 (hkA [a]) := by
  refine Met.ofW (cc := cJ7_fill_53178) (maxL := 4) (ret := none) (by decide) rfl ?_
  intro p e s m args below meth c s₁ B hml hv
  obtain ⟨rfl, hE, hp⟩ := hv
  have hx := B.exec
  have hb := B.bytes
  have hr := B.returns
  have hts := atoms_spec (ws := wsJ7_fill_53178) B.pre
  have hown : s.vm.findClass RJ7 = some m.cls := findClass_of_methodNamed B.named
  have hlocks := B.notSynchronized
  obtain ⟨hP, hD0⟩ := hp
  have hD : va_D (hkA [a]) [(a, .inl (ct 0, N, .inl f))] := hD0.weaken (fun k q hk _ => hk_mem hk)
  have hS : va_S (hkA [a]) s.heap s.heap [] := va_S.rf
  have hl := lv_entry ([.ref a, .int v]) (n := 4) (Nat.le_of_ble_eq_true rfl)
  rw [lg_entry_eq]
  generalize (lg_sl ([.ref a, .int v]) ++ List.replicate (4 - (lg_sl ([.ref a, .int v])).length) Slot.unset).toArray = ls at hl ⊢
  have hl : lv_has ls 4 [(0, .ref a), (1, .int v)] := hl
  refine lv_iconst (v := nI 0) hx hb dJ7_fill_53178_0 (by decide) ?_
  refine lv_istore_n (lv' := [(2, .int (nI 0)), (0, .ref a), (1, .int v)]) hx hb dJ7_fill_53178_1 rfl hl (by decide) rfl (fun ls hl => ?_)
  refine lv_aload_n hx hb dJ7_fill_53178_2 rfl (lv_at hl 1 rfl) ?_
  refine hk_alen0 hx hb hE hP 0 rfl dJ7_fill_53178_3 ?_
  refine lv_istore_n (lv' := [(3, .int (nI N)), (2, .int (nI 0)), (0, .ref a), (1, .int v)]) hx hb dJ7_fill_53178_4 rfl hl (by decide) rfl (fun ls hl => ?_)
  have hP : va_P D vwCl [(a, .inl (ct 0, N, .inl (fun j => if j < 0 then v else f j)))] s.heap := by rw [fill_0 f v] at hP; exact hP
  have hD : va_D (hkA [a]) [(a, .inl (ct 0, N, .inl (fun j => if j < 0 then v else f j)))] := by rw [fill_0 f v] at hD; exact hD
  have loop : ∀ (k : Nat) (i : Nat), N < i + k → i ≤ N → ∀ (H : Heap) (locs : List Loc), va_P D vwCl [(a, .inl (ct 0, N, .inl (fun j => if j < i then v else f j)))] H → va_D (hkA [a]) [(a, .inl (ct 0, N, .inl (fun j => if j < i then v else f j)))] → va_S (hkA [a]) s.heap H locs → ∀ (ls : Array Slot), lv_has ls 4 [(0, .ref a), (1, .int v), (3, .int (nI N)), (2, .int (nI i))] → W p l e (headSpec wsJ7_fill_53178 ({ frames := 0, cells := 0, slots := 0, locals := 0 })).room s m ([.ref a, .int v] : List Value).toArray below meth c H locs 0 0 (MQ below (hkQ none D [(a, .inl (ct 0, N, .inl (fun j => if j < N then v else f j)))] [a]) ([.ref a, .int v] : List Value).toArray s 0 0 (hkA [a])) (F0 m 5 ls []) := by
    intro k
    induction k with
    | zero => intro i hk; intros; exact absurd hk (by omega)
    | succ k ih_loop =>
      intro i hk hi H locs hP hD hS ls hl
      refine lv_iload_n hx hb dJ7_fill_53178_5 rfl (lv_at hl 3 rfl) ?_
      refine lv_iload_n hx hb dJ7_fill_53178_6 rfl (lv_at hl 2 rfl) ?_
      refine hk_geN (tgt := 20) hx hb (by omega) (by omega) dJ7_fill_53178_7 (by decide) (fun hc => ?_) (fun hc => ?_)
      · obtain rfl : i = N := by omega
        have hP9 : va_P D vwCl [(a, .inl (ct 0, i, .inl (fun j => if j < i then v else f j)))] H := hP
        exact W.vret hx hb hr (fun t ht hW => ⟨rfl, by rw [ht]; exact hP9, by rw [ht]; exact ⟨hS.1, hS.2.1⟩⟩) hS.2.2 dJ7_fill_53178_20
      · refine lv_aload_n hx hb dJ7_fill_53178_10 rfl (lv_at hl 0 rfl) ?_
        refine lv_iload_n hx hb dJ7_fill_53178_11 rfl (lv_at hl 3 rfl) ?_
        refine lv_iload_n hx hb dJ7_fill_53178_12 rfl (lv_at hl 1 rfl) ?_
        refine hk_iast hx hb hE hP hD hS 0 rfl (j := i) (x := v) (by omega) (by omega) dJ7_fill_53178_13 (fun H locs hP hD hS => ?_)
        have hP : va_P D vwCl [(a, .inl (ct 0, N, .inl (upd (fun j => if j < i then v else f j) i v)))] H := hP
        have hD : va_D (hkA [a]) [(a, .inl (ct 0, N, .inl (upd (fun j => if j < i then v else f j) i v)))] := hD
        have hP : va_P D vwCl [(a, .inl (ct 0, N, .inl (fun j => if j < (i + 1) then v else f j)))] H := by rw [fill_s f v i] at hP; exact hP
        have hD : va_D (hkA [a]) [(a, .inl (ct 0, N, .inl (fun j => if j < (i + 1) then v else f j)))] := by rw [fill_s f v i] at hD; exact hD
        refine lv_iinc (v := nI (i + 1)) (lv' := [(2, .int (nI (i + 1))), (0, .ref a), (1, .int v), (3, .int (nI N))]) hx hb dJ7_fill_53178_14 hl (k := 3) rfl (nI_add _ _) (by decide) rfl (fun ls hl => ?_)
        refine lv_goto (tgt := 5) hx hb dJ7_fill_53178_17 (by decide) ?_
        exact ih_loop (i + 1) (by omega) (by omega) H locs hP hD hS ls (lv_sub hl [1, 2, 3, 0] rfl)
  exact loop (N + 1) 0 (by omega) (by omega) s.heap [] hP hD hS ls (lv_sub hl [2, 3, 0, 1] rfl)

set_option maxHeartbeats 4000000 in
set_option maxRecDepth 100000 in
theorem c_X1_timeByCounts (l : Launch) (D : va_G) (ct : Nat → ClassId) (sa : Nat → Nat) (q0 q1 q2 q3 q4 q5 kp : Nat) (K L T : Nat → Nat) (S P : Nat → Int32) (Y C : Int32) (q6 : Nat) (F : Nat → Int32) (hkp : kp ≤ 30) (hK : ∀ x, x < 12 → K x < 12) (hT : ∀ p, T p < 12) : Met l yX1_timeByCounts wsX1_timeByCounts ({ frames := 2, cells := 0, slots := 0, locals := 43 }) (hkPc D ct sa [.ref q0, .ref q6] (fun H => va_P D vwCl [(q0, .inr (1, [.ref q1, .ref q2, .int Y, .ref q3, .ref q4, .ref q5, .int (nI kp), .int C])), (q1, .inl (ct 0, 12, .inl (fun j => nI (K j)))), (q2, .inl (ct 0, 12, .inl (fun j => nI (L j)))), (q3, .inl (ct 0, 12, .inl S)), (q4, .inl (ct 0, 144, .inl P)), (q5, .inl (ct 0, 30, .inl (fun j => nI (T j)))), (q6, .inl (ct 0, 144, .inl F))] H ∧ va_D (fun _ => True) [(q0, .inr (1, [.ref q1, .ref q2, .int Y, .ref q3, .ref q4, .ref q5, .int (nI kp), .int C])), (q1, .inl (ct 0, 12, .inl (fun j => nI (K j)))), (q2, .inl (ct 0, 12, .inl (fun j => nI (L j)))), (q3, .inl (ct 0, 12, .inl S)), (q4, .inl (ct 0, 144, .inl P)), (q5, .inl (ct 0, 30, .inl (fun j => nI (T j)))), (q6, .inl (ct 0, 144, .inl F))])) (hkQ (some (.int (nI (tt (gk K T) kp)))) D [(q0, .inr (1, [.ref q1, .ref q2, .int Y, .ref q3, .ref q4, .ref q5, .int (nI kp), .int C])), (q1, .inl (ct 0, 12, .inl (fun j => nI (K j)))), (q2, .inl (ct 0, 12, .inl (fun j => nI (L j)))), (q3, .inl (ct 0, 12, .inl S)), (q4, .inl (ct 0, 144, .inl P)), (q5, .inl (ct 0, 30, .inl (fun j => nI (T j)))), (q6, .inl (ct 0, 144, .inl (fun j => if j < 144 then nI (cn T j (cn_m kp)) else F j)))] [q0, q1, q2, q3, q4, q5, q6]) 0 0 (hkA [q0, q1, q2, q3, q4, q5, q6]) := by
  refine Met.ofW (cc := cX1_timeByCounts) (maxL := 6) (ret := (some .int)) (by decide) rfl ?_
  intro p e s m args below meth c s₁ B hml hv
  obtain ⟨rfl, hE, hp⟩ := hv
  have hx := B.exec
  have hb := B.bytes
  have hr := B.returns
  have hts := atoms_spec (ws := wsX1_timeByCounts) B.pre
  have hown : s.vm.findClass RX1 = some m.cls := findClass_of_methodNamed B.named
  have hlocks := B.notSynchronized
  have hin1 : ∀ w ∈ wsX10, w ∈ wsX1_timeByCounts := by decide +kernel
  obtain ⟨hP, hD0⟩ := hp
  have hD : va_D (hkA [q0, q1, q2, q3, q4, q5, q6]) [(q0, .inr (1, [.ref q1, .ref q2, .int Y, .ref q3, .ref q4, .ref q5, .int (nI kp), .int C])), (q1, .inl (ct 0, 12, .inl (fun j => nI (K j)))), (q2, .inl (ct 0, 12, .inl (fun j => nI (L j)))), (q3, .inl (ct 0, 12, .inl S)), (q4, .inl (ct 0, 144, .inl P)), (q5, .inl (ct 0, 30, .inl (fun j => nI (T j)))), (q6, .inl (ct 0, 144, .inl F))] := hD0.weaken (fun k q hk _ => hk_mem hk)
  have hS : va_S (hkA [q0, q1, q2, q3, q4, q5, q6]) s.heap s.heap [] := va_S.rf
  have hl := lv_entry ([.ref q0, .ref q6]) (n := 6) (Nat.le_of_ble_eq_true rfl)
  rw [lg_entry_eq]
  generalize (lg_sl ([.ref q0, .ref q6]) ++ List.replicate (6 - (lg_sl ([.ref q0, .ref q6])).length) Slot.unset).toArray = ls at hl ⊢
  have hl : lv_has ls 6 [(0, .ref q0), (1, .ref q6)] := hl
  refine lv_aload_n hx hb dX1_timeByCounts_0 rfl (lv_at hl 1 rfl) ?_
  refine lv_iconst (v := nI 0) hx hb dX1_timeByCounts_1 (by decide) ?_
  refine hk_M (rest := []) (va_Run.run (va_runS (As := [.ref q6, .int (nI 0)]) (rest := []) ⟨hx, hb, hml, hown, hts⟩ (c_J7_fill_53178 l D ct sa q6 144 F (nI 0) (by decide)) (va_cwS 2 hts gX1_timeByCounts_J7_fill_53178 rfl rfl rfl (by decide +kernel) ⟨Nat.le_of_ble_eq_true rfl, Nat.le_of_ble_eq_true rfl⟩) (hk_preS hE ⟨hP.sub (ws' := [(q6, .inl (ct 0, 144, .inl F))]) [6] rfl, (hD.sub (ws' := [(q6, .inl (ct 0, 144, .inl F))]) [6] (by decide) rfl).weaken (fun _ _ _ _ => trivial)⟩) rfl rfl hl.1 rfl (lv_room (Nat.le_of_ble_eq_true rfl)) dX1_timeByCounts_2 ⟨Nat.zero_le _, Nat.zero_le _⟩)) hP hD hS [6] (wc := [(q6, .inl (ct 0, 144, .inl F))]) rfl rfl rfl (fun H locs hP hD hS => ?_)
  have hP : va_P D vwCl [(q0, .inr (1, [.ref q1, .ref q2, .int Y, .ref q3, .ref q4, .ref q5, .int (nI kp), .int C])), (q1, .inl (ct 0, 12, .inl (fun j => nI (K j)))), (q2, .inl (ct 0, 12, .inl (fun j => nI (L j)))), (q3, .inl (ct 0, 12, .inl S)), (q4, .inl (ct 0, 144, .inl P)), (q5, .inl (ct 0, 30, .inl (fun j => nI (T j)))), (q6, .inl (ct 0, 144, .inl (fun j => if j < 144 then nI 0 else F j)))] H := hP
  have hD : va_D (hkA [q0, q1, q2, q3, q4, q5, q6]) [(q0, .inr (1, [.ref q1, .ref q2, .int Y, .ref q3, .ref q4, .ref q5, .int (nI kp), .int C])), (q1, .inl (ct 0, 12, .inl (fun j => nI (K j)))), (q2, .inl (ct 0, 12, .inl (fun j => nI (L j)))), (q3, .inl (ct 0, 12, .inl S)), (q4, .inl (ct 0, 144, .inl P)), (q5, .inl (ct 0, 30, .inl (fun j => nI (T j)))), (q6, .inl (ct 0, 144, .inl (fun j => if j < 144 then nI 0 else F j)))] := hD
  have hP : va_P D vwCl [(q0, .inr (1, [.ref q1, .ref q2, .int Y, .ref q3, .ref q4, .ref q5, .int (nI kp), .int C])), (q1, .inl (ct 0, 12, .inl (fun j => nI (K j)))), (q2, .inl (ct 0, 12, .inl (fun j => nI (L j)))), (q3, .inl (ct 0, 12, .inl S)), (q4, .inl (ct 0, 144, .inl P)), (q5, .inl (ct 0, 30, .inl (fun j => nI (T j)))), (q6, .inl (ct 0, 144, .inl (fun j => if j < 144 then nI (cn T j 0) else F j)))] H := by rw [show (fun j => if j < 144 then nI 0 else F j) = fun j => if j < 144 then nI (cn T j 0) else F j from rfl] at hP; exact hP
  have hD : va_D (hkA [q0, q1, q2, q3, q4, q5, q6]) [(q0, .inr (1, [.ref q1, .ref q2, .int Y, .ref q3, .ref q4, .ref q5, .int (nI kp), .int C])), (q1, .inl (ct 0, 12, .inl (fun j => nI (K j)))), (q2, .inl (ct 0, 12, .inl (fun j => nI (L j)))), (q3, .inl (ct 0, 12, .inl S)), (q4, .inl (ct 0, 144, .inl P)), (q5, .inl (ct 0, 30, .inl (fun j => nI (T j)))), (q6, .inl (ct 0, 144, .inl (fun j => if j < 144 then nI (cn T j 0) else F j)))] := by rw [show (fun j => if j < 144 then nI 0 else F j) = fun j => if j < 144 then nI (cn T j 0) else F j from rfl] at hD; exact hD
  refine lv_iconst (v := nI 1) hx hb dX1_timeByCounts_5 (by decide) ?_
  refine lv_istore_n (lv' := [(2, .int (nI 1)), (0, .ref q0), (1, .ref q6)]) hx hb dX1_timeByCounts_6 rfl hl (by decide) rfl (fun ls hl => ?_)
  have loop : ∀ (k : Nat) (i : Nat), kp < i + k → i + 1 ≤ kp ∨ (kp = 0 ∧ i = 0) → ∀ (H : Heap) (locs : List Loc), va_P D vwCl [(q0, .inr (1, [.ref q1, .ref q2, .int Y, .ref q3, .ref q4, .ref q5, .int (nI kp), .int C])), (q1, .inl (ct 0, 12, .inl (fun j => nI (K j)))), (q2, .inl (ct 0, 12, .inl (fun j => nI (L j)))), (q3, .inl (ct 0, 12, .inl S)), (q4, .inl (ct 0, 144, .inl P)), (q5, .inl (ct 0, 30, .inl (fun j => nI (T j)))), (q6, .inl (ct 0, 144, .inl (fun j => if j < 144 then nI (cn T j i) else F j)))] H → va_D (hkA [q0, q1, q2, q3, q4, q5, q6]) [(q0, .inr (1, [.ref q1, .ref q2, .int Y, .ref q3, .ref q4, .ref q5, .int (nI kp), .int C])), (q1, .inl (ct 0, 12, .inl (fun j => nI (K j)))), (q2, .inl (ct 0, 12, .inl (fun j => nI (L j)))), (q3, .inl (ct 0, 12, .inl S)), (q4, .inl (ct 0, 144, .inl P)), (q5, .inl (ct 0, 30, .inl (fun j => nI (T j)))), (q6, .inl (ct 0, 144, .inl (fun j => if j < 144 then nI (cn T j i) else F j)))] → va_S (hkA [q0, q1, q2, q3, q4, q5, q6]) s.heap H locs → ∀ (ls : Array Slot), lv_has ls 6 [(0, .ref q0), (1, .ref q6), (2, .int (nI (i + 1)))] → W p l e (headSpec wsX1_timeByCounts ({ frames := 2, cells := 0, slots := 0, locals := 43 })).room s m ([.ref q0, .ref q6] : List Value).toArray below meth c H locs 0 0 (MQ below (hkQ (some (.int (nI (tt (gk K T) kp)))) D [(q0, .inr (1, [.ref q1, .ref q2, .int Y, .ref q3, .ref q4, .ref q5, .int (nI kp), .int C])), (q1, .inl (ct 0, 12, .inl (fun j => nI (K j)))), (q2, .inl (ct 0, 12, .inl (fun j => nI (L j)))), (q3, .inl (ct 0, 12, .inl S)), (q4, .inl (ct 0, 144, .inl P)), (q5, .inl (ct 0, 30, .inl (fun j => nI (T j)))), (q6, .inl (ct 0, 144, .inl (fun j => if j < 144 then nI (cn T j (cn_m kp)) else F j)))] [q0, q1, q2, q3, q4, q5, q6]) ([.ref q0, .ref q6] : List Value).toArray s 0 0 (hkA [q0, q1, q2, q3, q4, q5, q6])) (F0 m 7 ls []) := by
    intro k
    induction k with
    | zero => intro i hk; intros; exact absurd hk (by omega)
    | succ k ih_loop =>
      intro i hk hi H locs hP hD hS ls hl
      refine lv_iload_n hx hb dX1_timeByCounts_7 rfl (lv_at hl 2 rfl) ?_
      refine lv_aload_n hx hb dX1_timeByCounts_8 rfl (lv_at hl 0 rfl) ?_
      refine va_get (D := D) (ci := 1) (v := .int (nI kp)) (C := RX1) (T := TX1) (N := 8) hx hb hts hin1 hown hE.1 hP 0 rfl rfl 6 (by decide) (hts (.fieldLink RX1 31 "Homekeys$Student" "kept" "I") (by decide +kernel)) (fun _ h9 => h9) rfl dX1_timeByCounts_9 ?_
      refine hk_geN (tgt := 46) hx hb (by omega) (by omega) dX1_timeByCounts_12 (by decide) (fun hc => ?_) (fun hc => ?_)
      · have hik : cn_m kp = i := by unfold cn_m; omega
        refine lv_aload_n hx hb dX1_timeByCounts_46 rfl (lv_at hl 0 rfl) ?_
        refine va_get (D := D) (ci := 1) (v := .int (nI kp)) (C := RX1) (T := TX1) (N := 8) hx hb hts hin1 hown hE.1 hP 0 rfl rfl 6 (by decide) (hts (.fieldLink RX1 31 "Homekeys$Student" "kept" "I") (by decide +kernel)) (fun _ h9 => h9) rfl dX1_timeByCounts_47 ?_
        refine hk_le0N (tgt := 57) hx hb (by omega) dX1_timeByCounts_50 (by decide) (fun h0 => ?_) (fun h0 => ?_)
        · refine lv_iconst (v := nI 0) hx hb dX1_timeByCounts_57 (by decide) ?_
          refine lv_istore_n (lv' := [(2, .int (nI 0)), (0, .ref q0), (1, .ref q6)]) hx hb dX1_timeByCounts_58 rfl hl (by decide) rfl (fun ls hl => ?_)
          refine lv_iconst (v := nI 0) hx hb dX1_timeByCounts_59 (by decide) ?_
          refine lv_istore_n (lv' := [(3, .int (nI 0)), (2, .int (nI 0)), (0, .ref q0), (1, .ref q6)]) hx hb dX1_timeByCounts_60 rfl hl (by decide) rfl (fun ls hl => ?_)
          have lo20 : ∀ (k : Nat) (a : Nat), 12 < a + k → a ≤ 12 → ∀ (ls : Array Slot), lv_has ls 6 [(0, .ref q0), (1, .ref q6), (2, .int (nI (0 + su K T i (12 * a)))), (3, .int (nI a))] → W p l e (headSpec wsX1_timeByCounts ({ frames := 2, cells := 0, slots := 0, locals := 43 })).room s m ([.ref q0, .ref q6] : List Value).toArray below meth c H locs 0 0 (MQ below (hkQ (some (.int (nI (tt (gk K T) kp)))) D [(q0, .inr (1, [.ref q1, .ref q2, .int Y, .ref q3, .ref q4, .ref q5, .int (nI kp), .int C])), (q1, .inl (ct 0, 12, .inl (fun j => nI (K j)))), (q2, .inl (ct 0, 12, .inl (fun j => nI (L j)))), (q3, .inl (ct 0, 12, .inl S)), (q4, .inl (ct 0, 144, .inl P)), (q5, .inl (ct 0, 30, .inl (fun j => nI (T j)))), (q6, .inl (ct 0, 144, .inl (fun j => if j < 144 then nI (cn T j (cn_m kp)) else F j)))] [q0, q1, q2, q3, q4, q5, q6]) ([.ref q0, .ref q6] : List Value).toArray s 0 0 (hkA [q0, q1, q2, q3, q4, q5, q6])) (F0 m 61 ls []) := by
            intro k
            induction k with
            | zero => intro a hk; intros; exact absurd hk (by omega)
            | succ k ih_lo20 =>
              intro a hk ha ls hl
              refine lv_iload_n hx hb dX1_timeByCounts_61 rfl (lv_at hl 3 rfl) ?_
              refine lv_bipush (v := nI 12) hx hb dX1_timeByCounts_62 (by decide) ?_
              refine hk_geN (tgt := 127) hx hb (by omega) (by omega) dX1_timeByCounts_64 (by decide) (fun h5 => ?_) (fun h5 => ?_)
              · obtain rfl : a = 12 := by omega
                refine lv_iload_n hx hb dX1_timeByCounts_127 rfl (lv_at hl 2 rfl) ?_
                have hP : va_P D vwCl [(q0, .inr (1, [.ref q1, .ref q2, .int Y, .ref q3, .ref q4, .ref q5, .int (nI kp), .int C])), (q1, .inl (ct 0, 12, .inl (fun j => nI (K j)))), (q2, .inl (ct 0, 12, .inl (fun j => nI (L j)))), (q3, .inl (ct 0, 12, .inl S)), (q4, .inl (ct 0, 144, .inl P)), (q5, .inl (ct 0, 30, .inl (fun j => nI (T j)))), (q6, .inl (ct 0, 144, .inl (fun j => if j < 144 then nI (cn T j i) else F j)))] H := hP
                have hP9 : va_P D vwCl [(q0, .inr (1, [.ref q1, .ref q2, .int Y, .ref q3, .ref q4, .ref q5, .int (nI kp), .int C])), (q1, .inl (ct 0, 12, .inl (fun j => nI (K j)))), (q2, .inl (ct 0, 12, .inl (fun j => nI (L j)))), (q3, .inl (ct 0, 12, .inl S)), (q4, .inl (ct 0, 144, .inl P)), (q5, .inl (ct 0, 30, .inl (fun j => nI (T j)))), (q6, .inl (ct 0, 144, .inl (fun j => if j < 144 then nI (cn T j i) else F j)))] H := hP
                exact W.iret (v := nI (0 + su K T i (12 * 12))) hx hb hr (fun t ht hW => ⟨by rw [su_tt0 K T kp i (by omega) (by omega)], by rw [ht]; rw [hik]; exact hP9, by rw [ht]; exact ⟨hS.1, hS.2.1⟩⟩) hS.2.2 dX1_timeByCounts_128
              · refine lv_iconst (v := nI 0) hx hb dX1_timeByCounts_67 (by decide) ?_
                refine lv_istore (lv' := [(4, .int (nI 0)), (0, .ref q0), (1, .ref q6), (2, .int (nI (0 + su K T i (12 * a)))), (3, .int (nI a))]) hx hb dX1_timeByCounts_68 hl (by decide) rfl (fun ls hl => ?_)
                have lo30 : ∀ (k : Nat) (b : Nat), 12 < b + k → b ≤ 12 → ∀ (ls : Array Slot), lv_has ls 6 [(0, .ref q0), (1, .ref q6), (2, .int (nI (0 + su K T i (12 * a + b)))), (3, .int (nI a)), (4, .int (nI b))] → W p l e (headSpec wsX1_timeByCounts ({ frames := 2, cells := 0, slots := 0, locals := 43 })).room s m ([.ref q0, .ref q6] : List Value).toArray below meth c H locs 0 0 (MQ below (hkQ (some (.int (nI (tt (gk K T) kp)))) D [(q0, .inr (1, [.ref q1, .ref q2, .int Y, .ref q3, .ref q4, .ref q5, .int (nI kp), .int C])), (q1, .inl (ct 0, 12, .inl (fun j => nI (K j)))), (q2, .inl (ct 0, 12, .inl (fun j => nI (L j)))), (q3, .inl (ct 0, 12, .inl S)), (q4, .inl (ct 0, 144, .inl P)), (q5, .inl (ct 0, 30, .inl (fun j => nI (T j)))), (q6, .inl (ct 0, 144, .inl (fun j => if j < 144 then nI (cn T j (cn_m kp)) else F j)))] [q0, q1, q2, q3, q4, q5, q6]) ([.ref q0, .ref q6] : List Value).toArray s 0 0 (hkA [q0, q1, q2, q3, q4, q5, q6])) (F0 m 70 ls []) := by
                  intro k
                  induction k with
                  | zero => intro b hk; intros; exact absurd hk (by omega)
                  | succ k ih_lo30 =>
                    intro b hk hb0 ls hl
                    refine lv_iload hx hb dX1_timeByCounts_70 (lv_at hl 4 rfl) ?_
                    refine lv_bipush (v := nI 12) hx hb dX1_timeByCounts_72 (by decide) ?_
                    refine hk_geN (tgt := 121) hx hb (by omega) (by omega) dX1_timeByCounts_74 (by decide) (fun h6 => ?_) (fun h6 => ?_)
                    · obtain rfl : b = 12 := by omega
                      refine lv_iinc (v := nI (a + 1)) (lv' := [(3, .int (nI (a + 1))), (0, .ref q0), (1, .ref q6), (2, .int (nI (0 + su K T i (12 * a + 12)))), (4, .int (nI 12))]) hx hb dX1_timeByCounts_121 hl (k := 3) rfl (nI_add _ _) (by decide) rfl (fun ls hl => ?_)
                      refine lv_goto (tgt := 61) hx hb dX1_timeByCounts_124 (by decide) ?_
                      exact ih_lo20 (a + 1) (by omega) (by omega) ls (lv_sub hl [1, 2, 3, 0] rfl)
                    · have hKa := hK a (by omega)
                      have hKb := hK b (by omega)
                      refine lv_aload_n hx hb dX1_timeByCounts_77 rfl (lv_at hl 0 rfl) ?_
                      refine va_get (D := D) (ci := 1) (v := .ref q1) (C := RX1) (T := TX1) (N := 8) hx hb hts hin1 hown hE.1 hP 0 rfl rfl 0 (by decide) (hts (.fieldLink RX1 9 "Homekeys$Student" "keys" "[I") (by decide +kernel)) (fun _ h9 => h9) rfl dX1_timeByCounts_78 ?_
                      refine lv_iload_n hx hb dX1_timeByCounts_81 rfl (lv_at hl 3 rfl) ?_
                      refine hk_R (rest := []) (va_Run.run (va_runSN (host := RX2) (As := [.ref q1, .int (nI a)]) (rest := []) ⟨hx, hb, hml, hown, hts⟩ (c_X2_at l D ct sa q1 12 (fun j => nI (K j)) (nI a) (by decide)) ⟨va_cnB 2 hts gX1_timeByCounts_X2_at_n41 rfl rfl rfl (hE.nw hkN_X1_41) (hts (.initialized RX2) (by decide +kernel)) (by decide +kernel) ⟨Nat.le_of_ble_eq_true rfl, Nat.le_of_ble_eq_true rfl⟩, hts (.static yX2_at) (by decide +kernel), trivial⟩ (hk_preS hE (hP.sub (ws' := [(q1, .inl (ct 0, 12, .inl (fun j => nI (K j))))]) [1] rfl)) rfl rfl hl.1 rfl (lv_room (Nat.le_of_ble_eq_true rfl)) dX1_timeByCounts_82 ⟨Nat.zero_le _, Nat.zero_le _⟩)) ?_
                      refine hk_top (y := nI (K a)) (hkAt_in (by omega) (by decide)) ?_
                      refine lv_aload_n hx hb dX1_timeByCounts_85 rfl (lv_at hl 0 rfl) ?_
                      refine va_get (D := D) (ci := 1) (v := .ref q1) (C := RX1) (T := TX1) (N := 8) hx hb hts hin1 hown hE.1 hP 0 rfl rfl 0 (by decide) (hts (.fieldLink RX1 9 "Homekeys$Student" "keys" "[I") (by decide +kernel)) (fun _ h9 => h9) rfl dX1_timeByCounts_86 ?_
                      refine lv_iload hx hb dX1_timeByCounts_89 (lv_at hl 4 rfl) ?_
                      refine hk_R (rest := [.int (nI (K a))]) (va_Run.run (va_runSN (host := RX2) (As := [.ref q1, .int (nI b)]) (rest := [.int (nI (K a))]) ⟨hx, hb, hml, hown, hts⟩ (c_X2_at l D ct sa q1 12 (fun j => nI (K j)) (nI b) (by decide)) ⟨va_cnB 2 hts gX1_timeByCounts_X2_at_n41 rfl rfl rfl (hE.nw hkN_X1_41) (hts (.initialized RX2) (by decide +kernel)) (by decide +kernel) ⟨Nat.le_of_ble_eq_true rfl, Nat.le_of_ble_eq_true rfl⟩, hts (.static yX2_at) (by decide +kernel), trivial⟩ (hk_preS hE (hP.sub (ws' := [(q1, .inl (ct 0, 12, .inl (fun j => nI (K j))))]) [1] rfl)) rfl rfl hl.1 rfl (lv_room (Nat.le_of_ble_eq_true rfl)) dX1_timeByCounts_91 ⟨Nat.zero_le _, Nat.zero_le _⟩)) ?_
                      refine hk_top (y := nI (K b)) (hkAt_in (by omega) (by decide)) ?_
                      refine hk_R (rest := []) (va_Run.run (va_runSN (host := RX2) (As := [.int (nI (K a)), .int (nI (K b))]) (rest := []) ⟨hx, hb, hml, hown, hts⟩ (c_X2_stepTime l D ct sa (K a) (K b) hKa hKb) ⟨va_cnB 2 hts gX1_timeByCounts_X2_stepTime_n78 rfl rfl rfl (hE.nw hkN_X1_78) (hts (.initialized RX2) (by decide +kernel)) (by decide +kernel) ⟨Nat.le_of_ble_eq_true rfl, Nat.le_of_ble_eq_true rfl⟩, hts (.static yX2_stepTime) (by decide +kernel), trivial⟩ (hk_preS hE trivial) rfl rfl hl.1 rfl (lv_room (Nat.le_of_ble_eq_true rfl)) dX1_timeByCounts_94 ⟨Nat.zero_le _, Nat.zero_le _⟩)) ?_
                      refine lv_istore (lv' := [(5, .int (nI (stp (K a) (K b)))), (0, .ref q0), (1, .ref q6), (2, .int (nI (0 + su K T i (12 * a + b)))), (3, .int (nI a)), (4, .int (nI b))]) hx hb dX1_timeByCounts_97 hl (by decide) rfl (fun ls hl => ?_)
                      refine lv_iload_n hx hb dX1_timeByCounts_99 rfl (lv_at hl 3 rfl) ?_
                      refine lv_aload_n hx hb dX1_timeByCounts_100 rfl (lv_at hl 2 rfl) ?_
                      refine lv_iload_n hx hb dX1_timeByCounts_101 rfl (lv_at hl 4 rfl) ?_
                      refine lv_iload hx hb dX1_timeByCounts_102 (lv_at hl 5 rfl) ?_
                      refine hk_R (rest := [.ref q6, .int (nI (0 + su K T i (12 * a + b)))]) (va_Run.run (va_runSN (host := RX2) (As := [.int (nI a), .int (nI b)]) (rest := [.ref q6, .int (nI (0 + su K T i (12 * a + b)))]) ⟨hx, hb, hml, hown, hts⟩ (c_X2_pairPlace l D ct sa a b) ⟨va_cnB 2 hts gX1_timeByCounts_X2_pairPlace_n49 rfl rfl rfl (hE.nw hkN_X1_49) (hts (.initialized RX2) (by decide +kernel)) (by decide +kernel) ⟨Nat.le_of_ble_eq_true rfl, Nat.le_of_ble_eq_true rfl⟩, hts (.static yX2_pairPlace) (by decide +kernel), trivial⟩ (hk_preS hE trivial) rfl rfl hl.1 rfl (lv_room (Nat.le_of_ble_eq_true rfl)) dX1_timeByCounts_104 ⟨Nat.zero_le _, Nat.zero_le _⟩)) ?_
                      refine hk_R (rest := [.int (nI (0 + su K T i (12 * a + b)))]) (va_Run.run (va_runSN (host := RX2) (As := [.ref q6, .int (nI (12 * a + b))]) (rest := [.int (nI (0 + su K T i (12 * a + b)))]) ⟨hx, hb, hml, hown, hts⟩ (c_X2_at l D ct sa q6 144 (fun j => if j < 144 then nI (cn T j i) else F j) (nI (12 * a + b)) (by decide)) ⟨va_cnB 2 hts gX1_timeByCounts_X2_at_n41 rfl rfl rfl (hE.nw hkN_X1_41) (hts (.initialized RX2) (by decide +kernel)) (by decide +kernel) ⟨Nat.le_of_ble_eq_true rfl, Nat.le_of_ble_eq_true rfl⟩, hts (.static yX2_at) (by decide +kernel), trivial⟩ (hk_preS hE (hP.sub (ws' := [(q6, .inl (ct 0, 144, .inl (fun j => if j < 144 then nI (cn T j i) else F j)))]) [6] rfl)) rfl rfl hl.1 rfl (lv_room (Nat.le_of_ble_eq_true rfl)) dX1_timeByCounts_107 ⟨Nat.zero_le _, Nat.zero_le _⟩)) ?_
                      refine hk_top (y := nI (cn T (12 * a + b) i)) ((hkAt_in (by omega) (by decide)).trans (if_pos (by omega))) ?_
                      refine lv_iload hx hb dX1_timeByCounts_110 (lv_at hl 0 rfl) ?_
                      refine hk_mulN hx hb dX1_timeByCounts_112 ?_
                      refine hk_addN hx hb dX1_timeByCounts_113 ?_
                      refine lv_istore_n (lv' := [(2, .int (nI ((0 + su K T i (12 * a + b)) + ((cn T (12 * a + b) i) * (stp (K a) (K b)))))), (5, .int (nI (stp (K a) (K b)))), (0, .ref q0), (1, .ref q6), (3, .int (nI a)), (4, .int (nI b))]) hx hb dX1_timeByCounts_114 rfl hl (by decide) rfl (fun ls hl => ?_)
                      refine lv_iinc (v := nI (b + 1)) (lv' := [(4, .int (nI (b + 1))), (2, .int (nI ((0 + su K T i (12 * a + b)) + ((cn T (12 * a + b) i) * (stp (K a) (K b)))))), (5, .int (nI (stp (K a) (K b)))), (0, .ref q0), (1, .ref q6), (3, .int (nI a))]) hx hb dX1_timeByCounts_115 hl (k := 5) rfl (nI_add _ _) (by decide) rfl (fun ls hl => ?_)
                      refine lv_goto (tgt := 70) hx hb dX1_timeByCounts_118 (by decide) ?_
                      exact ih_lo30 (b + 1) (by omega) (by omega) ls (by rw [show 12 * a + (b + 1) = 12 * a + b + 1 from rfl, su_step K T i a b (by omega), ← Nat.add_assoc]; exact lv_sub hl [3, 4, 1, 5, 0] rfl)
                exact lo30 13 0 (by omega) (by omega) ls (lv_sub hl [1, 2, 3, 4, 0] rfl)
          exact lo20 13 0 (by omega) (by omega) ls (lv_sub hl [2, 3, 1, 0] rfl)
        · refine lv_iconst (v := nI 2) hx hb dX1_timeByCounts_53 (by decide) ?_
          refine lv_goto (tgt := 58) hx hb dX1_timeByCounts_54 (by decide) ?_
          refine lv_istore_n (lv' := [(2, .int (nI 2)), (0, .ref q0), (1, .ref q6)]) hx hb dX1_timeByCounts_58 rfl hl (by decide) rfl (fun ls hl => ?_)
          refine lv_iconst (v := nI 0) hx hb dX1_timeByCounts_59 (by decide) ?_
          refine lv_istore_n (lv' := [(3, .int (nI 0)), (2, .int (nI 2)), (0, .ref q0), (1, .ref q6)]) hx hb dX1_timeByCounts_60 rfl hl (by decide) rfl (fun ls hl => ?_)
          have lo22 : ∀ (k : Nat) (a : Nat), 12 < a + k → a ≤ 12 → ∀ (ls : Array Slot), lv_has ls 6 [(0, .ref q0), (1, .ref q6), (2, .int (nI (2 + su K T i (12 * a)))), (3, .int (nI a))] → W p l e (headSpec wsX1_timeByCounts ({ frames := 2, cells := 0, slots := 0, locals := 43 })).room s m ([.ref q0, .ref q6] : List Value).toArray below meth c H locs 0 0 (MQ below (hkQ (some (.int (nI (tt (gk K T) kp)))) D [(q0, .inr (1, [.ref q1, .ref q2, .int Y, .ref q3, .ref q4, .ref q5, .int (nI kp), .int C])), (q1, .inl (ct 0, 12, .inl (fun j => nI (K j)))), (q2, .inl (ct 0, 12, .inl (fun j => nI (L j)))), (q3, .inl (ct 0, 12, .inl S)), (q4, .inl (ct 0, 144, .inl P)), (q5, .inl (ct 0, 30, .inl (fun j => nI (T j)))), (q6, .inl (ct 0, 144, .inl (fun j => if j < 144 then nI (cn T j (cn_m kp)) else F j)))] [q0, q1, q2, q3, q4, q5, q6]) ([.ref q0, .ref q6] : List Value).toArray s 0 0 (hkA [q0, q1, q2, q3, q4, q5, q6])) (F0 m 61 ls []) := by
            intro k
            induction k with
            | zero => intro a hk; intros; exact absurd hk (by omega)
            | succ k ih_lo22 =>
              intro a hk ha ls hl
              refine lv_iload_n hx hb dX1_timeByCounts_61 rfl (lv_at hl 3 rfl) ?_
              refine lv_bipush (v := nI 12) hx hb dX1_timeByCounts_62 (by decide) ?_
              refine hk_geN (tgt := 127) hx hb (by omega) (by omega) dX1_timeByCounts_64 (by decide) (fun h5 => ?_) (fun h5 => ?_)
              · obtain rfl : a = 12 := by omega
                refine lv_iload_n hx hb dX1_timeByCounts_127 rfl (lv_at hl 2 rfl) ?_
                have hP : va_P D vwCl [(q0, .inr (1, [.ref q1, .ref q2, .int Y, .ref q3, .ref q4, .ref q5, .int (nI kp), .int C])), (q1, .inl (ct 0, 12, .inl (fun j => nI (K j)))), (q2, .inl (ct 0, 12, .inl (fun j => nI (L j)))), (q3, .inl (ct 0, 12, .inl S)), (q4, .inl (ct 0, 144, .inl P)), (q5, .inl (ct 0, 30, .inl (fun j => nI (T j)))), (q6, .inl (ct 0, 144, .inl (fun j => if j < 144 then nI (cn T j i) else F j)))] H := hP
                have hP9 : va_P D vwCl [(q0, .inr (1, [.ref q1, .ref q2, .int Y, .ref q3, .ref q4, .ref q5, .int (nI kp), .int C])), (q1, .inl (ct 0, 12, .inl (fun j => nI (K j)))), (q2, .inl (ct 0, 12, .inl (fun j => nI (L j)))), (q3, .inl (ct 0, 12, .inl S)), (q4, .inl (ct 0, 144, .inl P)), (q5, .inl (ct 0, 30, .inl (fun j => nI (T j)))), (q6, .inl (ct 0, 144, .inl (fun j => if j < 144 then nI (cn T j i) else F j)))] H := hP
                exact W.iret (v := nI (2 + su K T i (12 * 12))) hx hb hr (fun t ht hW => ⟨by rw [su_tt2 K T kp i (by omega) hT], by rw [ht]; rw [hik]; exact hP9, by rw [ht]; exact ⟨hS.1, hS.2.1⟩⟩) hS.2.2 dX1_timeByCounts_128
              · refine lv_iconst (v := nI 0) hx hb dX1_timeByCounts_67 (by decide) ?_
                refine lv_istore (lv' := [(4, .int (nI 0)), (0, .ref q0), (1, .ref q6), (2, .int (nI (2 + su K T i (12 * a)))), (3, .int (nI a))]) hx hb dX1_timeByCounts_68 hl (by decide) rfl (fun ls hl => ?_)
                have lo32 : ∀ (k : Nat) (b : Nat), 12 < b + k → b ≤ 12 → ∀ (ls : Array Slot), lv_has ls 6 [(0, .ref q0), (1, .ref q6), (2, .int (nI (2 + su K T i (12 * a + b)))), (3, .int (nI a)), (4, .int (nI b))] → W p l e (headSpec wsX1_timeByCounts ({ frames := 2, cells := 0, slots := 0, locals := 43 })).room s m ([.ref q0, .ref q6] : List Value).toArray below meth c H locs 0 0 (MQ below (hkQ (some (.int (nI (tt (gk K T) kp)))) D [(q0, .inr (1, [.ref q1, .ref q2, .int Y, .ref q3, .ref q4, .ref q5, .int (nI kp), .int C])), (q1, .inl (ct 0, 12, .inl (fun j => nI (K j)))), (q2, .inl (ct 0, 12, .inl (fun j => nI (L j)))), (q3, .inl (ct 0, 12, .inl S)), (q4, .inl (ct 0, 144, .inl P)), (q5, .inl (ct 0, 30, .inl (fun j => nI (T j)))), (q6, .inl (ct 0, 144, .inl (fun j => if j < 144 then nI (cn T j (cn_m kp)) else F j)))] [q0, q1, q2, q3, q4, q5, q6]) ([.ref q0, .ref q6] : List Value).toArray s 0 0 (hkA [q0, q1, q2, q3, q4, q5, q6])) (F0 m 70 ls []) := by
                  intro k
                  induction k with
                  | zero => intro b hk; intros; exact absurd hk (by omega)
                  | succ k ih_lo32 =>
                    intro b hk hb0 ls hl
                    refine lv_iload hx hb dX1_timeByCounts_70 (lv_at hl 4 rfl) ?_
                    refine lv_bipush (v := nI 12) hx hb dX1_timeByCounts_72 (by decide) ?_
                    refine hk_geN (tgt := 121) hx hb (by omega) (by omega) dX1_timeByCounts_74 (by decide) (fun h6 => ?_) (fun h6 => ?_)
                    · obtain rfl : b = 12 := by omega
                      refine lv_iinc (v := nI (a + 1)) (lv' := [(3, .int (nI (a + 1))), (0, .ref q0), (1, .ref q6), (2, .int (nI (2 + su K T i (12 * a + 12)))), (4, .int (nI 12))]) hx hb dX1_timeByCounts_121 hl (k := 3) rfl (nI_add _ _) (by decide) rfl (fun ls hl => ?_)
                      refine lv_goto (tgt := 61) hx hb dX1_timeByCounts_124 (by decide) ?_
                      exact ih_lo22 (a + 1) (by omega) (by omega) ls (lv_sub hl [1, 2, 3, 0] rfl)
                    · have hKa := hK a (by omega)
                      have hKb := hK b (by omega)
                      refine lv_aload_n hx hb dX1_timeByCounts_77 rfl (lv_at hl 0 rfl) ?_
                      refine va_get (D := D) (ci := 1) (v := .ref q1) (C := RX1) (T := TX1) (N := 8) hx hb hts hin1 hown hE.1 hP 0 rfl rfl 0 (by decide) (hts (.fieldLink RX1 9 "Homekeys$Student" "keys" "[I") (by decide +kernel)) (fun _ h9 => h9) rfl dX1_timeByCounts_78 ?_
                      refine lv_iload_n hx hb dX1_timeByCounts_81 rfl (lv_at hl 3 rfl) ?_
                      refine hk_R (rest := []) (va_Run.run (va_runSN (host := RX2) (As := [.ref q1, .int (nI a)]) (rest := []) ⟨hx, hb, hml, hown, hts⟩ (c_X2_at l D ct sa q1 12 (fun j => nI (K j)) (nI a) (by decide)) ⟨va_cnB 2 hts gX1_timeByCounts_X2_at_n41 rfl rfl rfl (hE.nw hkN_X1_41) (hts (.initialized RX2) (by decide +kernel)) (by decide +kernel) ⟨Nat.le_of_ble_eq_true rfl, Nat.le_of_ble_eq_true rfl⟩, hts (.static yX2_at) (by decide +kernel), trivial⟩ (hk_preS hE (hP.sub (ws' := [(q1, .inl (ct 0, 12, .inl (fun j => nI (K j))))]) [1] rfl)) rfl rfl hl.1 rfl (lv_room (Nat.le_of_ble_eq_true rfl)) dX1_timeByCounts_82 ⟨Nat.zero_le _, Nat.zero_le _⟩)) ?_
                      refine hk_top (y := nI (K a)) (hkAt_in (by omega) (by decide)) ?_
                      refine lv_aload_n hx hb dX1_timeByCounts_85 rfl (lv_at hl 0 rfl) ?_
                      refine va_get (D := D) (ci := 1) (v := .ref q1) (C := RX1) (T := TX1) (N := 8) hx hb hts hin1 hown hE.1 hP 0 rfl rfl 0 (by decide) (hts (.fieldLink RX1 9 "Homekeys$Student" "keys" "[I") (by decide +kernel)) (fun _ h9 => h9) rfl dX1_timeByCounts_86 ?_
                      refine lv_iload hx hb dX1_timeByCounts_89 (lv_at hl 4 rfl) ?_
                      refine hk_R (rest := [.int (nI (K a))]) (va_Run.run (va_runSN (host := RX2) (As := [.ref q1, .int (nI b)]) (rest := [.int (nI (K a))]) ⟨hx, hb, hml, hown, hts⟩ (c_X2_at l D ct sa q1 12 (fun j => nI (K j)) (nI b) (by decide)) ⟨va_cnB 2 hts gX1_timeByCounts_X2_at_n41 rfl rfl rfl (hE.nw hkN_X1_41) (hts (.initialized RX2) (by decide +kernel)) (by decide +kernel) ⟨Nat.le_of_ble_eq_true rfl, Nat.le_of_ble_eq_true rfl⟩, hts (.static yX2_at) (by decide +kernel), trivial⟩ (hk_preS hE (hP.sub (ws' := [(q1, .inl (ct 0, 12, .inl (fun j => nI (K j))))]) [1] rfl)) rfl rfl hl.1 rfl (lv_room (Nat.le_of_ble_eq_true rfl)) dX1_timeByCounts_91 ⟨Nat.zero_le _, Nat.zero_le _⟩)) ?_
                      refine hk_top (y := nI (K b)) (hkAt_in (by omega) (by decide)) ?_
                      refine hk_R (rest := []) (va_Run.run (va_runSN (host := RX2) (As := [.int (nI (K a)), .int (nI (K b))]) (rest := []) ⟨hx, hb, hml, hown, hts⟩ (c_X2_stepTime l D ct sa (K a) (K b) hKa hKb) ⟨va_cnB 2 hts gX1_timeByCounts_X2_stepTime_n78 rfl rfl rfl (hE.nw hkN_X1_78) (hts (.initialized RX2) (by decide +kernel)) (by decide +kernel) ⟨Nat.le_of_ble_eq_true rfl, Nat.le_of_ble_eq_true rfl⟩, hts (.static yX2_stepTime) (by decide +kernel), trivial⟩ (hk_preS hE trivial) rfl rfl hl.1 rfl (lv_room (Nat.le_of_ble_eq_true rfl)) dX1_timeByCounts_94 ⟨Nat.zero_le _, Nat.zero_le _⟩)) ?_
                      refine lv_istore (lv' := [(5, .int (nI (stp (K a) (K b)))), (0, .ref q0), (1, .ref q6), (2, .int (nI (2 + su K T i (12 * a + b)))), (3, .int (nI a)), (4, .int (nI b))]) hx hb dX1_timeByCounts_97 hl (by decide) rfl (fun ls hl => ?_)
                      refine lv_iload_n hx hb dX1_timeByCounts_99 rfl (lv_at hl 3 rfl) ?_
                      refine lv_aload_n hx hb dX1_timeByCounts_100 rfl (lv_at hl 2 rfl) ?_
                      refine lv_iload_n hx hb dX1_timeByCounts_101 rfl (lv_at hl 4 rfl) ?_
                      refine lv_iload hx hb dX1_timeByCounts_102 (lv_at hl 5 rfl) ?_
                      refine hk_R (rest := [.ref q6, .int (nI (2 + su K T i (12 * a + b)))]) (va_Run.run (va_runSN (host := RX2) (As := [.int (nI a), .int (nI b)]) (rest := [.ref q6, .int (nI (2 + su K T i (12 * a + b)))]) ⟨hx, hb, hml, hown, hts⟩ (c_X2_pairPlace l D ct sa a b) ⟨va_cnB 2 hts gX1_timeByCounts_X2_pairPlace_n49 rfl rfl rfl (hE.nw hkN_X1_49) (hts (.initialized RX2) (by decide +kernel)) (by decide +kernel) ⟨Nat.le_of_ble_eq_true rfl, Nat.le_of_ble_eq_true rfl⟩, hts (.static yX2_pairPlace) (by decide +kernel), trivial⟩ (hk_preS hE trivial) rfl rfl hl.1 rfl (lv_room (Nat.le_of_ble_eq_true rfl)) dX1_timeByCounts_104 ⟨Nat.zero_le _, Nat.zero_le _⟩)) ?_
                      refine hk_R (rest := [.int (nI (2 + su K T i (12 * a + b)))]) (va_Run.run (va_runSN (host := RX2) (As := [.ref q6, .int (nI (12 * a + b))]) (rest := [.int (nI (2 + su K T i (12 * a + b)))]) ⟨hx, hb, hml, hown, hts⟩ (c_X2_at l D ct sa q6 144 (fun j => if j < 144 then nI (cn T j i) else F j) (nI (12 * a + b)) (by decide)) ⟨va_cnB 2 hts gX1_timeByCounts_X2_at_n41 rfl rfl rfl (hE.nw hkN_X1_41) (hts (.initialized RX2) (by decide +kernel)) (by decide +kernel) ⟨Nat.le_of_ble_eq_true rfl, Nat.le_of_ble_eq_true rfl⟩, hts (.static yX2_at) (by decide +kernel), trivial⟩ (hk_preS hE (hP.sub (ws' := [(q6, .inl (ct 0, 144, .inl (fun j => if j < 144 then nI (cn T j i) else F j)))]) [6] rfl)) rfl rfl hl.1 rfl (lv_room (Nat.le_of_ble_eq_true rfl)) dX1_timeByCounts_107 ⟨Nat.zero_le _, Nat.zero_le _⟩)) ?_
                      refine hk_top (y := nI (cn T (12 * a + b) i)) ((hkAt_in (by omega) (by decide)).trans (if_pos (by omega))) ?_
                      refine lv_iload hx hb dX1_timeByCounts_110 (lv_at hl 0 rfl) ?_
                      refine hk_mulN hx hb dX1_timeByCounts_112 ?_
                      refine hk_addN hx hb dX1_timeByCounts_113 ?_
                      refine lv_istore_n (lv' := [(2, .int (nI ((2 + su K T i (12 * a + b)) + ((cn T (12 * a + b) i) * (stp (K a) (K b)))))), (5, .int (nI (stp (K a) (K b)))), (0, .ref q0), (1, .ref q6), (3, .int (nI a)), (4, .int (nI b))]) hx hb dX1_timeByCounts_114 rfl hl (by decide) rfl (fun ls hl => ?_)
                      refine lv_iinc (v := nI (b + 1)) (lv' := [(4, .int (nI (b + 1))), (2, .int (nI ((2 + su K T i (12 * a + b)) + ((cn T (12 * a + b) i) * (stp (K a) (K b)))))), (5, .int (nI (stp (K a) (K b)))), (0, .ref q0), (1, .ref q6), (3, .int (nI a))]) hx hb dX1_timeByCounts_115 hl (k := 5) rfl (nI_add _ _) (by decide) rfl (fun ls hl => ?_)
                      refine lv_goto (tgt := 70) hx hb dX1_timeByCounts_118 (by decide) ?_
                      exact ih_lo32 (b + 1) (by omega) (by omega) ls (by rw [show 12 * a + (b + 1) = 12 * a + b + 1 from rfl, su_step K T i a b (by omega), ← Nat.add_assoc]; exact lv_sub hl [3, 4, 1, 5, 0] rfl)
                exact lo32 13 0 (by omega) (by omega) ls (lv_sub hl [1, 2, 3, 4, 0] rfl)
          exact lo22 13 0 (by omega) (by omega) ls (lv_sub hl [2, 3, 1, 0] rfl)
      · have h1 := hT i
        have h2 := hT (i + 1)
        refine lv_aload_n hx hb dX1_timeByCounts_15 rfl (lv_at hl 1 rfl) ?_
        refine lv_aload_n hx hb dX1_timeByCounts_16 rfl (lv_at hl 0 rfl) ?_
        refine va_get (D := D) (ci := 1) (v := .ref q5) (C := RX1) (T := TX1) (N := 8) hx hb hts hin1 hown hE.1 hP 0 rfl rfl 5 (by decide) (hts (.fieldLink RX1 28 "Homekeys$Student" "typed" "[I") (by decide +kernel)) (fun _ h9 => h9) rfl dX1_timeByCounts_17 ?_
        refine lv_iload_n hx hb dX1_timeByCounts_20 rfl (lv_at hl 2 rfl) ?_
        refine lv_iconst (v := nI 1) hx hb dX1_timeByCounts_21 (by decide) ?_
        refine hk_subN hx hb (by omega) dX1_timeByCounts_22 ?_
        refine hk_R (rest := [.ref q6]) (va_Run.run (va_runSN (host := RX2) (As := [.ref q5, .int (nI i)]) (rest := [.ref q6]) ⟨hx, hb, hml, hown, hts⟩ (c_X2_at l D ct sa q5 30 (fun j => nI (T j)) (nI i) (by decide)) ⟨va_cnB 2 hts gX1_timeByCounts_X2_at_n41 rfl rfl rfl (hE.nw hkN_X1_41) (hts (.initialized RX2) (by decide +kernel)) (by decide +kernel) ⟨Nat.le_of_ble_eq_true rfl, Nat.le_of_ble_eq_true rfl⟩, hts (.static yX2_at) (by decide +kernel), trivial⟩ (hk_preS hE (hP.sub (ws' := [(q5, .inl (ct 0, 30, .inl (fun j => nI (T j))))]) [5] rfl)) rfl rfl hl.1 rfl (lv_room (Nat.le_of_ble_eq_true rfl)) dX1_timeByCounts_23 ⟨Nat.zero_le _, Nat.zero_le _⟩)) ?_
        refine hk_top (y := nI (T i)) (hkAt_in (by omega) (by decide)) ?_
        refine lv_aload_n hx hb dX1_timeByCounts_26 rfl (lv_at hl 0 rfl) ?_
        refine va_get (D := D) (ci := 1) (v := .ref q5) (C := RX1) (T := TX1) (N := 8) hx hb hts hin1 hown hE.1 hP 0 rfl rfl 5 (by decide) (hts (.fieldLink RX1 28 "Homekeys$Student" "typed" "[I") (by decide +kernel)) (fun _ h9 => h9) rfl dX1_timeByCounts_27 ?_
        refine lv_iload_n hx hb dX1_timeByCounts_30 rfl (lv_at hl 2 rfl) ?_
        refine hk_R (rest := [.int (nI (T i)), .ref q6]) (va_Run.run (va_runSN (host := RX2) (As := [.ref q5, .int (nI (i + 1))]) (rest := [.int (nI (T i)), .ref q6]) ⟨hx, hb, hml, hown, hts⟩ (c_X2_at l D ct sa q5 30 (fun j => nI (T j)) (nI (i + 1)) (by decide)) ⟨va_cnB 2 hts gX1_timeByCounts_X2_at_n41 rfl rfl rfl (hE.nw hkN_X1_41) (hts (.initialized RX2) (by decide +kernel)) (by decide +kernel) ⟨Nat.le_of_ble_eq_true rfl, Nat.le_of_ble_eq_true rfl⟩, hts (.static yX2_at) (by decide +kernel), trivial⟩ (hk_preS hE (hP.sub (ws' := [(q5, .inl (ct 0, 30, .inl (fun j => nI (T j))))]) [5] rfl)) rfl rfl hl.1 rfl (lv_room (Nat.le_of_ble_eq_true rfl)) dX1_timeByCounts_31 ⟨Nat.zero_le _, Nat.zero_le _⟩)) ?_
        refine hk_top (y := nI (T (i + 1))) (hkAt_in (by omega) (by decide)) ?_
        refine hk_R (rest := [.ref q6]) (va_Run.run (va_runSN (host := RX2) (As := [.int (nI (T i)), .int (nI (T (i + 1)))]) (rest := [.ref q6]) ⟨hx, hb, hml, hown, hts⟩ (c_X2_pairPlace l D ct sa (T i) (T (i + 1))) ⟨va_cnB 2 hts gX1_timeByCounts_X2_pairPlace_n49 rfl rfl rfl (hE.nw hkN_X1_49) (hts (.initialized RX2) (by decide +kernel)) (by decide +kernel) ⟨Nat.le_of_ble_eq_true rfl, Nat.le_of_ble_eq_true rfl⟩, hts (.static yX2_pairPlace) (by decide +kernel), trivial⟩ (hk_preS hE trivial) rfl rfl hl.1 rfl (lv_room (Nat.le_of_ble_eq_true rfl)) dX1_timeByCounts_34 ⟨Nat.zero_le _, Nat.zero_le _⟩)) ?_
        refine hk_M (rest := []) (va_Run.run (va_runSN (host := RX2) (As := [.ref q6, .int (nI (12 * T i + T (i + 1)))]) (rest := []) ⟨hx, hb, hml, hown, hts⟩ (c_X2_count l D ct sa q6 144 (fun j => if j < 144 then nI (cn T j i) else F j) (12 * T i + T (i + 1)) (by decide) (by omega)) ⟨va_cnB 2 hts gX1_timeByCounts_X2_count_n45 rfl rfl rfl (hE.nw hkN_X1_45) (hts (.initialized RX2) (by decide +kernel)) (by decide +kernel) ⟨Nat.le_of_ble_eq_true rfl, Nat.le_of_ble_eq_true rfl⟩, hts (.static yX2_count) (by decide +kernel), trivial⟩ (hk_preS hE ⟨hP.sub (ws' := [(q6, .inl (ct 0, 144, .inl (fun j => if j < 144 then nI (cn T j i) else F j)))]) [6] rfl, (hD.sub (ws' := [(q6, .inl (ct 0, 144, .inl (fun j => if j < 144 then nI (cn T j i) else F j)))]) [6] (by decide) rfl).weaken (fun _ _ _ _ => trivial)⟩) rfl rfl hl.1 rfl (lv_room (Nat.le_of_ble_eq_true rfl)) dX1_timeByCounts_37 ⟨Nat.zero_le _, Nat.zero_le _⟩)) hP hD hS [6] (wc := [(q6, .inl (ct 0, 144, .inl (fun j => if j < 144 then nI (cn T j i) else F j)))]) rfl rfl rfl (fun H locs hP hD hS => ?_)
        have hP : va_P D vwCl [(q0, .inr (1, [.ref q1, .ref q2, .int Y, .ref q3, .ref q4, .ref q5, .int (nI kp), .int C])), (q1, .inl (ct 0, 12, .inl (fun j => nI (K j)))), (q2, .inl (ct 0, 12, .inl (fun j => nI (L j)))), (q3, .inl (ct 0, 12, .inl S)), (q4, .inl (ct 0, 144, .inl P)), (q5, .inl (ct 0, 30, .inl (fun j => nI (T j)))), (q6, .inl (ct 0, 144, .inl (upd (fun j => if j < 144 then nI (cn T j i) else F j) (12 * T i + T (i + 1)) ((fun j => if j < 144 then nI (cn T j i) else F j) (12 * T i + T (i + 1)) + nI 1))))] H := hP
        have hD : va_D (hkA [q0, q1, q2, q3, q4, q5, q6]) [(q0, .inr (1, [.ref q1, .ref q2, .int Y, .ref q3, .ref q4, .ref q5, .int (nI kp), .int C])), (q1, .inl (ct 0, 12, .inl (fun j => nI (K j)))), (q2, .inl (ct 0, 12, .inl (fun j => nI (L j)))), (q3, .inl (ct 0, 12, .inl S)), (q4, .inl (ct 0, 144, .inl P)), (q5, .inl (ct 0, 30, .inl (fun j => nI (T j)))), (q6, .inl (ct 0, 144, .inl (upd (fun j => if j < 144 then nI (cn T j i) else F j) (12 * T i + T (i + 1)) ((fun j => if j < 144 then nI (cn T j i) else F j) (12 * T i + T (i + 1)) + nI 1))))] := hD
        have hP : va_P D vwCl [(q0, .inr (1, [.ref q1, .ref q2, .int Y, .ref q3, .ref q4, .ref q5, .int (nI kp), .int C])), (q1, .inl (ct 0, 12, .inl (fun j => nI (K j)))), (q2, .inl (ct 0, 12, .inl (fun j => nI (L j)))), (q3, .inl (ct 0, 12, .inl S)), (q4, .inl (ct 0, 144, .inl P)), (q5, .inl (ct 0, 30, .inl (fun j => nI (T j)))), (q6, .inl (ct 0, 144, .inl (fun j => if j < 144 then nI (cn T j (i + 1)) else F j)))] H := by rw [cn_upd T F i (by omega)] at hP; exact hP
        have hD : va_D (hkA [q0, q1, q2, q3, q4, q5, q6]) [(q0, .inr (1, [.ref q1, .ref q2, .int Y, .ref q3, .ref q4, .ref q5, .int (nI kp), .int C])), (q1, .inl (ct 0, 12, .inl (fun j => nI (K j)))), (q2, .inl (ct 0, 12, .inl (fun j => nI (L j)))), (q3, .inl (ct 0, 12, .inl S)), (q4, .inl (ct 0, 144, .inl P)), (q5, .inl (ct 0, 30, .inl (fun j => nI (T j)))), (q6, .inl (ct 0, 144, .inl (fun j => if j < 144 then nI (cn T j (i + 1)) else F j)))] := by rw [cn_upd T F i (by omega)] at hD; exact hD
        refine lv_iinc (v := nI (i + 1 + 1)) (lv' := [(2, .int (nI (i + 1 + 1))), (0, .ref q0), (1, .ref q6)]) hx hb dX1_timeByCounts_40 hl (k := 2) rfl (nI_add _ _) (by decide) rfl (fun ls hl => ?_)
        refine lv_goto (tgt := 7) hx hb dX1_timeByCounts_43 (by decide) ?_
        exact ih_loop (i + 1) (by omega) (by omega) H locs hP hD hS ls (lv_sub hl [1, 2, 0] rfl)
  exact loop (kp + 1) 0 (by omega) (by omega) H locs hP hD hS ls (lv_sub hl [1, 2, 0] rfl)

set_option maxHeartbeats 4000000 in
set_option maxRecDepth 100000 in
theorem c_X1_init (l : Launch) (D : va_G) (ct : Nat → ClassId) (sa : Nat → Nat) (q0 sz : Nat) : Met l yX1_init wsX1_init ({ frames := 1, cells := 5, slots := 210, locals := 22 }) (hkPc D ct sa [.ref q0] (fun H => H.size = sz ∧ va_P D vwCl [(q0, .inr (1, [.null, .null, .int 0, .null, .null, .null, .int 0, .int 0]))] H ∧ va_D (fun _ => True) [(q0, .inr (1, [.null, .null, .int 0, .null, .null, .null, .int 0, .int 0]))])) (va_Qv (fun _ : Nat × Nat × Nat × Nat × Nat => True) (hkB D (va_A [(q0, .inr (1, [.null, .null, .int 0, .null, .null, .null, .int 0, .int 0]))] sz) (fun u => [(q0, .inr (1, [.ref u.1, .ref u.2.1, .int (nI 0), .ref u.2.2.1, .ref u.2.2.2.1, .ref u.2.2.2.2, .int (nI 0), .int (nI 0)])), (u.1, .inl (ct 0, 12, .inl (fun j => if j < 12 then nI j else 0))), (u.2.1, .inl (ct 0, 12, .inl (fun j => if j < 12 then nI j else 0))), (u.2.2.1, .inl (ct 0, 12, .inl (fun _ => 0))), (u.2.2.2.1, .inl (ct 0, 144, .inl (fun _ => 0))), (u.2.2.2.2, .inl (ct 0, 30, .inl (fun _ => 0)))])) (va_A [(q0, .inr (1, [.null, .null, .int 0, .null, .null, .null, .int 0, .int 0]))] sz)) 5 210 (va_A [(q0, .inr (1, [.null, .null, .int 0, .null, .null, .null, .int 0, .int 0]))] sz) := by
  refine Met.ofW (cc := cX1_init) (maxL := 2) (ret := none) (by decide) rfl ?_
  intro p e s m args below meth c s₁ B hml hv
  obtain ⟨rfl, hE, hp⟩ := hv
  have hx := B.exec
  have hb := B.bytes
  have hr := B.returns
  have hts := atoms_spec (ws := wsX1_init) B.pre
  have hown : s.vm.findClass RX1 = some m.cls := findClass_of_methodNamed B.named
  have hlocks := B.notSynchronized
  have hin1 : ∀ w ∈ wsX10, w ∈ wsX1_init := by decide +kernel
  have hin : meth.name = "<init>" := (name_of_methodNamed B.named B.method).1
  obtain ⟨hsz, hP, hD0⟩ := hp
  subst hsz
  have hD := hD0.self (sz := s.heap.size)
  generalize hAe : va_A [(q0, .inr (1, [.null, .null, .int 0, .null, .null, .null, .int 0, .int 0]))] s.heap.size = A at hD ⊢
  have hA : ∀ q : Nat, s.heap.size ≤ q → A q := fun q h => by rw [← hAe]; exact Or.inr h
  have hS : va_S A s.heap s.heap [] := va_S.rf
  have hl := lv_entry ([.ref q0]) (n := 2) (Nat.le_of_ble_eq_true rfl)
  rw [lg_entry_eq]
  generalize (lg_sl ([.ref q0]) ++ List.replicate (2 - (lg_sl ([.ref q0])).length) Slot.unset).toArray = ls at hl ⊢
  have hl : lv_has ls 2 [(0, .ref q0)] := hl
  refine lv_aload_n hx hb dX1_init_0 rfl (lv_at hl 0 rfl) ?_
  refine W.objInit hx hb hown (hts (.methodLink RX1 3 objectInit) (by decide +kernel)) (hts (.instanceMethod objectInit) (by decide +kernel)) (hts (.code objectInit ⟨#[0xb1]⟩ 1 none) (by decide +kernel)) rfl (by rw [hml]; exact hl.1) rfl dX1_init_1 (Nat.le_of_ble_eq_true rfl) (Nat.le_of_ble_eq_true rfl) ?_
  refine W.eq (g2 := F0 m 4 ls []) rfl ?_
  refine lv_aload_n hx hb dX1_init_4 rfl (lv_at hl 0 rfl) ?_
  refine lv_bipush (v := nI 12) hx hb dX1_init_5 (by decide) ?_
  refine hk_newi hx hb (hts (.arrayClass .int) (by decide +kernel)) hE hP hD hS hA (n := 12) (by decide) (by decide) (Nat.le_of_ble_eq_true rfl) (Nat.le_of_ble_eq_true rfl) dX1_init_7 (fun q1 H hP hD hS => ?_)
  have hP : va_P D vwCl [(q0, .inr (1, [.null, .null, .int 0, .null, .null, .null, .int 0, .int 0])), (q1, .inl (ct 0, 12, .inl (fun _ => 0)))] H := hP
  have hD : va_D A [(q0, .inr (1, [.null, .null, .int 0, .null, .null, .null, .int 0, .int 0])), (q1, .inl (ct 0, 12, .inl (fun _ => 0)))] := hD
  refine va_putF (D := D) (ci := 1) (v := .ref q1) (ty := .array .int) (C := RX1) (T := TX1) (N := 8) hx hb hts hin1 tyX1 tyX1_ok nmX1 hown hE.1 hP hD hS 0 rfl rfl 0 (by decide) (hts (.fieldLink RX1 9 "Homekeys$Student" "keys" "[I") (by decide +kernel)) (fun _ h9 => h9) rfl hin rfl (by decide +kernel) rfl rfl (Nat.le_of_ble_eq_true rfl) dX1_init_9 (fun H locs hP hD hS => ?_)
  have hP : va_P D vwCl [(q0, .inr (1, [.ref q1, .null, .int 0, .null, .null, .null, .int 0, .int 0])), (q1, .inl (ct 0, 12, .inl (fun _ => 0)))] H := hP
  have hD : va_D A [(q0, .inr (1, [.ref q1, .null, .int 0, .null, .null, .null, .int 0, .int 0])), (q1, .inl (ct 0, 12, .inl (fun _ => 0)))] := hD
  refine lv_aload_n hx hb dX1_init_12 rfl (lv_at hl 0 rfl) ?_
  refine lv_bipush (v := nI 12) hx hb dX1_init_13 (by decide) ?_
  refine hk_newi hx hb (hts (.arrayClass .int) (by decide +kernel)) hE hP hD hS hA (n := 12) (by decide) (by decide) (Nat.le_of_ble_eq_true rfl) (Nat.le_of_ble_eq_true rfl) dX1_init_15 (fun q2 H hP hD hS => ?_)
  have hP : va_P D vwCl [(q0, .inr (1, [.ref q1, .null, .int 0, .null, .null, .null, .int 0, .int 0])), (q1, .inl (ct 0, 12, .inl (fun _ => 0))), (q2, .inl (ct 0, 12, .inl (fun _ => 0)))] H := hP
  have hD : va_D A [(q0, .inr (1, [.ref q1, .null, .int 0, .null, .null, .null, .int 0, .int 0])), (q1, .inl (ct 0, 12, .inl (fun _ => 0))), (q2, .inl (ct 0, 12, .inl (fun _ => 0)))] := hD
  refine va_putF (D := D) (ci := 1) (v := .ref q2) (ty := .array .int) (C := RX1) (T := TX1) (N := 8) hx hb hts hin1 tyX1 tyX1_ok nmX1 hown hE.1 hP hD hS 0 rfl rfl 1 (by decide) (hts (.fieldLink RX1 15 "Homekeys$Student" "letters" "[I") (by decide +kernel)) (fun _ h9 => h9) rfl hin rfl (by decide +kernel) rfl rfl (Nat.le_of_ble_eq_true rfl) dX1_init_17 (fun H locs hP hD hS => ?_)
  have hP : va_P D vwCl [(q0, .inr (1, [.ref q1, .ref q2, .int 0, .null, .null, .null, .int 0, .int 0])), (q1, .inl (ct 0, 12, .inl (fun _ => 0))), (q2, .inl (ct 0, 12, .inl (fun _ => 0)))] H := hP
  have hD : va_D A [(q0, .inr (1, [.ref q1, .ref q2, .int 0, .null, .null, .null, .int 0, .int 0])), (q1, .inl (ct 0, 12, .inl (fun _ => 0))), (q2, .inl (ct 0, 12, .inl (fun _ => 0)))] := hD
  refine lv_aload_n hx hb dX1_init_20 rfl (lv_at hl 0 rfl) ?_
  refine lv_iconst (v := nI 0) hx hb dX1_init_21 (by decide) ?_
  refine va_put (D := D) (ci := 1) (v := .int (nI 0)) (ty := .int) (C := RX1) (T := TX1) (N := 8) hx hb hts hin1 tyX1 tyX1_ok nmX1 hown hE.1 hP hD hS 0 rfl rfl 2 (by decide) (hts (.fieldLink RX1 18 "Homekeys$Student" "way" "I") (by decide +kernel)) (fun _ h9 => h9) rfl (by decide +kernel) rfl rfl (Nat.le_of_ble_eq_true rfl) dX1_init_22 (fun H locs hP hD hS => ?_)
  have hP : va_P D vwCl [(q0, .inr (1, [.ref q1, .ref q2, .int (nI 0), .null, .null, .null, .int 0, .int 0])), (q1, .inl (ct 0, 12, .inl (fun _ => 0))), (q2, .inl (ct 0, 12, .inl (fun _ => 0)))] H := hP
  have hD : va_D A [(q0, .inr (1, [.ref q1, .ref q2, .int (nI 0), .null, .null, .null, .int 0, .int 0])), (q1, .inl (ct 0, 12, .inl (fun _ => 0))), (q2, .inl (ct 0, 12, .inl (fun _ => 0)))] := hD
  refine lv_aload_n hx hb dX1_init_25 rfl (lv_at hl 0 rfl) ?_
  refine lv_bipush (v := nI 12) hx hb dX1_init_26 (by decide) ?_
  refine hk_newi hx hb (hts (.arrayClass .int) (by decide +kernel)) hE hP hD hS hA (n := 12) (by decide) (by decide) (Nat.le_of_ble_eq_true rfl) (Nat.le_of_ble_eq_true rfl) dX1_init_28 (fun q3 H hP hD hS => ?_)
  have hP : va_P D vwCl [(q0, .inr (1, [.ref q1, .ref q2, .int (nI 0), .null, .null, .null, .int 0, .int 0])), (q1, .inl (ct 0, 12, .inl (fun _ => 0))), (q2, .inl (ct 0, 12, .inl (fun _ => 0))), (q3, .inl (ct 0, 12, .inl (fun _ => 0)))] H := hP
  have hD : va_D A [(q0, .inr (1, [.ref q1, .ref q2, .int (nI 0), .null, .null, .null, .int 0, .int 0])), (q1, .inl (ct 0, 12, .inl (fun _ => 0))), (q2, .inl (ct 0, 12, .inl (fun _ => 0))), (q3, .inl (ct 0, 12, .inl (fun _ => 0)))] := hD
  refine va_putF (D := D) (ci := 1) (v := .ref q3) (ty := .array .int) (C := RX1) (T := TX1) (N := 8) hx hb hts hin1 tyX1 tyX1_ok nmX1 hown hE.1 hP hD hS 0 rfl rfl 3 (by decide) (hts (.fieldLink RX1 22 "Homekeys$Student" "keySlips" "[I") (by decide +kernel)) (fun _ h9 => h9) rfl hin rfl (by decide +kernel) rfl rfl (Nat.le_of_ble_eq_true rfl) dX1_init_30 (fun H locs hP hD hS => ?_)
  have hP : va_P D vwCl [(q0, .inr (1, [.ref q1, .ref q2, .int (nI 0), .ref q3, .null, .null, .int 0, .int 0])), (q1, .inl (ct 0, 12, .inl (fun _ => 0))), (q2, .inl (ct 0, 12, .inl (fun _ => 0))), (q3, .inl (ct 0, 12, .inl (fun _ => 0)))] H := hP
  have hD : va_D A [(q0, .inr (1, [.ref q1, .ref q2, .int (nI 0), .ref q3, .null, .null, .int 0, .int 0])), (q1, .inl (ct 0, 12, .inl (fun _ => 0))), (q2, .inl (ct 0, 12, .inl (fun _ => 0))), (q3, .inl (ct 0, 12, .inl (fun _ => 0)))] := hD
  refine lv_aload_n hx hb dX1_init_33 rfl (lv_at hl 0 rfl) ?_
  refine lv_sipush (v := nI 144) hx hb dX1_init_34 (by decide) ?_
  refine hk_newi hx hb (hts (.arrayClass .int) (by decide +kernel)) hE hP hD hS hA (n := 144) (by decide) (by decide) (Nat.le_of_ble_eq_true rfl) (Nat.le_of_ble_eq_true rfl) dX1_init_37 (fun q4 H hP hD hS => ?_)
  have hP : va_P D vwCl [(q0, .inr (1, [.ref q1, .ref q2, .int (nI 0), .ref q3, .null, .null, .int 0, .int 0])), (q1, .inl (ct 0, 12, .inl (fun _ => 0))), (q2, .inl (ct 0, 12, .inl (fun _ => 0))), (q3, .inl (ct 0, 12, .inl (fun _ => 0))), (q4, .inl (ct 0, 144, .inl (fun _ => 0)))] H := hP
  have hD : va_D A [(q0, .inr (1, [.ref q1, .ref q2, .int (nI 0), .ref q3, .null, .null, .int 0, .int 0])), (q1, .inl (ct 0, 12, .inl (fun _ => 0))), (q2, .inl (ct 0, 12, .inl (fun _ => 0))), (q3, .inl (ct 0, 12, .inl (fun _ => 0))), (q4, .inl (ct 0, 144, .inl (fun _ => 0)))] := hD
  refine va_putF (D := D) (ci := 1) (v := .ref q4) (ty := .array .int) (C := RX1) (T := TX1) (N := 8) hx hb hts hin1 tyX1 tyX1_ok nmX1 hown hE.1 hP hD hS 0 rfl rfl 4 (by decide) (hts (.fieldLink RX1 25 "Homekeys$Student" "pairSlips" "[I") (by decide +kernel)) (fun _ h9 => h9) rfl hin rfl (by decide +kernel) rfl rfl (Nat.le_of_ble_eq_true rfl) dX1_init_39 (fun H locs hP hD hS => ?_)
  have hP : va_P D vwCl [(q0, .inr (1, [.ref q1, .ref q2, .int (nI 0), .ref q3, .ref q4, .null, .int 0, .int 0])), (q1, .inl (ct 0, 12, .inl (fun _ => 0))), (q2, .inl (ct 0, 12, .inl (fun _ => 0))), (q3, .inl (ct 0, 12, .inl (fun _ => 0))), (q4, .inl (ct 0, 144, .inl (fun _ => 0)))] H := hP
  have hD : va_D A [(q0, .inr (1, [.ref q1, .ref q2, .int (nI 0), .ref q3, .ref q4, .null, .int 0, .int 0])), (q1, .inl (ct 0, 12, .inl (fun _ => 0))), (q2, .inl (ct 0, 12, .inl (fun _ => 0))), (q3, .inl (ct 0, 12, .inl (fun _ => 0))), (q4, .inl (ct 0, 144, .inl (fun _ => 0)))] := hD
  refine lv_aload_n hx hb dX1_init_42 rfl (lv_at hl 0 rfl) ?_
  refine lv_bipush (v := nI 30) hx hb dX1_init_43 (by decide) ?_
  refine hk_newi hx hb (hts (.arrayClass .int) (by decide +kernel)) hE hP hD hS hA (n := 30) (by decide) (by decide) (Nat.le_of_ble_eq_true rfl) (Nat.le_of_ble_eq_true rfl) dX1_init_45 (fun q5 H hP hD hS => ?_)
  have hP : va_P D vwCl [(q0, .inr (1, [.ref q1, .ref q2, .int (nI 0), .ref q3, .ref q4, .null, .int 0, .int 0])), (q1, .inl (ct 0, 12, .inl (fun _ => 0))), (q2, .inl (ct 0, 12, .inl (fun _ => 0))), (q3, .inl (ct 0, 12, .inl (fun _ => 0))), (q4, .inl (ct 0, 144, .inl (fun _ => 0))), (q5, .inl (ct 0, 30, .inl (fun _ => 0)))] H := hP
  have hD : va_D A [(q0, .inr (1, [.ref q1, .ref q2, .int (nI 0), .ref q3, .ref q4, .null, .int 0, .int 0])), (q1, .inl (ct 0, 12, .inl (fun _ => 0))), (q2, .inl (ct 0, 12, .inl (fun _ => 0))), (q3, .inl (ct 0, 12, .inl (fun _ => 0))), (q4, .inl (ct 0, 144, .inl (fun _ => 0))), (q5, .inl (ct 0, 30, .inl (fun _ => 0)))] := hD
  refine va_putF (D := D) (ci := 1) (v := .ref q5) (ty := .array .int) (C := RX1) (T := TX1) (N := 8) hx hb hts hin1 tyX1 tyX1_ok nmX1 hown hE.1 hP hD hS 0 rfl rfl 5 (by decide) (hts (.fieldLink RX1 28 "Homekeys$Student" "typed" "[I") (by decide +kernel)) (fun _ h9 => h9) rfl hin rfl (by decide +kernel) rfl rfl (Nat.le_of_ble_eq_true rfl) dX1_init_47 (fun H locs hP hD hS => ?_)
  have hP : va_P D vwCl [(q0, .inr (1, [.ref q1, .ref q2, .int (nI 0), .ref q3, .ref q4, .ref q5, .int 0, .int 0])), (q1, .inl (ct 0, 12, .inl (fun _ => 0))), (q2, .inl (ct 0, 12, .inl (fun _ => 0))), (q3, .inl (ct 0, 12, .inl (fun _ => 0))), (q4, .inl (ct 0, 144, .inl (fun _ => 0))), (q5, .inl (ct 0, 30, .inl (fun _ => 0)))] H := hP
  have hD : va_D A [(q0, .inr (1, [.ref q1, .ref q2, .int (nI 0), .ref q3, .ref q4, .ref q5, .int 0, .int 0])), (q1, .inl (ct 0, 12, .inl (fun _ => 0))), (q2, .inl (ct 0, 12, .inl (fun _ => 0))), (q3, .inl (ct 0, 12, .inl (fun _ => 0))), (q4, .inl (ct 0, 144, .inl (fun _ => 0))), (q5, .inl (ct 0, 30, .inl (fun _ => 0)))] := hD
  refine lv_aload_n hx hb dX1_init_50 rfl (lv_at hl 0 rfl) ?_
  refine lv_iconst (v := nI 0) hx hb dX1_init_51 (by decide) ?_
  refine va_put (D := D) (ci := 1) (v := .int (nI 0)) (ty := .int) (C := RX1) (T := TX1) (N := 8) hx hb hts hin1 tyX1 tyX1_ok nmX1 hown hE.1 hP hD hS 0 rfl rfl 6 (by decide) (hts (.fieldLink RX1 31 "Homekeys$Student" "kept" "I") (by decide +kernel)) (fun _ h9 => h9) rfl (by decide +kernel) rfl rfl (Nat.le_of_ble_eq_true rfl) dX1_init_52 (fun H locs hP hD hS => ?_)
  have hP : va_P D vwCl [(q0, .inr (1, [.ref q1, .ref q2, .int (nI 0), .ref q3, .ref q4, .ref q5, .int (nI 0), .int 0])), (q1, .inl (ct 0, 12, .inl (fun _ => 0))), (q2, .inl (ct 0, 12, .inl (fun _ => 0))), (q3, .inl (ct 0, 12, .inl (fun _ => 0))), (q4, .inl (ct 0, 144, .inl (fun _ => 0))), (q5, .inl (ct 0, 30, .inl (fun _ => 0)))] H := hP
  have hD : va_D A [(q0, .inr (1, [.ref q1, .ref q2, .int (nI 0), .ref q3, .ref q4, .ref q5, .int (nI 0), .int 0])), (q1, .inl (ct 0, 12, .inl (fun _ => 0))), (q2, .inl (ct 0, 12, .inl (fun _ => 0))), (q3, .inl (ct 0, 12, .inl (fun _ => 0))), (q4, .inl (ct 0, 144, .inl (fun _ => 0))), (q5, .inl (ct 0, 30, .inl (fun _ => 0)))] := hD
  refine lv_aload_n hx hb dX1_init_55 rfl (lv_at hl 0 rfl) ?_
  refine lv_iconst (v := nI 0) hx hb dX1_init_56 (by decide) ?_
  refine va_put (D := D) (ci := 1) (v := .int (nI 0)) (ty := .int) (C := RX1) (T := TX1) (N := 8) hx hb hts hin1 tyX1 tyX1_ok nmX1 hown hE.1 hP hD hS 0 rfl rfl 7 (by decide) (hts (.fieldLink RX1 34 "Homekeys$Student" "presses" "I") (by decide +kernel)) (fun _ h9 => h9) rfl (by decide +kernel) rfl rfl (Nat.le_of_ble_eq_true rfl) dX1_init_57 (fun H locs hP hD hS => ?_)
  have hP : va_P D vwCl [(q0, .inr (1, [.ref q1, .ref q2, .int (nI 0), .ref q3, .ref q4, .ref q5, .int (nI 0), .int (nI 0)])), (q1, .inl (ct 0, 12, .inl (fun _ => 0))), (q2, .inl (ct 0, 12, .inl (fun _ => 0))), (q3, .inl (ct 0, 12, .inl (fun _ => 0))), (q4, .inl (ct 0, 144, .inl (fun _ => 0))), (q5, .inl (ct 0, 30, .inl (fun _ => 0)))] H := hP
  have hD : va_D A [(q0, .inr (1, [.ref q1, .ref q2, .int (nI 0), .ref q3, .ref q4, .ref q5, .int (nI 0), .int (nI 0)])), (q1, .inl (ct 0, 12, .inl (fun _ => 0))), (q2, .inl (ct 0, 12, .inl (fun _ => 0))), (q3, .inl (ct 0, 12, .inl (fun _ => 0))), (q4, .inl (ct 0, 144, .inl (fun _ => 0))), (q5, .inl (ct 0, 30, .inl (fun _ => 0)))] := hD
  refine lv_iconst (v := nI 0) hx hb dX1_init_60 (by decide) ?_
  refine lv_istore_n (lv' := [(1, .int (nI 0)), (0, .ref q0)]) hx hb dX1_init_61 rfl hl (by decide) rfl (fun ls hl => ?_)
  have hP : va_P D vwCl [(q0, .inr (1, [.ref q1, .ref q2, .int (nI 0), .ref q3, .ref q4, .ref q5, .int (nI 0), .int (nI 0)])), (q1, .inl (ct 0, 12, .inl (fun j => if j < 0 then nI j else 0))), (q2, .inl (ct 0, 12, .inl (fun _ => 0))), (q3, .inl (ct 0, 12, .inl (fun _ => 0))), (q4, .inl (ct 0, 144, .inl (fun _ => 0))), (q5, .inl (ct 0, 30, .inl (fun _ => 0)))] H := by rw [id_0] at hP; exact hP
  have hD : va_D A [(q0, .inr (1, [.ref q1, .ref q2, .int (nI 0), .ref q3, .ref q4, .ref q5, .int (nI 0), .int (nI 0)])), (q1, .inl (ct 0, 12, .inl (fun j => if j < 0 then nI j else 0))), (q2, .inl (ct 0, 12, .inl (fun _ => 0))), (q3, .inl (ct 0, 12, .inl (fun _ => 0))), (q4, .inl (ct 0, 144, .inl (fun _ => 0))), (q5, .inl (ct 0, 30, .inl (fun _ => 0)))] := by rw [id_0] at hD; exact hD
  have hP : va_P D vwCl [(q0, .inr (1, [.ref q1, .ref q2, .int (nI 0), .ref q3, .ref q4, .ref q5, .int (nI 0), .int (nI 0)])), (q1, .inl (ct 0, 12, .inl (fun j => if j < 0 then nI j else 0))), (q2, .inl (ct 0, 12, .inl (fun j => if j < 0 then nI j else 0))), (q3, .inl (ct 0, 12, .inl (fun _ => 0))), (q4, .inl (ct 0, 144, .inl (fun _ => 0))), (q5, .inl (ct 0, 30, .inl (fun _ => 0)))] H := by rw [id_0] at hP; exact hP
  have hD : va_D A [(q0, .inr (1, [.ref q1, .ref q2, .int (nI 0), .ref q3, .ref q4, .ref q5, .int (nI 0), .int (nI 0)])), (q1, .inl (ct 0, 12, .inl (fun j => if j < 0 then nI j else 0))), (q2, .inl (ct 0, 12, .inl (fun j => if j < 0 then nI j else 0))), (q3, .inl (ct 0, 12, .inl (fun _ => 0))), (q4, .inl (ct 0, 144, .inl (fun _ => 0))), (q5, .inl (ct 0, 30, .inl (fun _ => 0)))] := by rw [id_0] at hD; exact hD
  have loop : ∀ (k : Nat) (i : Nat), 12 < i + k → i ≤ 12 → ∀ (H : Heap) (locs : List Loc), va_P D vwCl [(q0, .inr (1, [.ref q1, .ref q2, .int (nI 0), .ref q3, .ref q4, .ref q5, .int (nI 0), .int (nI 0)])), (q1, .inl (ct 0, 12, .inl (fun j => if j < i then nI j else 0))), (q2, .inl (ct 0, 12, .inl (fun j => if j < i then nI j else 0))), (q3, .inl (ct 0, 12, .inl (fun _ => 0))), (q4, .inl (ct 0, 144, .inl (fun _ => 0))), (q5, .inl (ct 0, 30, .inl (fun _ => 0)))] H → va_D A [(q0, .inr (1, [.ref q1, .ref q2, .int (nI 0), .ref q3, .ref q4, .ref q5, .int (nI 0), .int (nI 0)])), (q1, .inl (ct 0, 12, .inl (fun j => if j < i then nI j else 0))), (q2, .inl (ct 0, 12, .inl (fun j => if j < i then nI j else 0))), (q3, .inl (ct 0, 12, .inl (fun _ => 0))), (q4, .inl (ct 0, 144, .inl (fun _ => 0))), (q5, .inl (ct 0, 30, .inl (fun _ => 0)))] → va_S A s.heap H locs → ∀ (ls : Array Slot), lv_has ls 2 [(0, .ref q0), (1, .int (nI i))] → W p l e (headSpec wsX1_init ({ frames := 1, cells := 5, slots := 210, locals := 22 })).room s m ([.ref q0] : List Value).toArray below meth c H locs 5 210 (MQ below (va_Qv (fun _ : Nat × Nat × Nat × Nat × Nat => True) (hkB D A (fun u => [(q0, .inr (1, [.ref u.1, .ref u.2.1, .int (nI 0), .ref u.2.2.1, .ref u.2.2.2.1, .ref u.2.2.2.2, .int (nI 0), .int (nI 0)])), (u.1, .inl (ct 0, 12, .inl (fun j => if j < 12 then nI j else 0))), (u.2.1, .inl (ct 0, 12, .inl (fun j => if j < 12 then nI j else 0))), (u.2.2.1, .inl (ct 0, 12, .inl (fun _ => 0))), (u.2.2.2.1, .inl (ct 0, 144, .inl (fun _ => 0))), (u.2.2.2.2, .inl (ct 0, 30, .inl (fun _ => 0)))])) A) ([.ref q0] : List Value).toArray s 5 210 A) (F0 m 62 ls []) := by
    intro k
    induction k with
    | zero => intro i hk; intros; exact absurd hk (by omega)
    | succ k ih_loop =>
      intro i hk hi H locs hP hD hS ls hl
      refine lv_iload_n hx hb dX1_init_62 rfl (lv_at hl 1 rfl) ?_
      refine lv_bipush (v := nI 12) hx hb dX1_init_63 (by decide) ?_
      refine hk_geN (tgt := 92) hx hb (by omega) (by omega) dX1_init_65 (by decide) (fun hc => ?_) (fun hc => ?_)
      · obtain rfl : i = 12 := by omega
        have hP9 : va_P D vwCl [(q0, .inr (1, [.ref q1, .ref q2, .int (nI 0), .ref q3, .ref q4, .ref q5, .int (nI 0), .int (nI 0)])), (q1, .inl (ct 0, 12, .inl (fun j => if j < 12 then nI j else 0))), (q2, .inl (ct 0, 12, .inl (fun j => if j < 12 then nI j else 0))), (q3, .inl (ct 0, 12, .inl (fun _ => 0))), (q4, .inl (ct 0, 144, .inl (fun _ => 0))), (q5, .inl (ct 0, 30, .inl (fun _ => 0)))] H := hP
        have hD9 : va_D A [(q0, .inr (1, [.ref q1, .ref q2, .int (nI 0), .ref q3, .ref q4, .ref q5, .int (nI 0), .int (nI 0)])), (q1, .inl (ct 0, 12, .inl (fun j => if j < 12 then nI j else 0))), (q2, .inl (ct 0, 12, .inl (fun j => if j < 12 then nI j else 0))), (q3, .inl (ct 0, 12, .inl (fun _ => 0))), (q4, .inl (ct 0, 144, .inl (fun _ => 0))), (q5, .inl (ct 0, 30, .inl (fun _ => 0)))] := hD
        exact W.vret hx hb hr (fun t ht hW => ⟨⟨(q1, q2, q3, q4, q5), rfl, trivial, by rw [ht]; exact hP9, hD9⟩, hS.F ht⟩) hS.2.2 dX1_init_92
      · refine lv_aload_n hx hb dX1_init_68 rfl (lv_at hl 0 rfl) ?_
        refine va_get (D := D) (ci := 1) (v := .ref q1) (C := RX1) (T := TX1) (N := 8) hx hb hts hin1 hown hE.1 hP 0 rfl rfl 0 (by decide) (hts (.fieldLink RX1 9 "Homekeys$Student" "keys" "[I") (by decide +kernel)) (fun _ h9 => h9) rfl dX1_init_69 ?_
        refine lv_iload_n hx hb dX1_init_72 rfl (lv_at hl 1 rfl) ?_
        refine lv_iload_n hx hb dX1_init_73 rfl (lv_at hl 1 rfl) ?_
        refine hk_M (rest := []) (va_Run.run (va_runSN (host := RX2) (As := [.ref q1, .int (nI i), .int (nI i)]) (rest := []) ⟨hx, hb, hml, hown, hts⟩ (c_X2_put l D ct sa q1 12 (fun j => if j < i then nI j else 0) i (nI i) (by decide) (by omega)) ⟨va_cnB 3 hts gX1_init_X2_put_n37 rfl rfl rfl (hE.nw hkN_X1_37) (hts (.initialized RX2) (by decide +kernel)) (by decide +kernel) ⟨Nat.le_of_ble_eq_true rfl, Nat.le_of_ble_eq_true rfl⟩, hts (.static yX2_put) (by decide +kernel), trivial⟩ (hk_preS hE ⟨hP.sub (ws' := [(q1, .inl (ct 0, 12, .inl (fun j => if j < i then nI j else 0)))]) [1] rfl, (hD.sub (ws' := [(q1, .inl (ct 0, 12, .inl (fun j => if j < i then nI j else 0)))]) [1] (by decide) rfl).weaken (fun _ _ _ _ => trivial)⟩) rfl rfl hl.1 rfl (lv_room (Nat.le_of_ble_eq_true rfl)) dX1_init_74 ⟨Nat.le_of_ble_eq_true rfl, Nat.le_of_ble_eq_true rfl⟩)) hP hD hS [1] (wc := [(q1, .inl (ct 0, 12, .inl (fun j => if j < i then nI j else 0)))]) rfl rfl rfl (fun H locs hP hD hS => ?_)
        have hP : va_P D vwCl [(q0, .inr (1, [.ref q1, .ref q2, .int (nI 0), .ref q3, .ref q4, .ref q5, .int (nI 0), .int (nI 0)])), (q1, .inl (ct 0, 12, .inl (upd (fun j => if j < i then nI j else 0) i (nI i)))), (q2, .inl (ct 0, 12, .inl (fun j => if j < i then nI j else 0))), (q3, .inl (ct 0, 12, .inl (fun _ => 0))), (q4, .inl (ct 0, 144, .inl (fun _ => 0))), (q5, .inl (ct 0, 30, .inl (fun _ => 0)))] H := hP
        have hD : va_D A [(q0, .inr (1, [.ref q1, .ref q2, .int (nI 0), .ref q3, .ref q4, .ref q5, .int (nI 0), .int (nI 0)])), (q1, .inl (ct 0, 12, .inl (upd (fun j => if j < i then nI j else 0) i (nI i)))), (q2, .inl (ct 0, 12, .inl (fun j => if j < i then nI j else 0))), (q3, .inl (ct 0, 12, .inl (fun _ => 0))), (q4, .inl (ct 0, 144, .inl (fun _ => 0))), (q5, .inl (ct 0, 30, .inl (fun _ => 0)))] := hD
        refine lv_aload_n hx hb dX1_init_77 rfl (lv_at hl 0 rfl) ?_
        refine va_get (D := D) (ci := 1) (v := .ref q2) (C := RX1) (T := TX1) (N := 8) hx hb hts hin1 hown hE.1 hP 0 rfl rfl 1 (by decide) (hts (.fieldLink RX1 15 "Homekeys$Student" "letters" "[I") (by decide +kernel)) (fun _ h9 => h9) rfl dX1_init_78 ?_
        refine lv_iload_n hx hb dX1_init_81 rfl (lv_at hl 1 rfl) ?_
        refine lv_iload_n hx hb dX1_init_82 rfl (lv_at hl 1 rfl) ?_
        refine hk_M (rest := []) (va_Run.run (va_runSN (host := RX2) (As := [.ref q2, .int (nI i), .int (nI i)]) (rest := []) ⟨hx, hb, hml, hown, hts⟩ (c_X2_put l D ct sa q2 12 (fun j => if j < i then nI j else 0) i (nI i) (by decide) (by omega)) ⟨va_cnB 3 hts gX1_init_X2_put_n37 rfl rfl rfl (hE.nw hkN_X1_37) (hts (.initialized RX2) (by decide +kernel)) (by decide +kernel) ⟨Nat.le_of_ble_eq_true rfl, Nat.le_of_ble_eq_true rfl⟩, hts (.static yX2_put) (by decide +kernel), trivial⟩ (hk_preS hE ⟨hP.sub (ws' := [(q2, .inl (ct 0, 12, .inl (fun j => if j < i then nI j else 0)))]) [2] rfl, (hD.sub (ws' := [(q2, .inl (ct 0, 12, .inl (fun j => if j < i then nI j else 0)))]) [2] (by decide) rfl).weaken (fun _ _ _ _ => trivial)⟩) rfl rfl hl.1 rfl (lv_room (Nat.le_of_ble_eq_true rfl)) dX1_init_83 ⟨Nat.le_of_ble_eq_true rfl, Nat.le_of_ble_eq_true rfl⟩)) hP hD hS [2] (wc := [(q2, .inl (ct 0, 12, .inl (fun j => if j < i then nI j else 0)))]) rfl rfl rfl (fun H locs hP hD hS => ?_)
        have hP : va_P D vwCl [(q0, .inr (1, [.ref q1, .ref q2, .int (nI 0), .ref q3, .ref q4, .ref q5, .int (nI 0), .int (nI 0)])), (q1, .inl (ct 0, 12, .inl (upd (fun j => if j < i then nI j else 0) i (nI i)))), (q2, .inl (ct 0, 12, .inl (upd (fun j => if j < i then nI j else 0) i (nI i)))), (q3, .inl (ct 0, 12, .inl (fun _ => 0))), (q4, .inl (ct 0, 144, .inl (fun _ => 0))), (q5, .inl (ct 0, 30, .inl (fun _ => 0)))] H := hP
        have hD : va_D A [(q0, .inr (1, [.ref q1, .ref q2, .int (nI 0), .ref q3, .ref q4, .ref q5, .int (nI 0), .int (nI 0)])), (q1, .inl (ct 0, 12, .inl (upd (fun j => if j < i then nI j else 0) i (nI i)))), (q2, .inl (ct 0, 12, .inl (upd (fun j => if j < i then nI j else 0) i (nI i)))), (q3, .inl (ct 0, 12, .inl (fun _ => 0))), (q4, .inl (ct 0, 144, .inl (fun _ => 0))), (q5, .inl (ct 0, 30, .inl (fun _ => 0)))] := hD
        have hP : va_P D vwCl [(q0, .inr (1, [.ref q1, .ref q2, .int (nI 0), .ref q3, .ref q4, .ref q5, .int (nI 0), .int (nI 0)])), (q1, .inl (ct 0, 12, .inl (fun j => if j < (i + 1) then nI j else 0))), (q2, .inl (ct 0, 12, .inl (fun j => if j < (i + 1) then nI j else 0))), (q3, .inl (ct 0, 12, .inl (fun _ => 0))), (q4, .inl (ct 0, 144, .inl (fun _ => 0))), (q5, .inl (ct 0, 30, .inl (fun _ => 0)))] H := by rw [id_s i] at hP; exact hP
        have hD : va_D A [(q0, .inr (1, [.ref q1, .ref q2, .int (nI 0), .ref q3, .ref q4, .ref q5, .int (nI 0), .int (nI 0)])), (q1, .inl (ct 0, 12, .inl (fun j => if j < (i + 1) then nI j else 0))), (q2, .inl (ct 0, 12, .inl (fun j => if j < (i + 1) then nI j else 0))), (q3, .inl (ct 0, 12, .inl (fun _ => 0))), (q4, .inl (ct 0, 144, .inl (fun _ => 0))), (q5, .inl (ct 0, 30, .inl (fun _ => 0)))] := by rw [id_s i] at hD; exact hD
        refine lv_iinc (v := nI (i + 1)) (lv' := [(1, .int (nI (i + 1))), (0, .ref q0)]) hx hb dX1_init_86 hl (k := 1) rfl (nI_add _ _) (by decide) rfl (fun ls hl => ?_)
        refine lv_goto (tgt := 62) hx hb dX1_init_89 (by decide) ?_
        exact ih_loop (i + 1) (by omega) (by omega) H locs hP hD hS ls (lv_sub hl [1, 0] rfl)
  exact loop 13 0 (by omega) (by omega) H locs hP hD hS ls (lv_sub hl [1, 0] rfl)
end
