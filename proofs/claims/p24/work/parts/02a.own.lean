/-! my own rows: the surroundings of every method (hkE), the forms of contracts, calls, arrays -/
abbrev hkT (ct : Nat → ClassId) : List (ClassId × FieldType) := [(ct 0, .int), (ct 1, .object RX1), (ct 2, .object RX0)]
def hkN : List Cond := [.methodLinkNest RX2 32 yX1_init RX2, .methodLinkNest RX1 37 yX2_put RX2, .methodLinkNest RX2 56 yX1_savedBy RX2, .methodLinkNest RX1 66 yX2_textTime RX2, .methodLinkNest RX2 60 yX1_exchange RX2, .methodLinkNest RX1 41 yX2_at RX2, .methodLinkNest RX2 80 yX1_type RX2, .methodLinkNest RX1 45 yX2_count RX2, .methodLinkNest RX1 49 yX2_pairPlace RX2, .methodLinkNest RX2 90 yX1_slipsOf RX2, .methodLinkNest RX1 63 yX2_groupOf RX2, .methodLinkNest RX2 113 yX1_timeWith RX2, .methodLinkNest RX2 125 yX1_bestExchange RX2, .methodLinkNest RX2 193 yX0_init RX2, .methodLinkNest RX2 156 yX0_hasResult RX2, .methodLinkNest RX0 21 yX2_at RX2, .methodLinkNest RX2 170 yX0_told RX2, .methodLinkNest RX2 116 yX1_timeByCounts RX2, .methodLinkNest RX1 78 yX2_stepTime RX2, .methodLinkNest RX2 122 yX1_slippingLetter RX2, .methodLinkNest RX2 175 yX0_holderOf RX2, .fieldLinkNest RX2 67 "Homekeys$Student" "keys" "[I" RX2, .fieldLinkNest RX2 77 "Homekeys$Student" "letters" "[I" RX2, .fieldLinkNest RX2 49 "Homekeys$Student" "way" "I" RX2, .fieldLinkNest RX2 93 "Homekeys$Student" "pairSlips" "[I" RX2, .fieldLinkNest RX2 110 "Homekeys$Student" "typed" "[I" RX2, .fieldLinkNest RX2 107 "Homekeys$Student" "kept" "I" RX2, .fieldLinkNest RX2 99 "Homekeys$Student" "presses" "I" RX2, .fieldLinkNest RX2 182 "Homekeys$Contest" "times" "[I" RX2, .fieldLinkNest RX2 162 "Homekeys$Contest" "ticks" "[I" RX2, .fieldLinkNest RX2 165 "Homekeys$Contest" "scores" "[I" RX2, .castable "java/lang/IllegalStateException" "java/lang/IllegalStateException", .castable "java/lang/IndexOutOfBoundsException" "java/lang/IndexOutOfBoundsException", .castable "java/lang/IllegalArgumentException" "java/lang/IllegalArgumentException", .declares ⟨"java/lang/RuntimeException", "<init>", "(Ljava/lang/String;)V"⟩, .declares ⟨"java/lang/Exception", "<init>", "(Ljava/lang/String;)V"⟩, .declares ⟨"java/lang/Throwable", "<init>", "(Ljava/lang/String;)V"⟩]
def hkWarm (w : Cond) : Prop := w.onTables = true ∧ ∀ s U : State, s.WarmedH U.vm → va_Nw w s → va_Nw w U
theorem hkN_w0 : hkWarm (.methodLinkNest RX2 32 yX1_init RX2) := ⟨rfl, fun _ _ hW h => va_Nw.warmM hW h⟩
theorem hkN_w1 : hkWarm (.methodLinkNest RX1 37 yX2_put RX2) := ⟨rfl, fun _ _ hW h => va_Nw.warmM hW h⟩
theorem hkN_w2 : hkWarm (.methodLinkNest RX2 56 yX1_savedBy RX2) := ⟨rfl, fun _ _ hW h => va_Nw.warmM hW h⟩
theorem hkN_w3 : hkWarm (.methodLinkNest RX1 66 yX2_textTime RX2) := ⟨rfl, fun _ _ hW h => va_Nw.warmM hW h⟩
theorem hkN_w4 : hkWarm (.methodLinkNest RX2 60 yX1_exchange RX2) := ⟨rfl, fun _ _ hW h => va_Nw.warmM hW h⟩
theorem hkN_w5 : hkWarm (.methodLinkNest RX1 41 yX2_at RX2) := ⟨rfl, fun _ _ hW h => va_Nw.warmM hW h⟩
theorem hkN_w6 : hkWarm (.methodLinkNest RX2 80 yX1_type RX2) := ⟨rfl, fun _ _ hW h => va_Nw.warmM hW h⟩
theorem hkN_w7 : hkWarm (.methodLinkNest RX1 45 yX2_count RX2) := ⟨rfl, fun _ _ hW h => va_Nw.warmM hW h⟩
theorem hkN_w8 : hkWarm (.methodLinkNest RX1 49 yX2_pairPlace RX2) := ⟨rfl, fun _ _ hW h => va_Nw.warmM hW h⟩
theorem hkN_w9 : hkWarm (.methodLinkNest RX2 90 yX1_slipsOf RX2) := ⟨rfl, fun _ _ hW h => va_Nw.warmM hW h⟩
theorem hkN_w10 : hkWarm (.methodLinkNest RX1 63 yX2_groupOf RX2) := ⟨rfl, fun _ _ hW h => va_Nw.warmM hW h⟩
theorem hkN_w11 : hkWarm (.methodLinkNest RX2 113 yX1_timeWith RX2) := ⟨rfl, fun _ _ hW h => va_Nw.warmM hW h⟩
theorem hkN_w12 : hkWarm (.methodLinkNest RX2 125 yX1_bestExchange RX2) := ⟨rfl, fun _ _ hW h => va_Nw.warmM hW h⟩
theorem hkN_w13 : hkWarm (.methodLinkNest RX2 193 yX0_init RX2) := ⟨rfl, fun _ _ hW h => va_Nw.warmM hW h⟩
theorem hkN_w14 : hkWarm (.methodLinkNest RX2 156 yX0_hasResult RX2) := ⟨rfl, fun _ _ hW h => va_Nw.warmM hW h⟩
theorem hkN_w15 : hkWarm (.methodLinkNest RX0 21 yX2_at RX2) := ⟨rfl, fun _ _ hW h => va_Nw.warmM hW h⟩
theorem hkN_w16 : hkWarm (.methodLinkNest RX2 170 yX0_told RX2) := ⟨rfl, fun _ _ hW h => va_Nw.warmM hW h⟩
theorem hkN_w17 : hkWarm (.methodLinkNest RX2 116 yX1_timeByCounts RX2) := ⟨rfl, fun _ _ hW h => va_Nw.warmM hW h⟩
theorem hkN_w18 : hkWarm (.methodLinkNest RX1 78 yX2_stepTime RX2) := ⟨rfl, fun _ _ hW h => va_Nw.warmM hW h⟩
theorem hkN_w19 : hkWarm (.methodLinkNest RX2 122 yX1_slippingLetter RX2) := ⟨rfl, fun _ _ hW h => va_Nw.warmM hW h⟩
theorem hkN_w20 : hkWarm (.methodLinkNest RX2 175 yX0_holderOf RX2) := ⟨rfl, fun _ _ hW h => va_Nw.warmM hW h⟩
theorem hkN_w21 : hkWarm (.fieldLinkNest RX2 67 "Homekeys$Student" "keys" "[I" RX2) := ⟨rfl, fun _ _ hW h => va_Nw.warmF hW h⟩
theorem hkN_w22 : hkWarm (.fieldLinkNest RX2 77 "Homekeys$Student" "letters" "[I" RX2) := ⟨rfl, fun _ _ hW h => va_Nw.warmF hW h⟩
theorem hkN_w23 : hkWarm (.fieldLinkNest RX2 49 "Homekeys$Student" "way" "I" RX2) := ⟨rfl, fun _ _ hW h => va_Nw.warmF hW h⟩
theorem hkN_w24 : hkWarm (.fieldLinkNest RX2 93 "Homekeys$Student" "pairSlips" "[I" RX2) := ⟨rfl, fun _ _ hW h => va_Nw.warmF hW h⟩
theorem hkN_w25 : hkWarm (.fieldLinkNest RX2 110 "Homekeys$Student" "typed" "[I" RX2) := ⟨rfl, fun _ _ hW h => va_Nw.warmF hW h⟩
theorem hkN_w26 : hkWarm (.fieldLinkNest RX2 107 "Homekeys$Student" "kept" "I" RX2) := ⟨rfl, fun _ _ hW h => va_Nw.warmF hW h⟩
theorem hkN_w27 : hkWarm (.fieldLinkNest RX2 99 "Homekeys$Student" "presses" "I" RX2) := ⟨rfl, fun _ _ hW h => va_Nw.warmF hW h⟩
theorem hkN_w28 : hkWarm (.fieldLinkNest RX2 182 "Homekeys$Contest" "times" "[I" RX2) := ⟨rfl, fun _ _ hW h => va_Nw.warmF hW h⟩
theorem hkN_w29 : hkWarm (.fieldLinkNest RX2 162 "Homekeys$Contest" "ticks" "[I" RX2) := ⟨rfl, fun _ _ hW h => va_Nw.warmF hW h⟩
theorem hkN_w30 : hkWarm (.fieldLinkNest RX2 165 "Homekeys$Contest" "scores" "[I" RX2) := ⟨rfl, fun _ _ hW h => va_Nw.warmF hW h⟩
theorem hkN_w31 : hkWarm (.castable "java/lang/IllegalStateException" "java/lang/IllegalStateException") := ⟨rfl, fun _ _ hW h => va_Nw.warmC hW h⟩
theorem hkN_w32 : hkWarm (.castable "java/lang/IndexOutOfBoundsException" "java/lang/IndexOutOfBoundsException") := ⟨rfl, fun _ _ hW h => va_Nw.warmC hW h⟩
theorem hkN_w33 : hkWarm (.castable "java/lang/IllegalArgumentException" "java/lang/IllegalArgumentException") := ⟨rfl, fun _ _ hW h => va_Nw.warmC hW h⟩
theorem hkN_w34 : hkWarm (.declares ⟨"java/lang/RuntimeException", "<init>", "(Ljava/lang/String;)V"⟩) := ⟨rfl, fun _ _ hW h => va_Nw.warmD hW h⟩
theorem hkN_w35 : hkWarm (.declares ⟨"java/lang/Exception", "<init>", "(Ljava/lang/String;)V"⟩) := ⟨rfl, fun _ _ hW h => va_Nw.warmD hW h⟩
theorem hkN_w36 : hkWarm (.declares ⟨"java/lang/Throwable", "<init>", "(Ljava/lang/String;)V"⟩) := ⟨rfl, fun _ _ hW h => va_Nw.warmD hW h⟩
theorem hkN_warm : ∀ w ∈ hkN, hkWarm w := by
  intro w hw
  simp only [hkN, List.mem_cons, List.not_mem_nil, or_false] at hw
  rcases hw with rfl | rfl | rfl | rfl | rfl | rfl | rfl | rfl | rfl | rfl | rfl | rfl | rfl | rfl | rfl | rfl | rfl | rfl | rfl | rfl | rfl | rfl | rfl | rfl | rfl | rfl | rfl | rfl | rfl | rfl | rfl | rfl | rfl | rfl | rfl | rfl | rfl
  · exact hkN_w0
  · exact hkN_w1
  · exact hkN_w2
  · exact hkN_w3
  · exact hkN_w4
  · exact hkN_w5
  · exact hkN_w6
  · exact hkN_w7
  · exact hkN_w8
  · exact hkN_w9
  · exact hkN_w10
  · exact hkN_w11
  · exact hkN_w12
  · exact hkN_w13
  · exact hkN_w14
  · exact hkN_w15
  · exact hkN_w16
  · exact hkN_w17
  · exact hkN_w18
  · exact hkN_w19
  · exact hkN_w20
  · exact hkN_w21
  · exact hkN_w22
  · exact hkN_w23
  · exact hkN_w24
  · exact hkN_w25
  · exact hkN_w26
  · exact hkN_w27
  · exact hkN_w28
  · exact hkN_w29
  · exact hkN_w30
  · exact hkN_w31
  · exact hkN_w32
  · exact hkN_w33
  · exact hkN_w34
  · exact hkN_w35
  · exact hkN_w36
theorem hkN_X2_32 : (.methodLinkNest RX2 32 yX1_init RX2 : Cond) ∈ hkN := List.mem_of_getElem? (i := 0) rfl
theorem hkN_X1_37 : (.methodLinkNest RX1 37 yX2_put RX2 : Cond) ∈ hkN := List.mem_of_getElem? (i := 1) rfl
theorem hkN_X2_56 : (.methodLinkNest RX2 56 yX1_savedBy RX2 : Cond) ∈ hkN := List.mem_of_getElem? (i := 2) rfl
theorem hkN_X1_66 : (.methodLinkNest RX1 66 yX2_textTime RX2 : Cond) ∈ hkN := List.mem_of_getElem? (i := 3) rfl
theorem hkN_X2_60 : (.methodLinkNest RX2 60 yX1_exchange RX2 : Cond) ∈ hkN := List.mem_of_getElem? (i := 4) rfl
theorem hkN_X1_41 : (.methodLinkNest RX1 41 yX2_at RX2 : Cond) ∈ hkN := List.mem_of_getElem? (i := 5) rfl
theorem hkN_X2_80 : (.methodLinkNest RX2 80 yX1_type RX2 : Cond) ∈ hkN := List.mem_of_getElem? (i := 6) rfl
theorem hkN_X1_45 : (.methodLinkNest RX1 45 yX2_count RX2 : Cond) ∈ hkN := List.mem_of_getElem? (i := 7) rfl
theorem hkN_X1_49 : (.methodLinkNest RX1 49 yX2_pairPlace RX2 : Cond) ∈ hkN := List.mem_of_getElem? (i := 8) rfl
theorem hkN_X2_90 : (.methodLinkNest RX2 90 yX1_slipsOf RX2 : Cond) ∈ hkN := List.mem_of_getElem? (i := 9) rfl
theorem hkN_X1_63 : (.methodLinkNest RX1 63 yX2_groupOf RX2 : Cond) ∈ hkN := List.mem_of_getElem? (i := 10) rfl
theorem hkN_X2_113 : (.methodLinkNest RX2 113 yX1_timeWith RX2 : Cond) ∈ hkN := List.mem_of_getElem? (i := 11) rfl
theorem hkN_X2_125 : (.methodLinkNest RX2 125 yX1_bestExchange RX2 : Cond) ∈ hkN := List.mem_of_getElem? (i := 12) rfl
theorem hkN_X2_193 : (.methodLinkNest RX2 193 yX0_init RX2 : Cond) ∈ hkN := List.mem_of_getElem? (i := 13) rfl
theorem hkN_X2_156 : (.methodLinkNest RX2 156 yX0_hasResult RX2 : Cond) ∈ hkN := List.mem_of_getElem? (i := 14) rfl
theorem hkN_X0_21 : (.methodLinkNest RX0 21 yX2_at RX2 : Cond) ∈ hkN := List.mem_of_getElem? (i := 15) rfl
theorem hkN_X2_170 : (.methodLinkNest RX2 170 yX0_told RX2 : Cond) ∈ hkN := List.mem_of_getElem? (i := 16) rfl
theorem hkN_X2_116 : (.methodLinkNest RX2 116 yX1_timeByCounts RX2 : Cond) ∈ hkN := List.mem_of_getElem? (i := 17) rfl
theorem hkN_X1_78 : (.methodLinkNest RX1 78 yX2_stepTime RX2 : Cond) ∈ hkN := List.mem_of_getElem? (i := 18) rfl
theorem hkN_X2_122 : (.methodLinkNest RX2 122 yX1_slippingLetter RX2 : Cond) ∈ hkN := List.mem_of_getElem? (i := 19) rfl
theorem hkN_X2_175 : (.methodLinkNest RX2 175 yX0_holderOf RX2 : Cond) ∈ hkN := List.mem_of_getElem? (i := 20) rfl
theorem hkN_X2_67 : (.fieldLinkNest RX2 67 "Homekeys$Student" "keys" "[I" RX2 : Cond) ∈ hkN := List.mem_of_getElem? (i := 21) rfl
theorem hkN_X2_77 : (.fieldLinkNest RX2 77 "Homekeys$Student" "letters" "[I" RX2 : Cond) ∈ hkN := List.mem_of_getElem? (i := 22) rfl
theorem hkN_X2_49 : (.fieldLinkNest RX2 49 "Homekeys$Student" "way" "I" RX2 : Cond) ∈ hkN := List.mem_of_getElem? (i := 23) rfl
theorem hkN_X2_93 : (.fieldLinkNest RX2 93 "Homekeys$Student" "pairSlips" "[I" RX2 : Cond) ∈ hkN := List.mem_of_getElem? (i := 24) rfl
theorem hkN_X2_110 : (.fieldLinkNest RX2 110 "Homekeys$Student" "typed" "[I" RX2 : Cond) ∈ hkN := List.mem_of_getElem? (i := 25) rfl
theorem hkN_X2_107 : (.fieldLinkNest RX2 107 "Homekeys$Student" "kept" "I" RX2 : Cond) ∈ hkN := List.mem_of_getElem? (i := 26) rfl
theorem hkN_X2_99 : (.fieldLinkNest RX2 99 "Homekeys$Student" "presses" "I" RX2 : Cond) ∈ hkN := List.mem_of_getElem? (i := 27) rfl
theorem hkN_X2_182 : (.fieldLinkNest RX2 182 "Homekeys$Contest" "times" "[I" RX2 : Cond) ∈ hkN := List.mem_of_getElem? (i := 28) rfl
theorem hkN_X2_162 : (.fieldLinkNest RX2 162 "Homekeys$Contest" "ticks" "[I" RX2 : Cond) ∈ hkN := List.mem_of_getElem? (i := 29) rfl
theorem hkN_X2_165 : (.fieldLinkNest RX2 165 "Homekeys$Contest" "scores" "[I" RX2 : Cond) ∈ hkN := List.mem_of_getElem? (i := 30) rfl
theorem hkN_c0 : (.castable "java/lang/IllegalStateException" "java/lang/IllegalStateException" : Cond) ∈ hkN := List.mem_of_getElem? (i := 31) rfl
theorem hkN_c1 : (.castable "java/lang/IndexOutOfBoundsException" "java/lang/IndexOutOfBoundsException" : Cond) ∈ hkN := List.mem_of_getElem? (i := 32) rfl
theorem hkN_c2 : (.castable "java/lang/IllegalArgumentException" "java/lang/IllegalArgumentException" : Cond) ∈ hkN := List.mem_of_getElem? (i := 33) rfl
def hkS : List (String × Nat × String × Nat) := [(RX2, 35, "there are 5 students", 0), (RX2, 178, "no such student", 1), (RX2, 46, "way is out of range", 2), (RX2, 189, "no such key", 3), (RX2, 191, "both keys are the same", 4), (RX2, 187, "no such letter", 5), (RX2, 88, "what or which is out of range", 6), (RX2, 129, "the draft has 24 letters", 7), (RX2, 135, "the draft is empty", 8), (RX2, 137, "there are no students", 9), (RX2, 143, "there were 6 contests", 10), (RX2, 180, "no such contest", 11), (RX2, 185, "no such student of the contest", 12), (RX2, 154, "ticks is out of range", 13), (RX2, 160, "it has a result", 14), (RX2, 168, "what is out of range", 15), (RX2, 120, "no such place", 16), (RX2, 173, "rank is below 0", 17), (RX2, 104, "place is below 0", 18)]
def hkC : List (String × String) := [("java/lang/IllegalStateException", "java/lang/IndexOutOfBoundsException"), ("java/lang/IllegalStateException", "java/lang/IllegalArgumentException"), ("java/lang/IndexOutOfBoundsException", "java/lang/IllegalStateException"), ("java/lang/IndexOutOfBoundsException", "java/lang/IllegalArgumentException"), ("java/lang/IllegalArgumentException", "java/lang/IllegalStateException"), ("java/lang/IllegalArgumentException", "java/lang/IndexOutOfBoundsException")]
/-- what a method may know of the machine besides its own words: classes, arrays, private members of nest mates, texts, classes that don't catch -/
def hkE (D : va_G) (ct : Nat → ClassId) (sa : Nat → Nat) (U : State) : Prop :=
  va_K D vwCl (hkT ct) U ∧ (∀ w ∈ hkN, va_Nw w U) ∧ (∀ q ∈ hkS, vk_R q.1 q.2.1 q.2.2.1 (sa q.2.2.2) U) ∧ (∀ q ∈ hkC, va_Nc q.1 q.2 U) ∧ va_AO RX1 U ∧ va_AO RX0 U
theorem hkE.warm {D : va_G} {ct : Nat → ClassId} {sa : Nat → Nat} {s U : State} (hW : s.WarmedH U.vm) (h : hkE D ct sa s) : hkE D ct sa U :=
  ⟨va_K.moved hW.alike h.1, fun w hw => (hkN_warm w hw).2 s U hW (h.2.1 w hw), fun q hq => vk_R.warm hW (h.2.2.1 q hq), fun q hq => va_Nc.moved hW.alike (h.2.2.2.1 q hq), va_AO.moved hW.alike h.2.2.2.2.1, va_AO.moved hW.alike h.2.2.2.2.2⟩
theorem hkE.same {D : va_G} {ct : Nat → ClassId} {sa : Nat → Nat} {s U : State} (hv : s.vm = U.vm) (h : hkE D ct sa s) : hkE D ct sa U :=
  ⟨va_K.moved (by rw [← hv]; exact Vm.Alike.refl _) h.1, fun w hw => va_Nw.same (hkN_warm w hw).1 hv (h.2.1 w hw), fun q hq => vk_R.same hv.symm (h.2.2.1 q hq), fun q hq => va_Nc.moved (by rw [← hv]; exact Vm.Alike.refl _) (h.2.2.2.1 q hq), va_AO.moved (by rw [← hv]; exact Vm.Alike.refl _) h.2.2.2.2.1, va_AO.moved (by rw [← hv]; exact Vm.Alike.refl _) h.2.2.2.2.2⟩
theorem hkE.nw {D : va_G} {ct : Nat → ClassId} {sa : Nat → Nat} {s : State} {w : Cond} (h : hkE D ct sa s) (hw : w ∈ hkN) : va_Nw w s := h.2.1 w hw
theorem hkE.use {D : va_G} {ct : Nat → ClassId} {sa : Nat → Nat} {s : State} {w : Cond} {A : Array Value} (h : hkE D ct sa s) (hw : w ∈ hkN) : w.before A s = true := va_Nw.use (hkN_warm w hw).1 (h.2.1 w hw)
/-- the statics of Throwable, below all that the law makes -/
def hkH (G0 : Nat) (U : State) (H : Heap) : Prop := G0 ≤ H.size ∧ vx_Zq Bundle.tN "UNASSIGNED_STACK" Bundle.steD (fun q => G0 ≤ q) U H ∧ vx_Zq Bundle.tN "SUPPRESSED_SENTINEL" Bundle.listD (fun q => G0 ≤ q) U H
theorem hkH.moved {G0 : Nat} {u U : State} {H : Heap} (hvm : u.vm.Alike U.vm) (h : hkH G0 u H) : hkH G0 U H := ⟨h.1, vx_Zq.moved hvm h.2.1, vx_Zq.moved hvm h.2.2⟩
theorem hkH.kept {G0 : Nat} {U : State} {H H1 : Heap} (h : hkH G0 U H) (hz : H.size ≤ H1.size) (hk : ∀ q : Nat, q < H.size → ¬ G0 ≤ q → H1[q]? = H[q]?) : hkH G0 U H1 := ⟨Nat.le_trans h.1 hz, vx_Zq.kept h.2.1 hk, vx_Zq.kept h.2.2 hk⟩
/-- how a method begins -/
def hkPc (D : va_G) (ct : Nat → ClassId) (sa : Nat → Nat) (As : List Value) (P : Heap → Prop) : Array Value → State → Prop := va_Pc As (fun U => hkE D ct sa U ∧ P U.heap)
def hkPx (D : va_G) (ct : Nat → ClassId) (sa : Nat → Nat) (G0 : Nat) (As : List Value) (P : Heap → Prop) : Array Value → State → Prop := va_Pc As (fun U => hkE D ct sa U ∧ hkH G0 U U.heap ∧ P U.heap)
theorem hk_preS {D : va_G} {ct : Nat → ClassId} {sa : Nat → Nat} {s : State} {H : Heap} {As : List Value} {P : Heap → Prop} (hE : hkE D ct sa s) (hp : P H) : PreS s H (hkPc D ct sa As P) As :=
  ⟨fun a U g mk q => ⟨q.1, hkE.same (s := U) (U := U.calling g mk a) rfl q.2.1, q.2.2⟩, fun U hU hW => ⟨rfl, hE.warm hW, by rw [hU]; exact hp⟩⟩
theorem hk_preV {D : va_G} {ct : Nat → ClassId} {sa : Nat → Nat} {s : State} {H : Heap} {As : List Value} {P : Heap → Prop} {C : String} {b : Nat} (hE : hkE D ct sa s) (hr : ∃ cell : Cell, H[b]? = some cell ∧ cell.vm.isStatics = false ∧ s.vm.findClass C = some cell.cls) (hp : P H) : PreV s H C b (hkPc D ct sa (.ref b :: As) P) As :=
  ⟨fun a U g mk q => ⟨q.1, hkE.same (s := U) (U := U.calling g mk a) rfl q.2.1, q.2.2⟩, hr, fun U hU hW => ⟨rfl, hE.warm hW, by rw [hU]; exact hp⟩⟩
theorem hk_prxS {D : va_G} {ct : Nat → ClassId} {sa : Nat → Nat} {G0 : Nat} {s : State} {H : Heap} {As : List Value} {P : Heap → Prop} (hE : hkE D ct sa s) (hh : hkH G0 s H) (hp : P H) : PreS s H (hkPx D ct sa G0 As P) As :=
  ⟨fun a U g mk q => ⟨q.1, hkE.same (s := U) (U := U.calling g mk a) rfl q.2.1, hkH.moved (u := U) (U := U.calling g mk a) (Vm.Alike.refl U.vm) q.2.2.1, q.2.2.2⟩, fun U hU hW => ⟨rfl, hE.warm hW, by rw [hU]; exact hkH.moved hW.alike hh, by rw [hU]; exact hp⟩⟩
theorem hk_prxV {D : va_G} {ct : Nat → ClassId} {sa : Nat → Nat} {G0 : Nat} {s : State} {H : Heap} {As : List Value} {P : Heap → Prop} {C : String} {b : Nat} (hE : hkE D ct sa s) (hh : hkH G0 s H) (hr : ∃ cell : Cell, H[b]? = some cell ∧ cell.vm.isStatics = false ∧ s.vm.findClass C = some cell.cls) (hp : P H) : PreV s H C b (hkPx D ct sa G0 (.ref b :: As) P) As :=
  ⟨fun a U g mk q => ⟨q.1, hkE.same (s := U) (U := U.calling g mk a) rfl q.2.1, hkH.moved (u := U) (U := U.calling g mk a) (Vm.Alike.refl U.vm) q.2.2.1, q.2.2.2⟩, hr, fun U hU hW => ⟨rfl, hE.warm hW, by rw [hU]; exact hkH.moved hW.alike hh, by rw [hU]; exact hp⟩⟩
/-- how a method ends that changes cells at the addresses as alone: the answer, its world, all else as it was -/
def hkF (as : List Nat) (H H1 : Heap) : Prop := H.size ≤ H1.size ∧ ∀ q : Nat, q < H.size → q ∉ as → H1[q]? = H[q]?
def hkA (as : List Nat) : Nat → Prop := fun q => q ∈ as
def hkQ (v : Option Value) (D : va_G) (w1 : va_W) (as : List Nat) : Array Value → State → Outcome → State → Prop := fun _ st o t => o = .returned v ∧ va_P D vwCl w1 t.heap ∧ hkF as st.heap t.heap
/-- an exception: its class, and nothing old has changed -/
def hkXC (ok : String → Prop) : String → State → State → Prop := fun E st t => ok E ∧ hkF [] st.heap t.heap
def hkSet (ws : va_W) (ps : List Nat) (w1 : va_W) : va_W := (ps.zip w1).foldl (fun acc z => acc.set z.1 z.2) ws
theorem hk_set_adr : ∀ (zs : List (Nat × (Nat × va_E))) (ws : va_W), (∀ z ∈ zs, ∃ e, ws[z.1]? = some (z.2.1, e)) → ∀ (i : Nat) (q : Nat × va_E), (zs.foldl (fun acc z => acc.set z.1 z.2) ws)[i]? = some q → (∃ e, ws[i]? = some (q.1, e)) ∧ ((i, q) ∈ zs ∨ ((∀ z ∈ zs, z.1 ≠ i) ∧ ws[i]? = some q)) := by
  intro zs
  induction zs with
  | nil => intro ws _ i q h; exact ⟨⟨q.2, h⟩, Or.inr ⟨fun z hz => (nomatch hz), h⟩⟩
  | cons z zs ih =>
    intro ws hh i q h
    obtain ⟨e0, h0⟩ := hh z List.mem_cons_self
    have hl := (List.getElem?_eq_some_iff.mp h0).1
    have hs : ∀ (j : Nat) (y : Nat × va_E), (ws.set z.1 z.2)[j]? = some y → ∃ e, ws[j]? = some (y.1, e) := by
      intro j y hy
      by_cases hj : j = z.1
      · subst hj
        rw [List.getElem?_set_self hl] at hy
        cases hy
        exact ⟨e0, h0⟩
      · rw [List.getElem?_set_ne (Ne.symm hj)] at hy
        exact ⟨y.2, hy⟩
    have hh2 : ∀ y ∈ zs, ∃ e, (ws.set z.1 z.2)[y.1]? = some (y.2.1, e) := by
      intro y hy
      obtain ⟨e2, h3⟩ := hh y (List.mem_cons_of_mem _ hy)
      by_cases hj : y.1 = z.1
      · rw [hj] at h3
        have h6 : (z.2.1, e0) = (y.2.1, e2) := Option.some.inj (h0.symm.trans h3)
        have h7 := congrArg Prod.fst h6
        have h5 : z.2.1 = y.2.1 := h7
        exact ⟨z.2.2, by rw [hj, List.getElem?_set_self hl, ← h5]⟩
      · exact ⟨e2, by rw [List.getElem?_set_ne (Ne.symm hj)]; exact h3⟩
    obtain ⟨⟨e, h1⟩, h2⟩ := ih (ws.set z.1 z.2) hh2 i q h
    refine ⟨hs i (q.1, e) h1, ?_⟩
    rcases h2 with h3 | ⟨h3, h4⟩
    · exact Or.inl (List.mem_cons_of_mem _ h3)
    · by_cases hj : i = z.1
      · subst hj
        rw [List.getElem?_set_self hl] at h4
        cases h4
        exact Or.inl List.mem_cons_self
      · rw [List.getElem?_set_ne (Ne.symm hj)] at h4
        refine Or.inr ⟨fun y hy => ?_, h4⟩
        rcases List.mem_cons.mp hy with rfl | hy
        · exact Ne.symm hj
        · exact h3 y hy
theorem hk_zip {α β : Type} : ∀ (a : List α) (b : List β) (k : Nat) (x : α) (y : β), a[k]? = some x → b[k]? = some y → (x, y) ∈ a.zip b
  | [], _, k, x, y, h, _ => by simp at h
  | _ :: _, [], k, x, y, _, h => by simp at h
  | a :: as, b :: bs, 0, x, y, h1, h2 => by
    rw [List.getElem?_cons_zero] at h1 h2
    cases h1; cases h2
    exact List.mem_cons_self
  | a :: as, b :: bs, k + 1, x, y, h1, h2 => by
    rw [List.getElem?_cons_succ] at h1 h2
    exact List.mem_cons_of_mem _ (hk_zip as bs k x y h1 h2)
theorem hk_unzip {α β : Type} : ∀ (a : List α) (b : List β) (x : α) (y : β), (x, y) ∈ a.zip b → ∃ k : Nat, a[k]? = some x ∧ b[k]? = some y
  | [], _, x, y, h => by simp at h
  | _ :: _, [], x, y, h => by simp at h
  | a :: as, b :: bs, x, y, h => by
    rw [List.zip_cons_cons] at h
    rcases List.mem_cons.mp h with h | h
    · cases h
      exact ⟨0, rfl, rfl⟩
    · obtain ⟨k, h1, h2⟩ := hk_unzip as bs x y h
      exact ⟨k + 1, h1, h2⟩
theorem hk_map_get {ps : List Nat} {ws wc : va_W} (hC : ps.map (fun i => ws[i]?) = wc.map some) {k : Nat} {c : Nat × va_E} (h : wc[k]? = some c) : ∃ p, ps[k]? = some p ∧ ws[p]? = some c := by
  have h1 : (ps.map (fun i => ws[i]?))[k]? = some (some c) := by rw [hC, List.getElem?_map, h]; rfl
  rw [List.getElem?_map] at h1
  cases hi : ps[k]? with
  | none => rw [hi] at h1; cases h1
  | some i => rw [hi] at h1; exact ⟨i, rfl, Option.some.inj h1⟩
/-- behind a call: the callee's cells in their old places, the rest as it was -/
theorem hk_join {A0 : Nat → Prop} {D : va_G} {ws wc w1 : va_W} {as : List Nat} {H H1 : Heap} (hP : va_P D vwCl ws H) (hD : va_D A0 ws) (ps : List Nat) (hC : ps.map (fun i => ws[i]?) = wc.map some) (has : wc.map (fun q => q.1) = as) (h1 : w1.map (fun q => q.1) = as)
    (hF : hkF as H H1) (hP1 : va_P D vwCl w1 H1) : va_P D vwCl (hkSet ws ps w1) H1 ∧ va_D A0 (hkSet ws ps w1) := by
  have adr : ∀ (k : Nat) (c : Nat × va_E), w1[k]? = some c → ∃ p e, ps[k]? = some p ∧ ws[p]? = some (c.1, e) := by
    intro k c hc
    have h2 : as[k]? = some c.1 := by rw [← h1, List.getElem?_map, hc]; rfl
    rw [← has, List.getElem?_map] at h2
    cases hk : wc[k]? with
    | none => rw [hk] at h2; cases h2
    | some z =>
      rw [hk] at h2
      obtain ⟨p, h3, h4⟩ := hk_map_get hC hk
      have h5 : z.1 = c.1 := Option.some.inj h2
      exact ⟨p, z.2, h3, by rw [h4, ← h5]⟩
  have hh : ∀ z ∈ ps.zip w1, ∃ e, ws[z.1]? = some (z.2.1, e) := by
    intro z hz
    obtain ⟨k, h2, h3⟩ := hk_unzip ps w1 z.1 z.2 hz
    obtain ⟨p2, e, h4, h5⟩ := adr k z.2 h3
    have h6 : p2 = z.1 := Option.some.inj (h4.symm.trans h2)
    exact ⟨e, by rw [← h6]; exact h5⟩
  have key := hk_set_adr (ps.zip w1) ws hh
  refine ⟨fun i q hq => ?_, ⟨fun i j x y hx hy hxy => ?_, fun i q hq => ?_⟩⟩
  · obtain ⟨⟨e, h2⟩, h3⟩ := key i q hq
    rcases h3 with h4 | ⟨h4, h5⟩
    · obtain ⟨k, -, h5⟩ := hk_unzip ps w1 i q h4
      exact hP1 k q h5
    · refine (hP i q h5).kept (hF.2 q.1 (hP i q h5).lt (fun hm => ?_))
      rw [← has] at hm
      obtain ⟨z, hz, hzq⟩ := List.mem_map.mp hm
      obtain ⟨k, hk⟩ := List.getElem?_of_mem hz
      obtain ⟨p, h6, h7⟩ := hk_map_get hC hk
      have hip : i = p := hD.1 i p q z h5 h7 hzq.symm
      subst hip
      have h8 : as[k]? = some z.1 := by rw [← has, List.getElem?_map, hk]; rfl
      rw [← h1, List.getElem?_map] at h8
      cases hw : w1[k]? with
      | none => rw [hw] at h8; cases h8
      | some y => exact h4 _ (hk_zip ps w1 k i y h6 hw) rfl
  · obtain ⟨⟨e1, h2⟩, -⟩ := key i x hx
    obtain ⟨⟨e2, h3⟩, -⟩ := key j y hy
    exact hD.1 i j _ _ h2 h3 hxy
  · obtain ⟨⟨e1, h2⟩, -⟩ := key i q hq
    exact hD.2 i (q.1, e1) h2
