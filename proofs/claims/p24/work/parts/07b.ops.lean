/-! what each call does: a code (0, or which exception), the answer, the state behind it -/
abbrev ix (x : Int32) : Nat := x.toNatClampNeg
def exU (u : St) (a b : Nat) : St := (exK (sK u) (sL u) a b, exL (sL u) a b, sT u, sq u, sY u, exS (sS u) (sY u) a b, sP u, sC u)
def tpU (u : St) (a b : Nat) : St := (sK u, sL u, kpT (sT u) (sq u) a, kpN (sq u), sY u, tpS (sK u) (sS u) a b, tpP (sK u) (sT u) (sP u) (sq u) a b, sC u + nI 1)
def wyU (u : St) (y : Int32) : St := (sK u, sL u, sT u, sq u, y, sS u, sP u, sC u)
abbrev Op : Type := Int32 × Int32 × Sg
def opStudent (g : Sg) : Op := if gN g = 5 then (1, 0, g) else (0, nI (gN g), (gN g + 1, gS g, gd g, gD g, gc g, gC g))
def opCarry (g : Sg) (x y : Int32) : Op := if bd x (gN g) then (1, 0, g) else if ¬ y = 0 ∧ ¬ y = 1 then (2, 0, g) else (0, sY (gS g (ix x)), gU g (ix x) (wyU (gS g (ix x)) y))
def opSwap (g : Sg) (x y z : Int32) : Op := if bd x (gN g) ∨ bd y 12 ∨ bd z 12 then (1, 0, g) else if y = z then (2, 0, g) else (0, sv (sK (gS g (ix x))) (sT (gS g (ix x))) (sq (gS g (ix x))) (ix y) (ix z), gU g (ix x) (exU (gS g (ix x)) (ix y) (ix z)))
def opKeyOf (g : Sg) (x y : Int32) : Op := if bd x (gN g) ∨ bd y 12 then (1, 0, g) else (0, nI (sK (gS g (ix x)) (ix y)), g)
def opLetterOn (g : Sg) (x y : Int32) : Op := if bd x (gN g) ∨ bd y 12 then (1, 0, g) else (0, nI (sL (gS g (ix x)) (ix y)), g)
def opPress (g : Sg) (x y z : Int32) : Op := if bd x (gN g) ∨ bd y 12 ∨ bd z 12 then (1, 0, g) else (0, tpR (sK (gS g (ix x))) (ix y) (ix z), gU g (ix x) (tpU (gS g (ix x)) (ix y) (ix z)))
def opSlips (g : Sg) (x y z : Int32) : Op := if bd x (gN g) then (1, 0, g) else if z < 0 ∨ ¬ z < hkGs y then (2, 0, g) else (0, sl (sS (gS g (ix x))) y z 12, g)
def opPair (g : Sg) (x y z : Int32) : Op := if bd x (gN g) ∨ bd y 12 ∨ bd z 12 then (1, 0, g) else (0, sP (gS g (ix x)) (12 * ix y + ix z), g)
def opPressed (g : Sg) (x : Int32) : Op := if bd x (gN g) then (1, 0, g) else (0, sC (gS g (ix x)), g)
def opHistory (g : Sg) (x y : Int32) : Op := if bd x (gN g) ∨ y < 0 then (1, 0, g) else (0, if y < nI (sq (gS g (ix x))) then nI (sT (gS g (ix x)) (ix y)) else -1, g)
def opTime (g : Sg) (x : Int32) : Op := if bd x (gN g) then (1, 0, g) else (0, nI (tt (gk (sK (gS g (ix x))) (sT (gS g (ix x)))) (sq (gS g (ix x)))), g)
def lsn (u : St) (z : Nat) : Nat → Bool := fun x => decide (la (fun x => sS u (sK u x)) x 12 = z)
def opLesson (g : Sg) (x y : Int32) : Op := if bd x (gN g) ∨ bd y 100 then (1, 0, g) else (0, lf (lsn (gS g (ix x)) (ix y % 3)) 0 12, g)
def opSaves (g : Sg) (x y z : Int32) : Op := if bd x (gN g) ∨ bd y 12 ∨ bd z 12 then (1, 0, g) else if y = z then (2, 0, g) else (0, sv (sK (gS g (ix x))) (sT (gS g (ix x))) (sq (gS g (ix x))) (ix y) (ix z), g)
def opBest (g : Sg) (x : Int32) : Op := if bd x (gN g) then (1, 0, g) else (0, (bs (sK (gS g (ix x))) (sT (gS g (ix x))) (sq (gS g (ix x))) 144).1, g)
def opDraft (g : Sg) (x : Int32) : Op := if bd x 12 then (1, 0, g) else if gd g = 24 then (2, 0, g) else (0, nI (gd g + 1), (gN g, gS g, gd g + 1, va_up (gD g) (gd g) (ix x), gc g, gC g))
def opClear (g : Sg) : Op := (0, nI (gd g), (gN g, gS g, 0, gD g, gc g, gC g))
def newCo (g : Sg) : Co := (gN g, fun j => if j < gN g then tt (gk (sK (gS g j)) (gD g)) (gd g) else 0, fun _ => 0)
def opContest (g : Sg) : Op := if gd g = 0 ∨ gN g = 0 ∨ gc g = 6 then (1, 0, g) else (0, nI (gc g), (gN g, gS g, 0, gD g, gc g + 1, va_up (gC g) (gc g) (newCo g)))
def rsU (v : Co) (j : Nat) (z : Int32) : Co := (cW v, cX v, upd (cZ v) j z)
def opResult (g : Sg) (x y z : Int32) : Op := if bd x (gc g) ∨ bd y (cW (gC g (ix x))) then (1, 0, g) else if z < nI 1 ∨ ¬ z ≤ nI 99999 then (2, 0, g) else if 0 < cZ (gC g (ix x)) (ix y) then (3, 0, g) else (0, nI 1000 * z / nI (cX (gC g (ix x)) (ix y)), gV g (ix x) (rsU (gC g (ix x)) (ix y) z))
def opOf (g : Sg) (x y z : Int32) : Op := if bd x (gc g) ∨ bd y (cW (gC g (ix x))) then (1, 0, g) else if z < 0 ∨ nI 3 < z then (2, 0, g) else (0, if z = 0 then nI (cX (gC g (ix x)) (ix y)) else if 0 < cZ (gC g (ix x)) (ix y) then hkTo (cX (gC g (ix x))) (cZ (gC g (ix x))) (ix y) z else -1, g)
def rkd (v : Co) (z : Int32) : Nat → Bool := fun j => decide (0 < cZ v j ∧ nI (rk (cX v) (cZ v) j 5) = z)
def opRanked (g : Sg) (x y : Int32) : Op := if bd x (gc g) ∨ y < 0 then (1, 0, g) else (0, fi (rkd (gC g (ix x)) y) 5 0, g)
/-- which exceptions, by the code -/
def hkOk (es : List String) (cd : Int32) (E : String) : Prop := ∃ k : Nat, es[k]? = some E ∧ cd = nI (k + 1)
/-- how a call of the face ends -/
def hkFQ (D : va_G) (ct : Nat → ClassId) (b : Nat → Nat) (A : Nat → Prop) (z : Op) : Array Value → State → Outcome → State → Prop := fun _ st o t =>
  o = .returned (some (.int z.2.1)) ∧ z.1 = 0 ∧ (∃ d : Ad, va_P D vwCl (hkW ct b d z.2.2) t.heap ∧ va_D A (hkW ct b d z.2.2)) ∧ va_F A st t
/-- how it begins -/
def hkFP (D : va_G) (ct : Nat → ClassId) (b : Nat → Nat) (d : Ad) (g : Sg) (G0 sz : Nat) : Heap → Prop := fun H => H.size = sz ∧ va_P D vwCl (hkW ct b d g) H ∧ va_D (fun q => G0 ≤ q) (hkW ct b d g)
