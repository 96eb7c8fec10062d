/-! the state of the school, and its cells -/
abbrev St : Type := (Nat → Nat) × (Nat → Nat) × (Nat → Nat) × Nat × Int32 × (Nat → Int32) × (Nat → Int32) × Int32
abbrev sK (u : St) : Nat → Nat := u.1
abbrev sL (u : St) : Nat → Nat := u.2.1
abbrev sT (u : St) : Nat → Nat := u.2.2.1
abbrev sq (u : St) : Nat := u.2.2.2.1
abbrev sY (u : St) : Int32 := u.2.2.2.2.1
abbrev sS (u : St) : Nat → Int32 := u.2.2.2.2.2.1
abbrev sP (u : St) : Nat → Int32 := u.2.2.2.2.2.2.1
abbrev sC (u : St) : Int32 := u.2.2.2.2.2.2.2
abbrev Co : Type := Nat × (Nat → Nat) × (Nat → Int32)
abbrev cW (v : Co) : Nat := v.1
abbrev cX (v : Co) : Nat → Nat := v.2.1
abbrev cZ (v : Co) : Nat → Int32 := v.2.2
abbrev Sg : Type := Nat × (Nat → St) × Nat × (Nat → Nat) × Nat × (Nat → Co)
abbrev gN (g : Sg) : Nat := g.1
abbrev gS (g : Sg) : Nat → St := g.2.1
abbrev gd (g : Sg) : Nat := g.2.2.1
abbrev gD (g : Sg) : Nat → Nat := g.2.2.2.1
abbrev gc (g : Sg) : Nat := g.2.2.2.2.1
abbrev gC (g : Sg) : Nat → Co := g.2.2.2.2.2
def st0 : St := (fun j => if j < 12 then j else 0, fun j => if j < 12 then j else 0, fun _ => 0, 0, 0, fun _ => 0, fun _ => 0, 0)
def co0 : Co := (0, fun _ => 0, fun _ => 0)
def g0 : Sg := (0, fun _ => st0, 0, fun _ => 0, 0, fun _ => co0)
/-- student i is now u -/
def gU (g : Sg) (i : Nat) (u : St) : Sg := (gN g, va_up (gS g) i u, gd g, gD g, gc g, gC g)
/-- contest c is now v -/
def gV (g : Sg) (c : Nat) (v : Co) : Sg := (gN g, gS g, gd g, gD g, gc g, va_up (gC g) c v)
def Ist (u : St) : Prop := (∀ x, x < 12 → sK u x < 12) ∧ (∀ x, x < 12 → sL u x < 12) ∧ (∀ x, x < 12 → sK u (sL u x) = x) ∧ sq u ≤ 30 ∧ (∀ p, sT u p < 12) ∧ (sY u = 0 ∨ sY u = 1)
def Ico (v : Co) : Prop := cW v ≤ 5 ∧ (∀ j, j < cW v → 2 ≤ cX v j ∧ cX v j ≤ 200) ∧ (∀ j, cW v ≤ j → cX v j = 0 ∧ cZ v j = 0) ∧ ∀ j, ¬ cZ v j < 0
def Inv (g : Sg) : Prop := gN g ≤ 5 ∧ gd g ≤ 24 ∧ gc g ≤ 6 ∧ (∀ i, Ist (gS g i)) ∧ (∀ p, gD g p < 12) ∧ (∀ i, gN g ≤ i → gS g i = st0) ∧ (∀ c, gc g ≤ c → gC g c = co0) ∧ ∀ c, Ico (gC g c)
/-! cells -/
def stW (ct : Nat → ClassId) (a : Nat → Nat) (u : St) : va_W := [(a 0, .inr (1, [.ref (a 1), .ref (a 2), .int (sY u), .ref (a 3), .ref (a 4), .ref (a 5), .int (nI (sq u)), .int (sC u)])), (a 1, .inl (ct 0, 12, .inl (fun j => nI (sK u j)))), (a 2, .inl (ct 0, 12, .inl (fun j => nI (sL u j)))), (a 3, .inl (ct 0, 12, .inl (sS u))), (a 4, .inl (ct 0, 144, .inl (sP u))), (a 5, .inl (ct 0, 30, .inl (fun j => nI (sT u j))))]
def coW (ct : Nat → ClassId) (a : Nat → Nat) (v : Co) : va_W := [(a 0, .inr (0, [.ref (a 1), .ref (a 2), .ref (a 3)])), (a 1, .inl (ct 0, 5, .inl (fun j => nI (cX v j)))), (a 2, .inl (ct 0, 5, .inl (cZ v))), (a 3, .inl (ct 0, 5, .inl (scr (cX v) (cZ v))))]
abbrev Ad : Type := (Nat → Nat → Nat) × (Nat → Nat → Nat) × (Nat → Int32)
def rfs (n : Nat) (a : Nat → Nat → Nat) : Nat → Option Nat := fun j => if j < n then some (a j 0) else none
def bsW (ct : Nat → ClassId) (b : Nat → Nat) (d : Ad) (g : Sg) : va_W := [(b 0, .inr (2, [.ref (b 1), .ref (b 2), .ref (b 3), .int (nI (gd g)), .ref (b 4)])), (b 1, .inl (ct 1, 5, .inr (.inr (.inr (.inr (rfs (gN g) d.1)))))), (b 2, .inl (ct 2, 6, .inr (.inr (.inr (.inr (rfs (gc g) d.2.1)))))), (b 3, .inl (ct 0, 24, .inl (fun j => nI (gD g j)))), (b 4, .inl (ct 0, 144, .inl d.2.2))]
def ssW (ct : Nat → ClassId) (d : Ad) (g : Sg) (l : List Nat) : va_W := l.flatMap (fun i => stW ct (d.1 i) (gS g i))
def ccW (ct : Nat → ClassId) (d : Ad) (g : Sg) (l : List Nat) : va_W := l.flatMap (fun c => coW ct (d.2.1 c) (gC g c))
def hkW (ct : Nat → ClassId) (b : Nat → Nat) (d : Ad) (g : Sg) : va_W := bsW ct b d g ++ (ssW ct d g (List.range (gN g)) ++ ccW ct d g (List.range (gc g)))
/-- the rest, but for one student, one contest -/
def rsS (ct : Nat → ClassId) (d : Ad) (g : Sg) (i : Nat) : va_W := ssW ct d g ((List.range (gN g)).erase i) ++ ccW ct d g (List.range (gc g))
def rsC (ct : Nat → ClassId) (d : Ad) (g : Sg) (c : Nat) : va_W := ssW ct d g (List.range (gN g)) ++ ccW ct d g ((List.range (gc g)).erase c)
/-! worlds in another order -/
theorem va_P.perm {D : va_G} {cl : List vw_C} {w1 w2 : va_W} {H : Heap} (h : va_P D cl w1 H) (p : List.Perm w2 w1) : va_P D cl w2 H := by
  intro k q hk
  have h1 : q ∈ w1 := p.subset (List.mem_of_getElem? hk)
  obtain ⟨j, hj⟩ := List.getElem?_of_mem h1
  exact h j q hj
theorem va_D_nodup {A : Nat → Prop} {w : va_W} : va_D A w ↔ (w.map (fun q => q.1)).Nodup ∧ ∀ q ∈ w, A q.1 := by
  constructor
  · intro h
    refine ⟨?_, fun q hq => ?_⟩
    · refine List.pairwise_iff_getElem.mpr (fun i j hi hj hij he => ?_)
      rw [List.length_map] at hi hj
      rw [List.getElem_map, List.getElem_map] at he
      have h3 := h.1 i j _ _ (List.getElem?_eq_getElem hi) (List.getElem?_eq_getElem hj) he
      omega
    · obtain ⟨j, hj⟩ := List.getElem?_of_mem hq
      exact h.2 j q hj
  · intro ⟨h1, h2⟩
    refine ⟨fun i j x y hx hy hxy => ?_, fun k q hk => h2 q (List.mem_of_getElem? hk)⟩
    have h3 := List.pairwise_iff_getElem.mp h1
    obtain ⟨li, rfl⟩ := List.getElem?_eq_some_iff.mp hx
    obtain ⟨lj, rfl⟩ := List.getElem?_eq_some_iff.mp hy
    rcases Nat.lt_trichotomy i j with h | h | h
    · exact absurd (by rw [List.getElem_map, List.getElem_map]; exact hxy) (h3 i j (by rw [List.length_map]; exact li) (by rw [List.length_map]; exact lj) h)
    · exact h
    · exact absurd (by rw [List.getElem_map, List.getElem_map]; exact hxy.symm) (h3 j i (by rw [List.length_map]; exact lj) (by rw [List.length_map]; exact li) h)
theorem va_D.perm {A : Nat → Prop} {w1 w2 : va_W} (h : va_D A w1) (p : List.Perm w2 w1) : va_D A w2 := by
  obtain ⟨h1, h2⟩ := va_D_nodup.mp h
  exact va_D_nodup.mpr ⟨(p.map (fun q => q.1)).nodup_iff.mpr h1, fun q hq => h2 q (p.subset hq)⟩
theorem hk_flat {α : Type} (f : Nat → List α) (n i : Nat) (h : i < n) : List.Perm (f i ++ ((List.range n).erase i).flatMap f) ((List.range n).flatMap f) := by
  have h1 : List.Perm (i :: (List.range n).erase i) (List.range n) := (List.perm_cons_erase (List.mem_range.mpr h)).symm
  exact (h1.flatMap_right f)
theorem hk_flat_up {α : Type} (f f' : Nat → List α) (n i : Nat) (h : ∀ j, j ≠ i → f' j = f j) : ((List.range n).erase i).flatMap f' = ((List.range n).erase i).flatMap f := by
  have h1 : ∀ j ∈ (List.range n).erase i, f' j = f j := fun j hj => h j (fun e => (List.nodup_range.not_mem_erase) (e ▸ hj))
  rw [List.flatMap_def, List.flatMap_def, List.map_congr_left h1]
theorem hkW_S {ct : Nat → ClassId} {b : Nat → Nat} {d : Ad} {g : Sg} {i : Nat} (h : i < gN g) : List.Perm (bsW ct b d g ++ (stW ct (d.1 i) (gS g i) ++ rsS ct d g i)) (hkW ct b d g) := by
  unfold hkW rsS
  refine List.Perm.append_left _ ?_
  rw [← List.append_assoc]
  exact List.Perm.append_right _ (hk_flat (fun i => stW ct (d.1 i) (gS g i)) _ i h)
theorem hkW_C {ct : Nat → ClassId} {b : Nat → Nat} {d : Ad} {g : Sg} {c : Nat} (h : c < gc g) : List.Perm (bsW ct b d g ++ (coW ct (d.2.1 c) (gC g c) ++ rsC ct d g c)) (hkW ct b d g) := by
  unfold hkW rsC
  refine List.Perm.append_left _ ?_
  have h1 := hk_flat (fun c => coW ct (d.2.1 c) (gC g c)) _ c h
  refine List.Perm.trans ?_ (List.Perm.append_left _ h1)
  rw [← List.append_assoc, ← List.append_assoc]
  exact List.Perm.append_right _ List.perm_append_comm
theorem rsS_gU (ct : Nat → ClassId) (d : Ad) (g : Sg) (i : Nat) (u : St) : rsS ct d (gU g i u) i = rsS ct d g i := by
  unfold rsS ssW ccW
  rw [show gN (gU g i u) = gN g from rfl, hk_flat_up (fun j => stW ct (d.1 j) (gS g j)) (fun j => stW ct (d.1 j) (gS (gU g i u) j)) (gN g) i (fun j hj => by show stW ct (d.1 j) (va_up (gS g) i u j) = _; rw [va_up_ne _ _ hj])]
  rfl
theorem rsC_gV (ct : Nat → ClassId) (d : Ad) (g : Sg) (c : Nat) (v : Co) : rsC ct d (gV g c v) c = rsC ct d g c := by
  unfold rsC ssW ccW
  rw [show gc (gV g c v) = gc g from rfl, hk_flat_up (fun j => coW ct (d.2.1 j) (gC g j)) (fun j => coW ct (d.2.1 j) (gC (gV g c v) j)) (gc g) c (fun j hj => by show coW ct (d.2.1 j) (va_up (gC g) c v j) = _; rw [va_up_ne _ _ hj])]
  rfl
theorem hkW_gU {ct : Nat → ClassId} {b : Nat → Nat} {d : Ad} {g : Sg} {i : Nat} {u : St} (h : i < gN g) : List.Perm (hkW ct b d (gU g i u)) (bsW ct b d g ++ (stW ct (d.1 i) u ++ rsS ct d g i)) := by
  have h1 := (hkW_S (ct := ct) (b := b) (d := d) (g := gU g i u) (i := i) h).symm
  rw [rsS_gU, show gS (gU g i u) i = u from va_up_self _ _ _] at h1
  exact h1
theorem hkW_gV {ct : Nat → ClassId} {b : Nat → Nat} {d : Ad} {g : Sg} {c : Nat} {v : Co} (h : c < gc g) : List.Perm (hkW ct b d (gV g c v)) (bsW ct b d g ++ (coW ct (d.2.1 c) v ++ rsC ct d g c)) := by
  have h1 := (hkW_C (ct := ct) (b := b) (d := d) (g := gV g c v) (c := c) h).symm
  rw [rsC_gV, show gC (gV g c v) c = v from va_up_self _ _ _] at h1
  exact h1
theorem gU_self (g : Sg) (i : Nat) : gU g i (gS g i) = g := by
  unfold gU
  have h : va_up (gS g) i (gS g i) = gS g := by
    funext j
    unfold va_up
    split
    · rename_i h; rw [h]
    · rfl
  rw [h]
