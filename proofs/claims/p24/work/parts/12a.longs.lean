/-! longs as integers -/
theorem zL_toInt {n : Int} (h1 : -(2 ^ 62) < n) (h2 : n < 2 ^ 62) : (zL n).toInt = n := Int64.toInt_ofInt_of_le (by omega) (by omega)
theorem zL_eq {a b : Int} (a1 : -(2 ^ 62) < a) (a2 : a < 2 ^ 62) (b1 : -(2 ^ 62) < b) (b2 : b < 2 ^ 62) : zL a = zL b ↔ a = b := by
  rw [← Int64.toInt_inj, zL_toInt a1 a2, zL_toInt b1 b2]
theorem zL_lt {a b : Int} (a1 : -(2 ^ 62) < a) (a2 : a < 2 ^ 62) (b1 : -(2 ^ 62) < b) (b2 : b < 2 ^ 62) : zL a < zL b ↔ a < b := by
  rw [Int64.lt_iff_toInt_lt, zL_toInt a1 a2, zL_toInt b1 b2]
theorem zL_le {a b : Int} (a1 : -(2 ^ 62) < a) (a2 : a < 2 ^ 62) (b1 : -(2 ^ 62) < b) (b2 : b < 2 ^ 62) : zL a ≤ zL b ↔ a ≤ b := by
  rw [Int64.le_iff_toInt_le, zL_toInt a1 a2, zL_toInt b1 b2]
theorem zL_add (a b : Int) : zL a + zL b = zL (a + b) := (Int64.ofInt_add a b).symm
theorem zL_sub (a b : Int) : zL a - zL b = zL (a - b) := (Int64.ofInt_sub a b).symm
theorem zL_mul (a b : Int) : zL a * zL b = zL (a * b) := (Int64.ofInt_mul a b).symm
theorem zL_ne0 {b : Int} (b1 : 0 < b) (b2 : b < 2 ^ 62) : ¬ zL b = 0 := by
  intro h
  have h2 : zL b = zL 0 := h
  have := (zL_eq (by omega) b2 (by omega) (by omega)).mp h2
  omega
theorem zL_div {a b : Int} (a1 : 0 ≤ a) (a2 : a < 2 ^ 62) (b1 : 0 < b) (b2 : b < 2 ^ 62) : zL a / zL b = zL (a / b) := by
  have h3 : 0 ≤ a / b := Int.ediv_nonneg a1 (by omega)
  have h4 : a / b ≤ a := Int.ediv_le_self b a1
  refine Int64.toInt_inj.mp ?_
  rw [Int64.toInt_div_of_ne_right _ _ (fun h => by
    have h2 : zL b = zL (-1) := h
    have := (zL_eq (by omega) b2 (by omega) (by omega)).mp h2
    omega), zL_toInt (by omega) a2, zL_toInt (by omega) b2, zL_toInt (by omega) (by omega), Int.tdiv_eq_ediv_of_nonneg a1]
theorem zL_rem {a b : Int} (a1 : 0 ≤ a) (a2 : a < 2 ^ 62) (b1 : 0 < b) (b2 : b < 2 ^ 62) : zL a - zL a / zL b * zL b = zL (a % b) := by
  rw [zL_div a1 a2 b1 b2, zL_mul, zL_sub]
  congr 1
  rw [Int.emod_def, Int.mul_comm (a / b) b]
theorem zL_i (n : Nat) : (zL (n : Int)).toInt32 = nI n := by
  show (Int64.ofInt (n : Int)).toInt32 = Int32.ofNat n
  rw [Int64.toInt32_ofInt, Int32.ofInt_eq_ofNat]
theorem nI_z {n : Nat} (h : n < 2 ^ 31) : (nI n).toInt64 = zL (n : Int) := Int64.toInt_inj.mp (by rw [Int32.toInt_toInt64, nI_toInt h, zL_toInt (by omega) (by omega)])
theorem zI_z (x : Int32) : x.toInt64 = zL x.toInt := Int64.toInt_inj.mp (by
  have h1 := Int32.le_toInt x
  have h2 := Int32.toInt_lt x
  rw [Int32.toInt_toInt64, zL_toInt (by omega) (by omega)])
section ZROWS
variable {p : Program} {l : Launch} {e : Env} {R : Room} {s : State} {m : MethodId} {args : Array Value} {below : List Frame} {meth : Method} {c : Code} {H : Heap} {locs : List Loc} {cells slots : Nat} {Q : State → Prop}
variable {cc : ByteArray} {pc : Nat} {ls : Array Slot} {rest st0 : List Value}
theorem hk_ldcz (hx : p.tables.exec = Jvm.exec) (hb : c.code = cc) {own : String} {index : Nat} {v : Int64} {n : Int} (hv : v = zL n) (hown : s.vm.findClass own = some m.cls) (hk : (Jvm.Cond.constantLong own index v).before args s = true) (hdg : decode cc pc = .ok (.ldc2_w index, 3))
    (kk : W p l e R s m args below meth c H locs cells slots Q (F0 m (pc + 3) ls (.long (zL n) :: rest))) : W p l e R s m args below meth c H locs cells slots Q (F0 m pc ls rest) := by
  subst hv
  exact hk_ldc2 hx hb hown hk hdg kk
theorem hk_topz {a b : Int} (h : a = b) (kk : W p l e R s m args below meth c H locs cells slots Q (F0 m pc ls (.long (zL b) :: rest))) : W p l e R s m args below meth c H locs cells slots Q (F0 m pc ls (.long (zL a) :: rest)) := by
  subst h; exact kk
theorem hk_laddz (hx : p.tables.exec = Jvm.exec) (hb : c.code = cc) {x y : Int} (hdg : decode cc pc = .ok (.ladd, 1)) (kk : W p l e R s m args below meth c H locs cells slots Q (F0 m (pc + 1) ls (.long (zL (x + y)) :: rest))) : W p l e R s m args below meth c H locs cells slots Q (F0 m pc ls (.long (zL y) :: .long (zL x) :: rest)) :=
  lv_ladd hx hb hdg (by rw [zL_add]; exact kk)
theorem hk_lsubz (hx : p.tables.exec = Jvm.exec) (hb : c.code = cc) {x y : Int} (hdg : decode cc pc = .ok (.lsub, 1)) (kk : W p l e R s m args below meth c H locs cells slots Q (F0 m (pc + 1) ls (.long (zL (x - y)) :: rest))) : W p l e R s m args below meth c H locs cells slots Q (F0 m pc ls (.long (zL y) :: .long (zL x) :: rest)) :=
  lv_lsub hx hb hdg (by rw [zL_sub]; exact kk)
theorem hk_lmulz (hx : p.tables.exec = Jvm.exec) (hb : c.code = cc) {x y : Int} (hdg : decode cc pc = .ok (.lmul, 1)) (kk : W p l e R s m args below meth c H locs cells slots Q (F0 m (pc + 1) ls (.long (zL (x * y)) :: rest))) : W p l e R s m args below meth c H locs cells slots Q (F0 m pc ls (.long (zL y) :: .long (zL x) :: rest)) :=
  lv_lmul hx hb hdg (by rw [zL_mul]; exact kk)
theorem hk_ldivz (hx : p.tables.exec = Jvm.exec) (hb : c.code = cc) {x y : Int} (a1 : 0 ≤ x) (a2 : x < 2 ^ 62) (b1 : 0 < y) (b2 : y < 2 ^ 62) (hdg : decode cc pc = .ok (.ldiv, 1)) (kk : W p l e R s m args below meth c H locs cells slots Q (F0 m (pc + 1) ls (.long (zL (x / y)) :: rest))) : W p l e R s m args below meth c H locs cells slots Q (F0 m pc ls (.long (zL y) :: .long (zL x) :: rest)) :=
  lv_ldiv hx hb hdg (zL_ne0 b1 b2) (by rw [zL_div a1 a2 b1 b2]; exact kk)
theorem hk_lremz (hx : p.tables.exec = Jvm.exec) (hb : c.code = cc) {x y : Int} (a1 : 0 ≤ x) (a2 : x < 2 ^ 62) (b1 : 0 < y) (b2 : y < 2 ^ 62) (hdg : decode cc pc = .ok (.lrem, 1)) (kk : W p l e R s m args below meth c H locs cells slots Q (F0 m (pc + 1) ls (.long (zL (x % y)) :: rest))) : W p l e R s m args below meth c H locs cells slots Q (F0 m pc ls (.long (zL y) :: .long (zL x) :: rest)) :=
  lv_lrem hx hb hdg (zL_ne0 b1 b2) (by rw [zL_rem a1 a2 b1 b2]; exact kk)
theorem hk_i2lz (hx : p.tables.exec = Jvm.exec) (hb : c.code = cc) {n : Nat} (h : n < 2 ^ 31) (hdg : decode cc pc = .ok (.i2l, 1)) (kk : W p l e R s m args below meth c H locs cells slots Q (F0 m (pc + 1) ls (.long (zL (n : Int)) :: rest))) : W p l e R s m args below meth c H locs cells slots Q (F0 m pc ls (.int (nI n) :: rest)) :=
  lv_i2l hx hb hdg (nI_z h) kk
theorem hk_l2iz (hx : p.tables.exec = Jvm.exec) (hb : c.code = cc) {n : Nat} (hdg : decode cc pc = .ok (.l2i, 1)) (kk : W p l e R s m args below meth c H locs cells slots Q (F0 m (pc + 1) ls (.int (nI n) :: rest))) : W p l e R s m args below meth c H locs cells slots Q (F0 m pc ls (.long (zL (n : Int)) :: rest)) :=
  lv_l2i hx hb hdg (zL_i n) kk
theorem zq_ne (hx : p.tables.exec = Jvm.exec) (hb : c.code = cc) {x y : Int} {off : Int} {tgt : Nat} (h : x = y) (hd1 : decode cc pc = .ok (.lcmp, 1)) (hd2 : decode cc (pc + 1) = .ok (.ifCond .ne off, 3)) (ht : ((pc + 1 : Nat) : Int) + off = (tgt : Int))
    (kk : W p l e R s m args below meth c H locs cells slots Q (F0 m (pc + 4) ls rest)) : W p l e R s m args below meth c H locs cells slots Q (F0 m pc ls (.long (zL y) :: .long (zL x) :: rest)) := by
  subst h
  exact W.lcmp hx hb hd1 (lv_if_ne (tgt := tgt) hx hb hd2 ht (fun h => absurd ((lg_cmp_eq _ _).mpr rfl) h) (fun _ => kk))
theorem zc_eq (hx : p.tables.exec = Jvm.exec) (hb : c.code = cc) {x y : Int} {off : Int} {tgt : Nat} (a1 : -(2 ^ 62) < x) (a2 : x < 2 ^ 62) (b1 : -(2 ^ 62) < y) (b2 : y < 2 ^ 62) (hd1 : decode cc pc = .ok (.lcmp, 1)) (hd2 : decode cc (pc + 1) = .ok (.ifCond .eq off, 3)) (ht : ((pc + 1 : Nat) : Int) + off = (tgt : Int))
    (kt : x = y → W p l e R s m args below meth c H locs cells slots Q (F0 m tgt ls rest)) (kf : ¬ x = y → W p l e R s m args below meth c H locs cells slots Q (F0 m (pc + 4) ls rest)) : W p l e R s m args below meth c H locs cells slots Q (F0 m pc ls (.long (zL y) :: .long (zL x) :: rest)) :=
  W.lcmp hx hb hd1 (lv_if_eq (tgt := tgt) hx hb hd2 ht (fun h => kt ((zL_eq a1 a2 b1 b2).mp ((lg_cmp_eq _ _).mp h))) (fun h => kf (fun q => h ((lg_cmp_eq _ _).mpr ((zL_eq a1 a2 b1 b2).mpr q)))))
theorem zc_ne (hx : p.tables.exec = Jvm.exec) (hb : c.code = cc) {x y : Int} {off : Int} {tgt : Nat} (a1 : -(2 ^ 62) < x) (a2 : x < 2 ^ 62) (b1 : -(2 ^ 62) < y) (b2 : y < 2 ^ 62) (hd1 : decode cc pc = .ok (.lcmp, 1)) (hd2 : decode cc (pc + 1) = .ok (.ifCond .ne off, 3)) (ht : ((pc + 1 : Nat) : Int) + off = (tgt : Int))
    (kt : ¬ x = y → W p l e R s m args below meth c H locs cells slots Q (F0 m tgt ls rest)) (kf : x = y → W p l e R s m args below meth c H locs cells slots Q (F0 m (pc + 4) ls rest)) : W p l e R s m args below meth c H locs cells slots Q (F0 m pc ls (.long (zL y) :: .long (zL x) :: rest)) :=
  W.lcmp hx hb hd1 (lv_if_ne (tgt := tgt) hx hb hd2 ht (fun h => kt (fun q => h ((lg_cmp_eq _ _).mpr ((zL_eq a1 a2 b1 b2).mpr q)))) (fun h => kf ((zL_eq a1 a2 b1 b2).mp ((lg_cmp_eq _ _).mp h))))
theorem zc_lt (hx : p.tables.exec = Jvm.exec) (hb : c.code = cc) {x y : Int} {off : Int} {tgt : Nat} (a1 : -(2 ^ 62) < x) (a2 : x < 2 ^ 62) (b1 : -(2 ^ 62) < y) (b2 : y < 2 ^ 62) (hd1 : decode cc pc = .ok (.lcmp, 1)) (hd2 : decode cc (pc + 1) = .ok (.ifCond .lt off, 3)) (ht : ((pc + 1 : Nat) : Int) + off = (tgt : Int))
    (kt : x < y → W p l e R s m args below meth c H locs cells slots Q (F0 m tgt ls rest)) (kf : ¬ x < y → W p l e R s m args below meth c H locs cells slots Q (F0 m (pc + 4) ls rest)) : W p l e R s m args below meth c H locs cells slots Q (F0 m pc ls (.long (zL y) :: .long (zL x) :: rest)) :=
  W.lcmp hx hb hd1 (lv_if_lt (tgt := tgt) hx hb hd2 ht (fun h => kt ((zL_lt a1 a2 b1 b2).mp ((lg_cmp_lt _ _).mp h))) (fun h => kf (fun q => h ((lg_cmp_lt _ _).mpr ((zL_lt a1 a2 b1 b2).mpr q)))))
theorem zc_ge (hx : p.tables.exec = Jvm.exec) (hb : c.code = cc) {x y : Int} {off : Int} {tgt : Nat} (a1 : -(2 ^ 62) < x) (a2 : x < 2 ^ 62) (b1 : -(2 ^ 62) < y) (b2 : y < 2 ^ 62) (hd1 : decode cc pc = .ok (.lcmp, 1)) (hd2 : decode cc (pc + 1) = .ok (.ifCond .ge off, 3)) (ht : ((pc + 1 : Nat) : Int) + off = (tgt : Int))
    (kt : y ≤ x → W p l e R s m args below meth c H locs cells slots Q (F0 m tgt ls rest)) (kf : ¬ y ≤ x → W p l e R s m args below meth c H locs cells slots Q (F0 m (pc + 4) ls rest)) : W p l e R s m args below meth c H locs cells slots Q (F0 m pc ls (.long (zL y) :: .long (zL x) :: rest)) :=
  W.lcmp hx hb hd1 (lv_if_ge (tgt := tgt) hx hb hd2 ht (fun h => kt ((zL_le b1 b2 a1 a2).mp ((lg_cmp_ge _ _).mp h))) (fun h => kf (fun q => h ((lg_cmp_ge _ _).mpr ((zL_le b1 b2 a1 a2).mpr q)))))
theorem zc_gt (hx : p.tables.exec = Jvm.exec) (hb : c.code = cc) {x y : Int} {off : Int} {tgt : Nat} (a1 : -(2 ^ 62) < x) (a2 : x < 2 ^ 62) (b1 : -(2 ^ 62) < y) (b2 : y < 2 ^ 62) (hd1 : decode cc pc = .ok (.lcmp, 1)) (hd2 : decode cc (pc + 1) = .ok (.ifCond .gt off, 3)) (ht : ((pc + 1 : Nat) : Int) + off = (tgt : Int))
    (kt : y < x → W p l e R s m args below meth c H locs cells slots Q (F0 m tgt ls rest)) (kf : ¬ y < x → W p l e R s m args below meth c H locs cells slots Q (F0 m (pc + 4) ls rest)) : W p l e R s m args below meth c H locs cells slots Q (F0 m pc ls (.long (zL y) :: .long (zL x) :: rest)) :=
  W.lcmp hx hb hd1 (lv_if_gt (tgt := tgt) hx hb hd2 ht (fun h => kt ((zL_lt b1 b2 a1 a2).mp ((lg_cmp_gt _ _).mp h))) (fun h => kf (fun q => h ((lg_cmp_gt _ _).mpr ((zL_lt b1 b2 a1 a2).mpr q)))))
theorem zc_le (hx : p.tables.exec = Jvm.exec) (hb : c.code = cc) {x y : Int} {off : Int} {tgt : Nat} (a1 : -(2 ^ 62) < x) (a2 : x < 2 ^ 62) (b1 : -(2 ^ 62) < y) (b2 : y < 2 ^ 62) (hd1 : decode cc pc = .ok (.lcmp, 1)) (hd2 : decode cc (pc + 1) = .ok (.ifCond .le off, 3)) (ht : ((pc + 1 : Nat) : Int) + off = (tgt : Int))
    (kt : x ≤ y → W p l e R s m args below meth c H locs cells slots Q (F0 m tgt ls rest)) (kf : ¬ x ≤ y → W p l e R s m args below meth c H locs cells slots Q (F0 m (pc + 4) ls rest)) : W p l e R s m args below meth c H locs cells slots Q (F0 m pc ls (.long (zL y) :: .long (zL x) :: rest)) :=
  W.lcmp hx hb hd1 (lv_if_le (tgt := tgt) hx hb hd2 ht (fun h => kt ((zL_le a1 a2 b1 b2).mp ((lg_cmp_le _ _).mp h))) (fun h => kf (fun q => h ((lg_cmp_le _ _).mpr ((zL_le a1 a2 b1 b2).mpr q)))))
end ZROWS
