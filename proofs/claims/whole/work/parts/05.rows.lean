/-- an Int32 by its value -/
def vI (z : Int) : Int32 := Int32.ofInt z
theorem vI_T {z : Int} (h1 : -2147483648 ≤ z) (h2 : z < 2147483648) : (vI z).toInt = z := Int32.toInt_ofInt_of_le (by omega) (by omega)
theorem vI_of (x : Int32) : x = vI x.toInt := (Int32.ofInt_toInt x).symm
theorem vI_ex (x : Int32) : ∃ z : Int, (-2147483648 ≤ z ∧ z < 2147483648) ∧ x = vI z := ⟨x.toInt, ⟨by have := x.le_toInt; omega, by have := x.toInt_lt; omega⟩, vI_of x⟩
theorem vI_add (a b : Int) : vI a + vI b = vI (a + b) := (Int32.ofInt_add a b).symm
theorem vI_sub (a b : Int) : vI a - vI b = vI (a - b) := (Int32.ofInt_sub a b).symm
theorem vI_mul (a b : Int) : vI a * vI b = vI (a * b) := (Int32.ofInt_mul a b).symm
abbrev vB (z : Int) : Prop := -2147483648 ≤ z ∧ z < 2147483648
theorem vI_le {a b : Int} (ha : vB a) (hb : vB b) : vI a ≤ vI b ↔ a ≤ b := by rw [Int32.le_iff_toInt_le, vI_T ha.1 ha.2, vI_T hb.1 hb.2]
theorem vI_lt {a b : Int} (ha : vB a) (hb : vB b) : vI a < vI b ↔ a < b := by rw [Int32.lt_iff_toInt_lt, vI_T ha.1 ha.2, vI_T hb.1 hb.2]
theorem vI_eq {a b : Int} (ha : vB a) (hb : vB b) : vI a = vI b ↔ a = b := ⟨fun h => by rw [← vI_T ha.1 ha.2, h, vI_T hb.1 hb.2], fun h => by rw [h]⟩
theorem vB_0 : vB 0 := ⟨by omega, by omega⟩
theorem vI_cl {k : Nat} (h : k < 2147483648) : (vI (k : Int)).toNatClampNeg = k := by
  show (vI (k : Int)).toInt.toNat = k
  rw [vI_T (by omega) (by omega)]
  exact Int.toNat_natCast k
theorem vI_in {k n : Nat} (h : k < n) (hn : n ≤ 2147483647) : vp_in (vI (k : Int)) n := vp_in_iff.mpr (by rw [vI_T (by omega) (by omega)]; omega)
theorem vI_nat (k : Nat) : Int32.ofNat k = vI (k : Int) := Int32.ofInt_eq_ofNat.symm
theorem vI_div {a b : Int} (ha : 0 ≤ a ∧ a < 2147483648) (hb : 0 < b ∧ b < 2147483648) : vI a / vI b = vI (a / b) := by
  have h1 : vI b ≠ -1 := fun h => by
    have h2 := congrArg Int32.toInt h
    rw [vI_T (by omega) (by omega)] at h2
    have h3 : (-1 : Int32).toInt = -1 := by decide
    omega
  have h4 : 0 ≤ a / b := Int.ediv_nonneg ha.1 (by omega)
  have h5 : a / b ≤ a := Int.ediv_le_self b ha.1
  apply Int32.toInt.inj
  rw [Int32.toInt_div_of_ne_right _ _ h1, vI_T (by omega) (by omega), vI_T (by omega) (by omega), vI_T (by omega) (by omega), Int.tdiv_eq_ediv_of_nonneg ha.1]
theorem vI_max {x y : Int} (hx : vB x) (hy : vB y) : (if vI x < vI y then vI y else vI x) = vI (max x y) := by
  by_cases h : x < y
  · rw [if_pos ((vI_lt hx hy).mpr h)]; congr 1; omega
  · rw [if_neg (fun q => h ((vI_lt hx hy).mp q))]; congr 1; omega
theorem vI_min {x y : Int} (hx : vB x) (hy : vB y) : (if vI y < vI x then vI y else vI x) = vI (min x y) := by
  by_cases h : y < x
  · rw [if_pos ((vI_lt hy hx).mpr h)]; congr 1; omega
  · rw [if_neg (fun q => h ((vI_lt hy hx).mp q))]; congr 1; omega
/-- a row of numbers, one place set -/
def zU (g : Nat → Int) (k : Nat) (z : Int) : Nat → Int := fun j => if j = k then z else g j
theorem zU_s {g : Nat → Int} {k : Nat} {z : Int} : zU g k z k = z := by simp [zU]
theorem zU_n {g : Nat → Int} {k j : Nat} {z : Int} (h : j ≠ k) : zU g k z j = g j := by simp [zU, h]
/-- an array's cell, its contents by value -/
abbrev ia (a : Nat) (cA : ClassId) (n : Nat) (g : Nat → Int) : Nat × va_E := (a, .inl (cA, n, .inl (fun j => vI (g j))))
theorem vI_nb {z : Int} (h : -128 ≤ z ∧ z < 128) : vp_nar .byte (vI z) = vI z := by
  rw [vp_nar_byte]
  apply Int32.toInt.inj
  rw [Int8.toInt_toInt32, show (vI z).toInt8 = Int8.ofInt z from Int32.toInt8_ofInt, Int8.toInt_ofInt_of_le (by omega) (by omega), vI_T (by omega) (by omega)]
section ZW
variable {p : Program} {l : Launch} {e : Env} {R : Room} {s : State} {m : MethodId} {args : Array Value} {below : List Frame} {meth : Method} {c : Code} {H : Heap} {locs : List Loc} {cells slots : Nat} {Q : State → Prop} {cc : ByteArray} {pc : Nat} {ls : Array Slot} {rest : List Value} {D : va_G} {cl : List vw_C} {A : Nat → Prop} {a : Nat} {tys : List (ClassId × FieldType)} {ws : va_W} {H0 : Heap}
theorem zw_iconst (hx : p.tables.exec = Jvm.exec) (hb : c.code = cc) {n : Int} (hdg : decode cc pc = .ok (.iconst n, 1)) (k : W p l e R s m args below meth c H locs cells slots Q (F0 m (pc + 1) ls (.int (vI n) :: rest))) : W p l e R s m args below meth c H locs cells slots Q (F0 m pc ls (rest)) := lv_iconst hx hb hdg rfl k
theorem zw_bipush (hx : p.tables.exec = Jvm.exec) (hb : c.code = cc) {n : Int} (hdg : decode cc pc = .ok (.bipush n, 2)) (hv : (Int8.ofInt n).toInt32 = vI n) (k : W p l e R s m args below meth c H locs cells slots Q (F0 m (pc + 2) ls (.int (vI n) :: rest))) : W p l e R s m args below meth c H locs cells slots Q (F0 m pc ls (rest)) := lv_bipush hx hb hdg hv k
theorem zw_sipush (hx : p.tables.exec = Jvm.exec) (hb : c.code = cc) {n : Int} (hdg : decode cc pc = .ok (.sipush n, 3)) (hv : (Int16.ofInt n).toInt32 = vI n) (k : W p l e R s m args below meth c H locs cells slots Q (F0 m (pc + 3) ls (.int (vI n) :: rest))) : W p l e R s m args below meth c H locs cells slots Q (F0 m pc ls (rest)) := lv_sipush hx hb hdg hv k
theorem zw_as {x : Int32} {z : Int} (h : x = vI z) (k : W p l e R s m args below meth c H locs cells slots Q (F0 m pc ls (.int (vI z) :: rest))) : W p l e R s m args below meth c H locs cells slots Q (F0 m pc ls (.int x :: rest)) := h ▸ k
theorem zw_to {z z2 : Int} (h : z = z2) (k : W p l e R s m args below meth c H locs cells slots Q (F0 m pc ls (.int (vI z2) :: rest))) : W p l e R s m args below meth c H locs cells slots Q (F0 m pc ls (.int (vI z) :: rest)) := h ▸ k
theorem zw_tol {x z2 : Int64} (h : x = z2) (k : W p l e R s m args below meth c H locs cells slots Q (F0 m pc ls (.long z2 :: rest))) : W p l e R s m args below meth c H locs cells slots Q (F0 m pc ls (.long x :: rest)) := h ▸ k
theorem zw_iadd (hx : p.tables.exec = Jvm.exec) (hb : c.code = cc) {x y : Int} (hdg : decode cc pc = .ok (.iadd, 1)) (k : W p l e R s m args below meth c H locs cells slots Q (F0 m (pc + 1) ls (.int (vI (x + y)) :: rest))) : W p l e R s m args below meth c H locs cells slots Q (F0 m pc ls (.int (vI y) :: .int (vI x) :: rest)) := lv_iadd hx hb hdg (by rw [vI_add]; exact k)
theorem zw_isub (hx : p.tables.exec = Jvm.exec) (hb : c.code = cc) {x y : Int} (hdg : decode cc pc = .ok (.isub, 1)) (k : W p l e R s m args below meth c H locs cells slots Q (F0 m (pc + 1) ls (.int (vI (x - y)) :: rest))) : W p l e R s m args below meth c H locs cells slots Q (F0 m pc ls (.int (vI y) :: .int (vI x) :: rest)) := lv_isub hx hb hdg (by rw [vI_sub]; exact k)
theorem zw_imul (hx : p.tables.exec = Jvm.exec) (hb : c.code = cc) {x y : Int} (hdg : decode cc pc = .ok (.imul, 1)) (k : W p l e R s m args below meth c H locs cells slots Q (F0 m (pc + 1) ls (.int (vI (x * y)) :: rest))) : W p l e R s m args below meth c H locs cells slots Q (F0 m pc ls (.int (vI y) :: .int (vI x) :: rest)) := lv_imul hx hb hdg (by rw [vI_mul]; exact k)
theorem zw_idiv (hx : p.tables.exec = Jvm.exec) (hb : c.code = cc) {x y : Int} (hdg : decode cc pc = .ok (.idiv, 1)) (h1 : 0 ≤ x ∧ x < 2147483648) (h2 : 0 < y ∧ y < 2147483648) (k : W p l e R s m args below meth c H locs cells slots Q (F0 m (pc + 1) ls (.int (vI (x / y)) :: rest))) : W p l e R s m args below meth c H locs cells slots Q (F0 m pc ls (.int (vI y) :: .int (vI x) :: rest)) := lv_idiv hx hb hdg (fun h => by have h3 : y = 0 := (vI_eq ⟨by omega, by omega⟩ vB_0).mp h; omega) (by rw [vI_div h1 h2]; exact k)
theorem zw_if_eq (hx : p.tables.exec = Jvm.exec) (hb : c.code = cc) {x : Int} {off : Int} {tgt : Nat} (hdg : decode cc pc = .ok (.ifCond .eq off, 3)) (ht : (pc : Int) + off = (tgt : Int)) (hz : vB x) (kt : x = 0 → W p l e R s m args below meth c H locs cells slots Q (F0 m tgt ls rest)) (kf : ¬ x = 0 → W p l e R s m args below meth c H locs cells slots Q (F0 m (pc + 3) ls rest)) : W p l e R s m args below meth c H locs cells slots Q (F0 m pc ls (.int (vI x) :: rest)) := lv_if_eq hx hb hdg ht (fun h => kt ((vI_eq hz vB_0).mp h)) (fun h => kf (fun q => h ((vI_eq hz vB_0).mpr q)))
theorem zw_icmp_eq (hx : p.tables.exec = Jvm.exec) (hb : c.code = cc) {x y : Int} {off : Int} {tgt : Nat} (hdg : decode cc pc = .ok (.if_icmp .eq off, 3)) (ht : (pc : Int) + off = (tgt : Int)) (hz : vB x) (hy : vB y) (kt : x = y → W p l e R s m args below meth c H locs cells slots Q (F0 m tgt ls rest)) (kf : ¬ x = y → W p l e R s m args below meth c H locs cells slots Q (F0 m (pc + 3) ls rest)) : W p l e R s m args below meth c H locs cells slots Q (F0 m pc ls (.int (vI y) :: .int (vI x) :: rest)) := lv_icmp_eq hx hb hdg ht (fun h => kt ((vI_eq hz hy).mp h)) (fun h => kf (fun q => h ((vI_eq hz hy).mpr q)))
theorem zw_if_ne (hx : p.tables.exec = Jvm.exec) (hb : c.code = cc) {x : Int} {off : Int} {tgt : Nat} (hdg : decode cc pc = .ok (.ifCond .ne off, 3)) (ht : (pc : Int) + off = (tgt : Int)) (hz : vB x) (kt : ¬ x = 0 → W p l e R s m args below meth c H locs cells slots Q (F0 m tgt ls rest)) (kf : x = 0 → W p l e R s m args below meth c H locs cells slots Q (F0 m (pc + 3) ls rest)) : W p l e R s m args below meth c H locs cells slots Q (F0 m pc ls (.int (vI x) :: rest)) := lv_if_ne hx hb hdg ht (fun h => kt (fun q => h ((vI_eq hz vB_0).mpr q))) (fun h => kf ((vI_eq hz vB_0).mp h))
theorem zw_icmp_ne (hx : p.tables.exec = Jvm.exec) (hb : c.code = cc) {x y : Int} {off : Int} {tgt : Nat} (hdg : decode cc pc = .ok (.if_icmp .ne off, 3)) (ht : (pc : Int) + off = (tgt : Int)) (hz : vB x) (hy : vB y) (kt : ¬ x = y → W p l e R s m args below meth c H locs cells slots Q (F0 m tgt ls rest)) (kf : x = y → W p l e R s m args below meth c H locs cells slots Q (F0 m (pc + 3) ls rest)) : W p l e R s m args below meth c H locs cells slots Q (F0 m pc ls (.int (vI y) :: .int (vI x) :: rest)) := lv_icmp_ne hx hb hdg ht (fun h => kt (fun q => h ((vI_eq hz hy).mpr q))) (fun h => kf ((vI_eq hz hy).mp h))
theorem zw_if_lt (hx : p.tables.exec = Jvm.exec) (hb : c.code = cc) {x : Int} {off : Int} {tgt : Nat} (hdg : decode cc pc = .ok (.ifCond .lt off, 3)) (ht : (pc : Int) + off = (tgt : Int)) (hz : vB x) (kt : x < 0 → W p l e R s m args below meth c H locs cells slots Q (F0 m tgt ls rest)) (kf : 0 ≤ x → W p l e R s m args below meth c H locs cells slots Q (F0 m (pc + 3) ls rest)) : W p l e R s m args below meth c H locs cells slots Q (F0 m pc ls (.int (vI x) :: rest)) := lv_if_lt hx hb hdg ht (fun h => kt ((vI_lt hz vB_0).mp h)) (fun h => kf (Int.not_lt.mp (fun q => h ((vI_lt hz vB_0).mpr q))))
theorem zw_icmp_lt (hx : p.tables.exec = Jvm.exec) (hb : c.code = cc) {x y : Int} {off : Int} {tgt : Nat} (hdg : decode cc pc = .ok (.if_icmp .lt off, 3)) (ht : (pc : Int) + off = (tgt : Int)) (hz : vB x) (hy : vB y) (kt : x < y → W p l e R s m args below meth c H locs cells slots Q (F0 m tgt ls rest)) (kf : y ≤ x → W p l e R s m args below meth c H locs cells slots Q (F0 m (pc + 3) ls rest)) : W p l e R s m args below meth c H locs cells slots Q (F0 m pc ls (.int (vI y) :: .int (vI x) :: rest)) := lv_icmp_lt hx hb hdg ht (fun h => kt ((vI_lt hz hy).mp h)) (fun h => kf (Int.not_lt.mp (fun q => h ((vI_lt hz hy).mpr q))))
theorem zw_if_ge (hx : p.tables.exec = Jvm.exec) (hb : c.code = cc) {x : Int} {off : Int} {tgt : Nat} (hdg : decode cc pc = .ok (.ifCond .ge off, 3)) (ht : (pc : Int) + off = (tgt : Int)) (hz : vB x) (kt : 0 ≤ x → W p l e R s m args below meth c H locs cells slots Q (F0 m tgt ls rest)) (kf : x < 0 → W p l e R s m args below meth c H locs cells slots Q (F0 m (pc + 3) ls rest)) : W p l e R s m args below meth c H locs cells slots Q (F0 m pc ls (.int (vI x) :: rest)) := lv_if_ge hx hb hdg ht (fun h => kt ((vI_le vB_0 hz).mp h)) (fun h => kf (Int.not_le.mp (fun q => h ((vI_le vB_0 hz).mpr q))))
theorem zw_icmp_ge (hx : p.tables.exec = Jvm.exec) (hb : c.code = cc) {x y : Int} {off : Int} {tgt : Nat} (hdg : decode cc pc = .ok (.if_icmp .ge off, 3)) (ht : (pc : Int) + off = (tgt : Int)) (hz : vB x) (hy : vB y) (kt : y ≤ x → W p l e R s m args below meth c H locs cells slots Q (F0 m tgt ls rest)) (kf : x < y → W p l e R s m args below meth c H locs cells slots Q (F0 m (pc + 3) ls rest)) : W p l e R s m args below meth c H locs cells slots Q (F0 m pc ls (.int (vI y) :: .int (vI x) :: rest)) := lv_icmp_ge hx hb hdg ht (fun h => kt ((vI_le hy hz).mp h)) (fun h => kf (Int.not_le.mp (fun q => h ((vI_le hy hz).mpr q))))
theorem zw_if_gt (hx : p.tables.exec = Jvm.exec) (hb : c.code = cc) {x : Int} {off : Int} {tgt : Nat} (hdg : decode cc pc = .ok (.ifCond .gt off, 3)) (ht : (pc : Int) + off = (tgt : Int)) (hz : vB x) (kt : 0 < x → W p l e R s m args below meth c H locs cells slots Q (F0 m tgt ls rest)) (kf : x ≤ 0 → W p l e R s m args below meth c H locs cells slots Q (F0 m (pc + 3) ls rest)) : W p l e R s m args below meth c H locs cells slots Q (F0 m pc ls (.int (vI x) :: rest)) := lv_if_gt hx hb hdg ht (fun h => kt ((vI_lt vB_0 hz).mp h)) (fun h => kf (Int.not_lt.mp (fun q => h ((vI_lt vB_0 hz).mpr q))))
theorem zw_icmp_gt (hx : p.tables.exec = Jvm.exec) (hb : c.code = cc) {x y : Int} {off : Int} {tgt : Nat} (hdg : decode cc pc = .ok (.if_icmp .gt off, 3)) (ht : (pc : Int) + off = (tgt : Int)) (hz : vB x) (hy : vB y) (kt : y < x → W p l e R s m args below meth c H locs cells slots Q (F0 m tgt ls rest)) (kf : x ≤ y → W p l e R s m args below meth c H locs cells slots Q (F0 m (pc + 3) ls rest)) : W p l e R s m args below meth c H locs cells slots Q (F0 m pc ls (.int (vI y) :: .int (vI x) :: rest)) := lv_icmp_gt hx hb hdg ht (fun h => kt ((vI_lt hy hz).mp h)) (fun h => kf (Int.not_lt.mp (fun q => h ((vI_lt hy hz).mpr q))))
theorem zw_if_le (hx : p.tables.exec = Jvm.exec) (hb : c.code = cc) {x : Int} {off : Int} {tgt : Nat} (hdg : decode cc pc = .ok (.ifCond .le off, 3)) (ht : (pc : Int) + off = (tgt : Int)) (hz : vB x) (kt : x ≤ 0 → W p l e R s m args below meth c H locs cells slots Q (F0 m tgt ls rest)) (kf : 0 < x → W p l e R s m args below meth c H locs cells slots Q (F0 m (pc + 3) ls rest)) : W p l e R s m args below meth c H locs cells slots Q (F0 m pc ls (.int (vI x) :: rest)) := lv_if_le hx hb hdg ht (fun h => kt ((vI_le hz vB_0).mp h)) (fun h => kf (Int.not_le.mp (fun q => h ((vI_le hz vB_0).mpr q))))
theorem zw_icmp_le (hx : p.tables.exec = Jvm.exec) (hb : c.code = cc) {x y : Int} {off : Int} {tgt : Nat} (hdg : decode cc pc = .ok (.if_icmp .le off, 3)) (ht : (pc : Int) + off = (tgt : Int)) (hz : vB x) (hy : vB y) (kt : x ≤ y → W p l e R s m args below meth c H locs cells slots Q (F0 m tgt ls rest)) (kf : y < x → W p l e R s m args below meth c H locs cells slots Q (F0 m (pc + 3) ls rest)) : W p l e R s m args below meth c H locs cells slots Q (F0 m pc ls (.int (vI y) :: .int (vI x) :: rest)) := lv_icmp_le hx hb hdg ht (fun h => kt ((vI_le hz hy).mp h)) (fun h => kf (Int.not_le.mp (fun q => h ((vI_le hz hy).mpr q))))
theorem zw_iald (hx : p.tables.exec = Jvm.exec) (hb : c.code = cc) (hK : va_K D cl tys s) (hP : va_P D cl ws H) (q0 t0 : Nat) {cA : ClassId} {n : Nat} {g : Nat → Int} (ha : ws[q0]? = some (ia a cA n g)) (ht : tys[t0]? = some (cA, .int)) {z : Int} (k : Nat) (hz : z = (k : Int)) (hk : k < n) (hn : n ≤ 2147483647) (hdg : decode cc pc = .ok (.iaload, 1)) (kk : W p l e R s m args below meth c H locs cells slots Q (F0 m (pc + 1) ls (.int (vI (g k)) :: rest))) : W p l e R s m args below meth c H locs cells slots Q (F0 m pc ls (.int (vI z) :: .ref a :: rest)) := by
  subst hz
  refine va_iald hx hb hK hP q0 t0 ha ht (vI_in hk hn) hdg ?_
  rw [vI_cl (by omega)]
  exact kk
theorem zw_iast (hx : p.tables.exec = Jvm.exec) (hb : c.code = cc) (hK : va_K D cl tys s) (hP : va_P D cl ws H) (hD : va_D A ws) (hS : va_S A H0 H locs) (q0 t0 : Nat) {cA : ClassId} {n : Nat} {g : Nat → Int} (ha : ws[q0]? = some (ia a cA n g)) (ht : tys[t0]? = some (cA, .int)) {z x : Int} (k : Nat) (hz : z = (k : Int)) (hk : k < n) (hn : n ≤ 2147483647) (hdg : decode cc pc = .ok (.iastore, 1)) (kk : ∀ (H1 : Heap) (locs1 : List Loc), va_P D cl (ws.set q0 (ia a cA n (zU g k x))) H1 → va_D A (ws.set q0 (ia a cA n (zU g k x))) → va_S A H0 H1 locs1 → W p l e R s m args below meth c H1 locs1 cells slots Q (F0 m (pc + 1) ls rest)) : W p l e R s m args below meth c H locs cells slots Q (F0 m pc ls (.int (vI x) :: .int (vI z) :: .ref a :: rest)) := by
  subst hz
  have e0 : upd (fun j => vI (g j)) (vI (k : Int)).toNatClampNeg (vI x) = fun j => vI (zU g k x j) := by
    funext j
    rw [vI_cl (by omega)]
    unfold upd zU
    by_cases h : j = k <;> simp [h]
  refine va_iast hx hb hK hP hD hS q0 t0 ha ht (vI_in hk hn) hdg (fun H1 locs1 p1 d1 s1 => ?_)
  rw [e0] at p1 d1
  exact kk H1 locs1 p1 d1 s1
theorem zw_bald (hx : p.tables.exec = Jvm.exec) (hb : c.code = cc) (hK : va_K D cl tys s) (hP : va_P D cl ws H) (q0 t0 : Nat) {cA : ClassId} {n : Nat} {g : Nat → Int} (ha : ws[q0]? = some (ia a cA n g)) (ht : tys[t0]? = some (cA, .byte)) {z : Int} (k : Nat) (hz : z = (k : Int)) (hk : k < n) (hn : n ≤ 2147483647) (hdg : decode cc pc = .ok (.baload, 1)) (kk : W p l e R s m args below meth c H locs cells slots Q (F0 m (pc + 1) ls (.int (vI (g k)) :: rest))) : W p l e R s m args below meth c H locs cells slots Q (F0 m pc ls (.int (vI z) :: .ref a :: rest)) := by
  subst hz
  refine va_bald hx hb hK hP q0 t0 ha ht (vI_in hk hn) hdg ?_
  rw [vI_cl (by omega)]
  exact kk
theorem zw_bast (hx : p.tables.exec = Jvm.exec) (hb : c.code = cc) (hK : va_K D cl tys s) (hP : va_P D cl ws H) (hD : va_D A ws) (hS : va_S A H0 H locs) (q0 t0 : Nat) {cA : ClassId} {n : Nat} {g : Nat → Int} (ha : ws[q0]? = some (ia a cA n g)) (ht : tys[t0]? = some (cA, .byte)) {z x : Int} (k : Nat) (hz : z = (k : Int)) (hk : k < n) (hn : n ≤ 2147483647) (hv : -128 ≤ x ∧ x < 128) (hdg : decode cc pc = .ok (.bastore, 1)) (kk : ∀ (H1 : Heap) (locs1 : List Loc), va_P D cl (ws.set q0 (ia a cA n (zU g k x))) H1 → va_D A (ws.set q0 (ia a cA n (zU g k x))) → va_S A H0 H1 locs1 → W p l e R s m args below meth c H1 locs1 cells slots Q (F0 m (pc + 1) ls rest)) : W p l e R s m args below meth c H locs cells slots Q (F0 m pc ls (.int (vI x) :: .int (vI z) :: .ref a :: rest)) := by
  subst hz
  have e0 : upd (fun j => vI (g j)) (vI (k : Int)).toNatClampNeg (vp_nar .byte (vI x)) = fun j => vI (zU g k x j) := by
    funext j
    rw [vI_cl (by omega), vI_nb hv]
    unfold upd zU
    by_cases h : j = k <;> simp [h]
  refine va_bast hx hb hK hP hD hS q0 t0 ha ht (vI_in hk hn) hdg (fun H1 locs1 p1 d1 s1 => ?_)
  rw [e0] at p1 d1
  exact kk H1 locs1 p1 d1 s1
theorem zw_alen (hx : p.tables.exec = Jvm.exec) (hb : c.code = cc) (hK : va_K D cl tys s) (hP : va_P D cl ws H) (q0 t0 : Nat) {cA : ClassId} {n : Nat} {g : Nat → Int} (ha : ws[q0]? = some (ia a cA n g)) {ty : FieldType} (ht : tys[t0]? = some (cA, ty)) (hdg : decode cc pc = .ok (.arraylength, 1)) (kk : W p l e R s m args below meth c H locs cells slots Q (F0 m (pc + 1) ls (.int (vI (n : Int)) :: rest))) : W p l e R s m args below meth c H locs cells slots Q (F0 m pc ls (.ref a :: rest)) := va_alen hx hb hK hP q0 t0 ha ht (vI_nat n) hdg kk
theorem zw_newi (hx : p.tables.exec = Jvm.exec) (hb : c.code = cc) (harr : (Cond.arrayClass (newarray.typeOf .int)).before args s = true) (hK : va_K D cl tys s) (hP : va_P D cl ws H) (hD : va_D A ws) (hS : va_S A H0 H locs) (hA : ∀ q, H0.size ≤ q → A q) (t0 : Nat) {cA : ClassId} (ht : tys[t0]? = some (cA, .int)) {z : Int} (N : Nat) (hz : z = (N : Int)) (hN : N ≤ 1000000) (hcells : cells + 1 ≤ R.cells) (hslots : slots + N ≤ R.slots) (hdg : decode cc pc = .ok (.newarray .int, 2)) (kk : ∀ (q : Nat) (H1 : Heap), va_P D cl (ws ++ [ia q cA N (fun _ => 0)]) H1 → va_D A (ws ++ [ia q cA N (fun _ => 0)]) → va_S A H0 H1 locs → W p l e R s m args below meth c H1 locs (cells + 1) (slots + N) Q (F0 m (pc + 2) ls (.ref q :: rest))) : W p l e R s m args below meth c H locs cells slots Q (F0 m pc ls (.int (vI z) :: rest)) := by
  subst hz
  refine va_newa hx hb harr (ty := .int) rfl hK hP hD hS hA (a0 := (N, .inl (fun _ => vI 0))) (fun _ => rfl) (fun h => by have h2 := (vI_lt ⟨by omega, by omega⟩ vB_0).mp h; omega) (vI_cl (by omega)) (Nat.le_trans (Nat.mul_le_mul hN (show componentBytes .int ≤ 8 by decide)) (by decide)) hcells hslots hdg (fun q cB H1 hK1 hP1 hD1 hS1 => ?_)
  have e0 : cB = cA := by
    have h1 : s.vm.findClass ("[" ++ FieldType.toString .int) = some cB := (hK1.2 tys.length (cB, .int) (by simp)).2
    have h2 : s.vm.findClass ("[" ++ FieldType.toString .int) = some cA := (hK.2 t0 _ ht).2
    exact Option.some.inj (h1.symm.trans h2)
  subst e0
  exact kk q H1 hP1 hD1 hS1
theorem zw_newb (hx : p.tables.exec = Jvm.exec) (hb : c.code = cc) (harr : (Cond.arrayClass (newarray.typeOf .byte)).before args s = true) (hK : va_K D cl tys s) (hP : va_P D cl ws H) (hD : va_D A ws) (hS : va_S A H0 H locs) (hA : ∀ q, H0.size ≤ q → A q) (t0 : Nat) {cA : ClassId} (ht : tys[t0]? = some (cA, .byte)) {z : Int} (N : Nat) (hz : z = (N : Int)) (hN : N ≤ 1000000) (hcells : cells + 1 ≤ R.cells) (hslots : slots + N ≤ R.slots) (hdg : decode cc pc = .ok (.newarray .byte, 2)) (kk : ∀ (q : Nat) (H1 : Heap), va_P D cl (ws ++ [ia q cA N (fun _ => 0)]) H1 → va_D A (ws ++ [ia q cA N (fun _ => 0)]) → va_S A H0 H1 locs → W p l e R s m args below meth c H1 locs (cells + 1) (slots + N) Q (F0 m (pc + 2) ls (.ref q :: rest))) : W p l e R s m args below meth c H locs cells slots Q (F0 m pc ls (.int (vI z) :: rest)) := by
  subst hz
  refine va_newa hx hb harr (ty := .byte) rfl hK hP hD hS hA (a0 := (N, .inl (fun _ => vI 0))) (fun _ => rfl) (fun h => by have h2 := (vI_lt ⟨by omega, by omega⟩ vB_0).mp h; omega) (vI_cl (by omega)) (Nat.le_trans (Nat.mul_le_mul hN (show componentBytes .byte ≤ 8 by decide)) (by decide)) hcells hslots hdg (fun q cB H1 hK1 hP1 hD1 hS1 => ?_)
  have e0 : cB = cA := by
    have h1 : s.vm.findClass ("[" ++ FieldType.toString .byte) = some cB := (hK1.2 tys.length (cB, .byte) (by simp)).2
    have h2 : s.vm.findClass ("[" ++ FieldType.toString .byte) = some cA := (hK.2 t0 _ ht).2
    exact Option.some.inj (h1.symm.trans h2)
  subst e0
  exact kk q H1 hP1 hD1 hS1
end ZW
/-- the nest mates' links, as the state has them -/
def zNs (U : State) : Prop := ∀ w ∈ nwL, va_Nw w U
theorem zNs_warm {s U : State} (hW : s.WarmedH U.vm) (h : zNs s) : zNs U := by
  intro w hw
  have h1 := nwL_is w hw
  have h2 := h w hw
  cases w <;> first | exact va_Nw.warmF hW h2 | exact va_Nw.warmM hW h2 | (exact absurd h1 (by simp [zIsN]))
theorem zNs_same {u U : State} (e : u.vm = U.vm) (h : zNs u) : zNs U := by
  intro w hw
  have h1 := nwL_is w hw
  have h2 := h w hw
  cases w <;> first | exact va_Nw.same rfl e h2 | (exact absurd h1 (by simp [zIsN]))
/-- a contract's start: its cells, the tables -/
def zPre (D : va_G) (cl : List vw_C) (tys : List (ClassId × FieldType)) (ws : va_W) (sz : Nat) : State → Prop := fun U => U.heap.size = sz ∧ va_P D cl ws U.heap ∧ va_K D cl tys U ∧ zNs U ∧ va_D (fun _ => True) ws
/-- its end: the cells behind it -/
def zB (D : va_G) (cl : List vw_C) (A : Nat → Prop) (ws : va_W) (t : State) : Prop := va_P D cl ws t.heap ∧ va_D A ws
theorem zPre_blind {D : va_G} {cl : List vw_C} {tys : List (ClassId × FieldType)} {ws : va_W} {sz : Nat} {av : List Value} : FrameBlind (va_Pc av (zPre D cl tys ws sz)) := by
  intro a U g mk q
  obtain ⟨q0, q1, qP, qK, qN, qD⟩ := q
  exact ⟨q0, q1, qP, va_K.moved (u := U) (U := U.calling g mk a) (Vm.Alike.refl U.vm) qK, zNs_same (u := U) (U := U.calling g mk a) rfl qN, qD⟩
theorem zPre_of {D : va_G} {cl : List vw_C} {tys : List (ClassId × FieldType)} {ws : va_W} {av : List Value} {s : State} {H : Heap} {A : Nat → Prop} (hK : va_K D cl tys s) (hns : zNs s) (hP : va_P D cl ws H) (hD : va_D A ws) : ∀ U : State, U.heap = H → s.WarmedH U.vm → va_Pc av (zPre D cl tys ws H.size) av.toArray U :=
  fun U hU hW => ⟨rfl, by rw [hU], by rw [hU]; exact hP, va_K.moved hW.alike hK, zNs_warm hW hns, hD.weaken (fun _ _ _ _ => trivial)⟩
theorem zMet {l : Launch} {y : MethodName} {wds : List Cond} {rm : Room} {cc : ByteArray} {maxL : Nat} {ret : Option FieldType} {D : va_G} {cl : List vw_C} {tys : List (ClassId × FieldType)} {av : List Value} {W0 : va_W} {sz : Nat} {Qc : Array Value → State → Outcome → State → Prop} {mc ms : Nat}
    (hy : plainName y.cls = true) (hw : wds = Cond.code y cc maxL ret :: zALL) (hlen : (lg_sl av).length ≤ maxL)
    (body : ∀ (p : Program) (e : Env) (s : State) (m : MethodId) (below : List Frame) (meth : Method) (c : Code), p.tables.exec = Jvm.exec → c.code = cc → meth.sig.returnType = ret → (∀ w ∈ zALL, w.before av.toArray s = true) → s.vm.findClass y.cls = some m.cls → meth.locks = false → meth.name = y.name → c.maxLocals = maxL → va_K D cl tys s → zNs s → (∀ q, s.heap.size ≤ q → va_A W0 sz q) → va_P D cl W0 s.heap → va_D (va_A W0 sz) W0 → va_S (va_A W0 sz) s.heap s.heap [] →
      ∀ ls : Array Slot, lv_has ls maxL (lv_args 0 av) → W p l e rm s m av.toArray below meth c s.heap [] 0 0 (MQ below Qc av.toArray s mc ms (va_A W0 sz)) (F0 m 0 ls [])) :
    Met l y wds rm (va_Pc av (zPre D cl tys W0 sz)) Qc mc ms (va_A W0 sz) := by
  refine Met.ofW (cc := cc) (maxL := maxL) (ret := ret) hy hw ?_
  intro p e s m args below meth c s₁ B hml hv
  obtain ⟨rfl, hsz, hP, hK, hN, hD0⟩ := hv
  have hts0 := atoms_spec (ws := wds) B.pre
  have hts : ∀ w ∈ zALL, w.before av.toArray s = true := fun w h => hts0 w (by rw [hw]; exact List.mem_cons_of_mem _ h)
  have hown : s.vm.findClass y.cls = some m.cls := findClass_of_methodNamed B.named
  rw [lg_entry_eq]
  exact body p e s m below meth c B.exec B.bytes B.returns hts hown B.notSynchronized (name_of_methodNamed B.named B.method).1 hml hK hN (fun q h => Or.inr (hsz ▸ h)) hP hD0.self va_S.rf _ (lv_entry av hlen)
section ZC
variable {p : Program} {l : Launch} {e : Env} {R : Room} {s : State} {m : MethodId} {args : Array Value} {below : List Frame} {meth : Method} {c : Code} {H : Heap} {locs : List Loc} {cells slots : Nat} {Q : State → Prop} {cc : ByteArray} {pc : Nat} {ls : Array Slot} {rest : List Value} {D : va_G} {cl : List vw_C} {A : Nat → Prop} {a : Nat} {tys : List (ClassId × FieldType)} {ws : va_W} {H0 : Heap}
variable {mc ms : Nat} {st0 : List Value} {av : Array Value}
theorem zc_i {S : Type} {post : Int32 → S → Prop} {Wc wr : va_W} {W1 : S → va_W} (hr : va_Run p l e R s m args below meth c H locs cells slots mc ms (F0 m pc ls st0) rest (va_Qi post (fun u t => zB D cl (va_A Wc H.size) (W1 u) t) (va_A Wc H.size) av) (va_A Wc H.size)) (hP : va_P D cl ws H) (hD : va_D A ws) (hS : va_S A H0 H locs) (hA : ∀ q, H0.size ≤ q → A q) (isC isR : List Nat) (hC : isC.map (fun i => ws[i]?) = Wc.map some) (hR : isR.map (fun i => ws[i]?) = wr.map some) (hn : va_nd isR = true) (hdis : ∀ i ∈ isR, i ∉ isC)
    (kk : ∀ (r : Int32) (u : S) (H1 : Heap) (locs1 : List Loc), post r u → va_P D cl (wr ++ W1 u) H1 → va_D A (wr ++ W1 u) → va_S A H0 H1 locs1 → W p l e R s m args below meth c H1 locs1 (cells + mc) (slots + ms) Q (F0 m (pc + 3) ls (.int r :: rest))) : W p l e R s m args below meth c H locs cells slots Q (F0 m pc ls st0) := by
  have hF := va_free (wc := Wc) hD hS hA isC hC
  refine va_calli hr hS (fun q _ h => hF q h) hF (fun r u t H1 locs1 ht hvm hw hB hz hk hS1 => ?_)
  obtain ⟨p1, d1⟩ := hB
  rw [ht] at p1
  obtain ⟨a1, b1⟩ := va_join hP hD isC isR hC hR hn hdis hk hF p1 d1
  exact kk r u H1 locs1 hw a1 b1 hS1
theorem zc_v {S : Type} {post : S → Prop} {Wc wr : va_W} {W1 : S → va_W} (hr : va_Run p l e R s m args below meth c H locs cells slots mc ms (F0 m pc ls st0) rest (va_Qv post (fun u t => zB D cl (va_A Wc H.size) (W1 u) t) (va_A Wc H.size) av) (va_A Wc H.size)) (hP : va_P D cl ws H) (hD : va_D A ws) (hS : va_S A H0 H locs) (hA : ∀ q, H0.size ≤ q → A q) (isC isR : List Nat) (hC : isC.map (fun i => ws[i]?) = Wc.map some) (hR : isR.map (fun i => ws[i]?) = wr.map some) (hn : va_nd isR = true) (hdis : ∀ i ∈ isR, i ∉ isC)
    (kk : ∀ (u : S) (H1 : Heap) (locs1 : List Loc), post u → va_P D cl (wr ++ W1 u) H1 → va_D A (wr ++ W1 u) → va_S A H0 H1 locs1 → W p l e R s m args below meth c H1 locs1 (cells + mc) (slots + ms) Q (F0 m (pc + 3) ls rest)) : W p l e R s m args below meth c H locs cells slots Q (F0 m pc ls st0) := by
  have hF := va_free (wc := Wc) hD hS hA isC hC
  refine va_callv hr hS (fun q _ h => hF q h) hF (fun u t H1 locs1 ht hvm hw hB hz hk hS1 => ?_)
  obtain ⟨p1, d1⟩ := hB
  rw [ht] at p1
  obtain ⟨a1, b1⟩ := va_join hP hD isC isR hC hR hn hdis hk hF p1 d1
  exact kk u H1 locs1 hw a1 b1 hS1
theorem zc_r {S : Type} {post : S → Prop} {Wc wr : va_W} {W1 : S → Nat → va_W} (hr : va_Run p l e R s m args below meth c H locs cells slots mc ms (F0 m pc ls st0) rest (va_Qr post (fun u ra t => zB D cl (va_A Wc H.size) (W1 u ra) t) (va_A Wc H.size) av) (va_A Wc H.size)) (hP : va_P D cl ws H) (hD : va_D A ws) (hS : va_S A H0 H locs) (hA : ∀ q, H0.size ≤ q → A q) (isC isR : List Nat) (hC : isC.map (fun i => ws[i]?) = Wc.map some) (hR : isR.map (fun i => ws[i]?) = wr.map some) (hn : va_nd isR = true) (hdis : ∀ i ∈ isR, i ∉ isC)
    (kk : ∀ (u : S) (ra : Nat) (H1 : Heap) (locs1 : List Loc), post u → va_P D cl (wr ++ W1 u ra) H1 → va_D A (wr ++ W1 u ra) → va_S A H0 H1 locs1 → W p l e R s m args below meth c H1 locs1 (cells + mc) (slots + ms) Q (F0 m (pc + 3) ls (.ref ra :: rest))) : W p l e R s m args below meth c H locs cells slots Q (F0 m pc ls st0) := by
  have hF := va_free (wc := Wc) hD hS hA isC hC
  refine va_callr hr hS (fun q _ h => hF q h) hF (fun u ra t H1 locs1 ht hvm hw hB hz hk hS1 => ?_)
  obtain ⟨p1, d1⟩ := hB
  rw [ht] at p1
  obtain ⟨a1, b1⟩ := va_join hP hD isC isR hC hR hn hdis hk hF p1 d1
  exact kk u ra H1 locs1 hw a1 b1 hS1
theorem zr_r {S : Type} {post : S → Prop} {W1 : S → Nat → va_W} {ty : FieldType} (hx : p.tables.exec = Jvm.exec) (hb : c.code = cc) (hr : meth.sig.returnType = some (.array ty)) (hlocks : meth.locks = false) (u : S) (ra : Nat) (hpost : post u) (hP : va_P D cl (W1 u ra) H) (hD : va_D A (W1 u ra)) (hS : va_S A s.heap H locs) (hdg : decode cc pc = .ok (.areturn, 1)) : W p l e R s m args below meth c H locs cells slots (MQ below (va_Qr post (fun u ra t => zB D cl A (W1 u ra) t) A) args s cells slots A) (F0 m pc ls [.ref ra]) :=
  W.aret hx hb hr (Or.inr ⟨_, rfl⟩) (Or.inr ⟨_, rfl⟩) (fun t ht _ => ⟨⟨u, ra, rfl, hpost, by rw [ht]; exact hP, hD⟩, hS.F ht⟩) hS.2.2 hdg hlocks
theorem zw_copyb (hx : p.tables.exec = Jvm.exec) (hb : c.code = cc) (hml : c.maxLocals = ls.size) {own : String} {index : Nat} (hown : s.vm.findClass own = some m.cls) (hlink : (Cond.methodLink own index arraycopyName).before args s = true) (hnat : (Cond.native arraycopyName).before args s = true) (hstat : (Cond.static arraycopyName).before args s = true) (hini : (Cond.initialized "java/lang/System").before args s = true)
    (hK : va_K D cl tys s) (hP : va_P D cl ws H) (hD : va_D A ws) (hS : va_S A H0 H locs) (q0 q1 t0 : Nat) {a0 : Nat} {cB : ClassId} {n0 n1 : Nat} {g g1 : Nat → Int} (ha0 : ws[q0]? = some (ia a0 cB n0 g)) (ha1 : ws[q1]? = some (ia a cB n1 g1)) (ht : tys[t0]? = some (cB, .byte)) {z : Int} (k : Nat) (hz : z = (k : Int)) (h0 : k ≤ n0) (h1 : k ≤ n1) (hk : k ≤ 2147483647) (hby : ∀ j, -128 ≤ g j ∧ g j < 128)
    (hframes : 1 ≤ R.frames) (hlocals : (rest.map fun v => v.category).sum + (nativeFrameWords "java/lang/System" "arraycopy" 5 + 11) ≤ R.locals) (hdg : decode cc pc = .ok (.invokestatic index, 3))
    (kk : ∀ (H1 : Heap) (locs1 : List Loc), va_P D cl (ws.set q1 (ia a cB n1 (fun j => if j < k then g j else g1 j))) H1 → va_D A (ws.set q1 (ia a cB n1 (fun j => if j < k then g j else g1 j))) → va_S A H0 H1 locs1 → W p l e R s m args below meth c H1 locs1 cells slots Q (F0 m (pc + 3) ls rest)) : W p l e R s m args below meth c H locs cells slots Q (F0 m pc ls (.int (vI z) :: .int (vI 0) :: .ref a :: .int (vI 0) :: .ref a0 :: rest)) := by
  subst hz
  have e1 : (vI 0).toNatClampNeg = 0 := vI_cl (k := 0) (by omega)
  have e2 : (vI (k : Int)).toNatClampNeg = k := vI_cl (by omega)
  have nn : ∀ j : Nat, j ≤ 2147483647 → ¬ vI (j : Int) < 0 := fun j hj h => by
    have h2 := (vI_lt (b := 0) ⟨by omega, by omega⟩ vB_0).mp h
    omega
  have e0 : va_cpy (fun j => vI (g j)) (fun j => vI (g1 j)) (vI 0).toNatClampNeg (vI 0).toNatClampNeg (vI (k : Int)).toNatClampNeg = fun j => vI ((fun j => if j < k then g j else g1 j) j) := by
    funext j
    rw [e1, e2]
    by_cases h : j < k
    · rw [pk_cpy_in (by omega) (by omega)]
      simp [h]
    · rw [pk_cpy_out (Or.inr (by omega))]
      simp [h]
  refine va_copyi hx hb hml hown hlink hnat hstat hini hK hP hD hS q0 q1 t0 t0 (ty := .byte) ha0 ha1 ht ht rfl (nn 0 (by omega)) (nn 0 (by omega)) (nn k hk) (by rw [e1, e2]; omega) (by rw [e1, e2]; omega) (fun i _ => ?_) hframes hlocals hdg (fun H1 locs1 p1 d1 s1 => ?_)
  · have h3 := vI_nb (hby ((vI 0).toNatClampNeg + i))
    rw [vp_nar_byte] at h3
    rw [← h3]
    exact pk_fb _
  · rw [e0] at p1 d1
    exact kk H1 locs1 p1 d1 s1
theorem zr_i {S : Type} {post : Int32 → S → Prop} {W1 : S → va_W} {v : Int32} (hx : p.tables.exec = Jvm.exec) (hb : c.code = cc) (hr : meth.sig.returnType = some .int) (hlocks : meth.locks = false) (u : S) (hpost : post v u) (hP : va_P D cl (W1 u) H) (hD : va_D A (W1 u)) (hS : va_S A s.heap H locs) (hdg : decode cc pc = .ok (.ireturn, 1)) : W p l e R s m args below meth c H locs cells slots (MQ below (va_Qi post (fun u t => zB D cl A (W1 u) t) A) args s cells slots A) (F0 m pc ls [.int v]) :=
  W.iret (v := v) hx hb hr (fun t ht _ => ⟨⟨v, u, rfl, hpost, by rw [ht]; exact hP, hD⟩, hS.F ht⟩) hS.2.2 hdg hlocks
theorem zr_z {S : Type} {post : Int32 → S → Prop} {W1 : S → va_W} {v : Int32} (hx : p.tables.exec = Jvm.exec) (hb : c.code = cc) (hr : meth.sig.returnType = some .boolean) (hlocks : meth.locks = false) (u : S) (hn : narrow .boolean (.int v) = .int v) (hpost : post v u) (hP : va_P D cl (W1 u) H) (hD : va_D A (W1 u)) (hS : va_S A s.heap H locs) (hdg : decode cc pc = .ok (.ireturn, 1)) : W p l e R s m args below meth c H locs cells slots (MQ below (va_Qi post (fun u t => zB D cl A (W1 u) t) A) args s cells slots A) (F0 m pc ls [.int v]) :=
  W.zret (v := v) hx hb hr hn (fun t ht _ => ⟨⟨v, u, rfl, hpost, by rw [ht]; exact hP, hD⟩, hS.F ht⟩) hS.2.2 hdg hlocks
theorem zr_v {S : Type} {post : S → Prop} {W1 : S → va_W} (hx : p.tables.exec = Jvm.exec) (hb : c.code = cc) (hr : meth.sig.returnType = none) (hlocks : meth.locks = false) (u : S) (hpost : post u) (hP : va_P D cl (W1 u) H) (hD : va_D A (W1 u)) (hS : va_S A s.heap H locs) (hdg : decode cc pc = .ok (.return_, 1)) : W p l e R s m args below meth c H locs cells slots (MQ below (va_Qv post (fun u t => zB D cl A (W1 u) t) A) args s cells slots A) (F0 m pc ls []) :=
  W.vret hx hb hr (fun t ht _ => ⟨⟨u, rfl, hpost, by rw [ht]; exact hP, hD⟩, hS.F ht⟩) hS.2.2 hdg hlocks
end ZC
