def zroom (e : Nat) : Nat := if e ≤ 512 then 512 else if e ≤ 4096 then 4096 else 32768
theorem zs_l : ∀ n, n < 32 → ((vI ((n : Nat) : Int) &&& 31).toBitVec.smod 32).toNat = n := by decide +kernel
theorem vI_shr {d b : Nat} (hd : d < 2147483648) (hb : b < 32) : vI (d : Int) >>> (vI (b : Int) &&& 31) = vI ((d / 2 ^ b : Nat) : Int) := by
  rw [← vI_nat, ← vI_nat, vI_nat b]
  exact pk_shrN (by omega) _ b (zs_l b hb)
def zcmp (v : Int64) (z : Int) : Int := if v.toInt < z then -1 else if z < v.toInt then 1 else 0
theorem zcmp_in (v : Int64) (z : Int) : (zcmp v z = -1 ∧ v.toInt < z) ∨ (zcmp v z = 0 ∧ v.toInt = z) ∨ (zcmp v z = 1 ∧ z < v.toInt) := by
  unfold zcmp
  (repeat' split) <;> omega
theorem zcmp_is (v : Int64) {z : Int} (h1 : -2147483648 ≤ z) (h2 : z < 2147483648) : lg_cmp v (vI z).toInt64 = vI (zcmp v z) := by
  have e : (vI z).toInt64.toInt = z := by rw [Int32.toInt_toInt64, vI_T h1 h2]
  unfold lg_cmp zcmp
  have l1 : (v < (vI z).toInt64) ↔ v.toInt < z := by rw [Int64.lt_iff_toInt_lt, e]
  have l2 : ((vI z).toInt64 < v) ↔ z < v.toInt := by rw [Int64.lt_iff_toInt_lt, e]
  have l3 : (v = (vI z).toInt64) ↔ v.toInt = z := by rw [← Int64.toInt_inj, e]
  by_cases a : z < v.toInt
  · rw [if_pos (l2.mpr a), if_neg (by omega), if_pos a]; rfl
  · rw [if_neg (fun q => a (l2.mp q))]
    by_cases b : v.toInt = z
    · rw [if_pos (l3.mpr b), if_neg (by omega), if_neg (by omega)]; rfl
    · rw [if_neg (fun q => b (l3.mp q)), if_pos (by omega)]; rfl
set_option maxRecDepth 100000 in
set_option maxHeartbeats 4000000 in
theorem c_X5_within (l : Launch) (D : va_G) (cI cB : ClassId) (sz : Nat) (v : Int) (lo : Int) (hi : Int) (h1 : -2147483648 ≤ v ∧ v < 2147483648) (h2 : -2147483648 ≤ lo ∧ lo < 2147483648) (h3 : -2147483648 ≤ hi ∧ hi < 2147483648) : Met l yX5_within wsX5_within ({ frames := 0, cells := 0, slots := 0, locals := 0 } : Room) (va_Pc [.int (vI (v)), .int (vI (lo)), .int (vI (hi))] (zPre D vwCl [(cI, .int), (cB, .byte)] [] sz)) (va_Qi (S := Int) (fun (r : Int32) => fun b => (r = vI b) ∧ ((b = 1 ∧ lo ≤ v ∧ v ≤ hi) ∨ (b = 0 ∧ ¬ (lo ≤ v ∧ v ≤ hi)))) (fun (u : Int) t => zB D vwCl (va_A [] sz) ((fun b => [] : Int → va_W) u) t) (va_A [] sz)) (0) (0) (va_A [] sz) := by
  refine zMet (by decide) rfl (Nat.le_of_ble_eq_true rfl) (fun p e s m below meth c hx hb hr hts hown hlocks hnm hml hK hns hA hP hD hS ls hl => ?_)
  have hl : lv_has ls 3 [(0, .int (vI (v))), (1, .int (vI (lo))), (2, .int (vI (hi)))] := hl
  have hRf : 0 ≤ ({ frames := 0, cells := 0, slots := 0, locals := 0 } : Room).frames := Nat.le_refl _
  have hRl : 0 ≤ ({ frames := 0, cells := 0, slots := 0, locals := 0 } : Room).locals := Nat.le_refl _
  have hRc : 0 ≤ ({ frames := 0, cells := 0, slots := 0, locals := 0 } : Room).cells := Nat.zero_le _
  have hRs : 0 ≤ ({ frames := 0, cells := 0, slots := 0, locals := 0 } : Room).slots := Nat.zero_le _
  refine lv_iload_n hx hb dX5_within_0 rfl (lv_at hl 0 rfl) ?_
  refine lv_iload_n hx hb dX5_within_1 rfl (lv_at hl 1 rfl) ?_
  refine zw_icmp_lt (tgt := 14) hx hb dX5_within_2 (by decide) ⟨by omega, by omega⟩ ⟨by omega, by omega⟩ (fun c_2 => ?_) (fun c_2 => ?_)
  · refine zw_iconst hx hb dX5_within_14 ?_
    exact zr_z hx hb hr hlocks (0) (by decide +kernel) ⟨rfl, by omega⟩ hP hD hS dX5_within_15
  · refine lv_iload_n hx hb dX5_within_5 rfl (lv_at hl 0 rfl) ?_
    refine lv_iload_n hx hb dX5_within_6 rfl (lv_at hl 2 rfl) ?_
    refine zw_icmp_gt (tgt := 14) hx hb dX5_within_7 (by decide) ⟨by omega, by omega⟩ ⟨by omega, by omega⟩ (fun c_7 => ?_) (fun c_7 => ?_)
    · refine zw_iconst hx hb dX5_within_14 ?_
      exact zr_z hx hb hr hlocks (0) (by decide +kernel) ⟨rfl, by omega⟩ hP hD hS dX5_within_15
    · refine zw_iconst hx hb dX5_within_10 ?_
      refine lv_goto (tgt := 15) hx hb dX5_within_11 (by decide) ?_
      exact zr_z hx hb hr hlocks (1) (by decide +kernel) ⟨rfl, by omega⟩ hP hD hS dX5_within_15

set_option maxRecDepth 100000 in
set_option maxHeartbeats 4000000 in
theorem c_X3_hasPlace (l : Launch) (D : va_G) (cI cB : ClassId) (sz : Nat) (hR : Nat) (aB : Nat) (n : Nat) (pa : Nat) (v : Int) (h1 : -2147483648 ≤ v ∧ v < 2147483648) (h2 : n ≤ 32768) : Met l yX3_hasPlace wsX3_hasPlace ({ frames := 0, cells := 0, slots := 0, locals := 0 } : Room) (va_Pc [.ref hR, .int (vI (v))] (zPre D vwCl [(cI, .int), (cB, .byte)] [(hR, .inr (3, [.ref aB, .int (vI ((n : Nat) : Int)), .int (vI ((pa : Nat) : Int))]))] sz)) (va_Qi (S := Int) (fun (r : Int32) => fun b => (r = vI b) ∧ ((b = 1 ∧ 0 ≤ v ∧ v < n) ∨ (b = 0 ∧ ¬ (0 ≤ v ∧ v < n)))) (fun (u : Int) t => zB D vwCl (va_A [(hR, .inr (3, [.ref aB, .int (vI ((n : Nat) : Int)), .int (vI ((pa : Nat) : Int))]))] sz) ((fun b => [(hR, .inr (3, [.ref aB, .int (vI ((n : Nat) : Int)), .int (vI ((pa : Nat) : Int))]))] : Int → va_W) u) t) (va_A [(hR, .inr (3, [.ref aB, .int (vI ((n : Nat) : Int)), .int (vI ((pa : Nat) : Int))]))] sz)) (0) (0) (va_A [(hR, .inr (3, [.ref aB, .int (vI ((n : Nat) : Int)), .int (vI ((pa : Nat) : Int))]))] sz) := by
  refine zMet (by decide) rfl (Nat.le_of_ble_eq_true rfl) (fun p e s m below meth c hx hb hr hts hown hlocks hnm hml hK hns hA hP hD hS ls hl => ?_)
  have hl : lv_has ls 2 [(0, .ref hR), (1, .int (vI (v)))] := hl
  have hRf : 0 ≤ ({ frames := 0, cells := 0, slots := 0, locals := 0 } : Room).frames := Nat.le_refl _
  have hRl : 0 ≤ ({ frames := 0, cells := 0, slots := 0, locals := 0 } : Room).locals := Nat.le_refl _
  have hRc : 0 ≤ ({ frames := 0, cells := 0, slots := 0, locals := 0 } : Room).cells := Nat.zero_le _
  have hRs : 0 ≤ ({ frames := 0, cells := 0, slots := 0, locals := 0 } : Room).slots := Nat.zero_le _
  refine lv_iload_n hx hb dX3_hasPlace_0 rfl (lv_at hl 1 rfl) ?_
  refine zw_if_lt (tgt := 16) hx hb dX3_hasPlace_1 (by decide) ⟨by omega, by omega⟩ (fun c_1 => ?_) (fun c_1 => ?_)
  · refine zw_iconst hx hb dX3_hasPlace_16 ?_
    exact zr_z hx hb hr hlocks (0) (by decide +kernel) ⟨rfl, by omega⟩ hP hD hS dX3_hasPlace_17
  · refine lv_iload_n hx hb dX3_hasPlace_4 rfl (lv_at hl 1 rfl) ?_
    refine lv_aload_n hx hb dX3_hasPlace_5 rfl (lv_at hl 0 rfl) ?_
    refine va_get (D := D) (ci := 3) (v := .int (vI ((n : Nat) : Int))) (C := RX3) (T := TX3) (N := 3) hx hb hts iwX3 hown hK hP 0 rfl rfl 1 (by decide) (hts _ aw_28) (fun _ h9 => h9) rfl dX3_hasPlace_6 ?_
    refine zw_icmp_ge (tgt := 16) hx hb dX3_hasPlace_9 (by decide) ⟨by omega, by omega⟩ ⟨by omega, by omega⟩ (fun c_9 => ?_) (fun c_9 => ?_)
    · refine zw_iconst hx hb dX3_hasPlace_16 ?_
      exact zr_z hx hb hr hlocks (0) (by decide +kernel) ⟨rfl, by omega⟩ hP hD hS dX3_hasPlace_17
    · refine zw_iconst hx hb dX3_hasPlace_12 ?_
      refine lv_goto (tgt := 17) hx hb dX3_hasPlace_13 (by decide) ?_
      exact zr_z hx hb hr hlocks (1) (by decide +kernel) ⟨rfl, by omega⟩ hP hD hS dX3_hasPlace_17

set_option maxRecDepth 100000 in
set_option maxHeartbeats 4000000 in
theorem c_X3_takes (l : Launch) (D : va_G) (cI cB : ClassId) (sz : Nat) (hR : Nat) (aB : Nat) (n : Nat) (pa : Nat) (v : Int64) (h2 : n ≤ 32768) : Met l yX3_takes wsX3_takes ({ frames := 0, cells := 0, slots := 0, locals := 0 } : Room) (va_Pc [.ref hR, .long (v)] (zPre D vwCl [(cI, .int), (cB, .byte)] [(hR, .inr (3, [.ref aB, .int (vI ((n : Nat) : Int)), .int (vI ((pa : Nat) : Int))]))] sz)) (va_Qi (S := Int) (fun (r : Int32) => fun b => (r = vI b) ∧ ((b = 1 ∧ v.toInt + n ≤ 32768) ∨ (b = 0 ∧ 32768 < v.toInt + n))) (fun (u : Int) t => zB D vwCl (va_A [(hR, .inr (3, [.ref aB, .int (vI ((n : Nat) : Int)), .int (vI ((pa : Nat) : Int))]))] sz) ((fun b => [(hR, .inr (3, [.ref aB, .int (vI ((n : Nat) : Int)), .int (vI ((pa : Nat) : Int))]))] : Int → va_W) u) t) (va_A [(hR, .inr (3, [.ref aB, .int (vI ((n : Nat) : Int)), .int (vI ((pa : Nat) : Int))]))] sz)) (0) (0) (va_A [(hR, .inr (3, [.ref aB, .int (vI ((n : Nat) : Int)), .int (vI ((pa : Nat) : Int))]))] sz) := by
  refine zMet (by decide) rfl (Nat.le_of_ble_eq_true rfl) (fun p e s m below meth c hx hb hr hts hown hlocks hnm hml hK hns hA hP hD hS ls hl => ?_)
  have hl : lv_has ls 3 [(0, .ref hR), (1, .long (v))] := hl
  have hRf : 0 ≤ ({ frames := 0, cells := 0, slots := 0, locals := 0 } : Room).frames := Nat.le_refl _
  have hRl : 0 ≤ ({ frames := 0, cells := 0, slots := 0, locals := 0 } : Room).locals := Nat.le_refl _
  have hRc : 0 ≤ ({ frames := 0, cells := 0, slots := 0, locals := 0 } : Room).cells := Nat.zero_le _
  have hRs : 0 ≤ ({ frames := 0, cells := 0, slots := 0, locals := 0 } : Room).slots := Nat.zero_le _
  refine lv_lload_n hx hb dX3_takes_0 rfl (lv_at hl 1 rfl) ?_
  refine lv_ldc (v := vI 32768) hx hb hown (hts _ aw_292) dX3_takes_1 ?_
  refine lv_aload_n hx hb dX3_takes_3 rfl (lv_at hl 0 rfl) ?_
  refine va_get (D := D) (ci := 3) (v := .int (vI ((n : Nat) : Int))) (C := RX3) (T := TX3) (N := 3) hx hb hts iwX3 hown hK hP 0 rfl rfl 1 (by decide) (hts _ aw_28) (fun _ h9 => h9) rfl dX3_takes_4 ?_
  refine zw_isub hx hb dX3_takes_7 ?_
  refine lv_i2l (v := (vI (32768 - ((n : Nat) : Int))).toInt64) hx hb dX3_takes_8 (rfl) ?_
  refine W.lcmp hx hb dX3_takes_9 ?_
  refine zw_as (z := zcmp v (32768 - (n : Int))) (zcmp_is v (by omega) (by omega)) ?_
  have hz9 := zcmp_in v (32768 - (n : Int))
  refine zw_if_gt (tgt := 17) hx hb dX3_takes_10 (by decide) ⟨by omega, by omega⟩ (fun c_10 => ?_) (fun c_10 => ?_)
  · refine zw_iconst hx hb dX3_takes_17 ?_
    exact zr_z hx hb hr hlocks (0) (by decide +kernel) ⟨rfl, by omega⟩ hP hD hS dX3_takes_18
  · refine zw_iconst hx hb dX3_takes_13 ?_
    refine lv_goto (tgt := 18) hx hb dX3_takes_14 (by decide) ?_
    exact zr_z hx hb hr hlocks (1) (by decide +kernel) ⟨rfl, by omega⟩ hP hD hS dX3_takes_18

set_option maxRecDepth 100000 in
set_option maxHeartbeats 4000000 in
theorem c_X3_empty (l : Launch) (D : va_G) (cI cB : ClassId) (sz : Nat) (hR : Nat) (aB : Nat) (n : Nat) (pa : Nat)  : Met l yX3_empty wsX3_empty ({ frames := 0, cells := 0, slots := 0, locals := 0 } : Room) (va_Pc [.ref hR] (zPre D vwCl [(cI, .int), (cB, .byte)] [(hR, .inr (3, [.ref aB, .int (vI ((n : Nat) : Int)), .int (vI ((pa : Nat) : Int))]))] sz)) (va_Qv (S := Unit) (fun _ => True) (fun (u : Unit) t => zB D vwCl (va_A [(hR, .inr (3, [.ref aB, .int (vI ((n : Nat) : Int)), .int (vI ((pa : Nat) : Int))]))] sz) ((fun _ => [(hR, .inr (3, [.ref aB, .int (vI (0)), .int (vI (0))]))] : Unit → va_W) u) t) (va_A [(hR, .inr (3, [.ref aB, .int (vI ((n : Nat) : Int)), .int (vI ((pa : Nat) : Int))]))] sz)) (0) (0) (va_A [(hR, .inr (3, [.ref aB, .int (vI ((n : Nat) : Int)), .int (vI ((pa : Nat) : Int))]))] sz) := by
  refine zMet (by decide) rfl (Nat.le_of_ble_eq_true rfl) (fun p e s m below meth c hx hb hr hts hown hlocks hnm hml hK hns hA hP hD hS ls hl => ?_)
  have hl : lv_has ls 1 [(0, .ref hR)] := hl
  have hRf : 0 ≤ ({ frames := 0, cells := 0, slots := 0, locals := 0 } : Room).frames := Nat.le_refl _
  have hRl : 0 ≤ ({ frames := 0, cells := 0, slots := 0, locals := 0 } : Room).locals := Nat.le_refl _
  have hRc : 0 ≤ ({ frames := 0, cells := 0, slots := 0, locals := 0 } : Room).cells := Nat.zero_le _
  have hRs : 0 ≤ ({ frames := 0, cells := 0, slots := 0, locals := 0 } : Room).slots := Nat.zero_le _
  refine lv_aload_n hx hb dX3_empty_0 rfl (lv_at hl 0 rfl) ?_
  refine zw_iconst hx hb dX3_empty_1 ?_
  refine va_put (D := D) (ci := 3) (v := .int (vI (0))) (ty := .int) (C := RX3) (T := TX3) (N := 3) hx hb hts iwX3 tyX3 tyX3_ok nmX3 hown hK hP hD hS 0 rfl rfl 1 (by decide) (hts _ aw_28) (fun _ h9 => h9) rfl (by decide +kernel) rfl rfl (Nat.le_of_ble_eq_true rfl) dX3_empty_2 (fun H locs hP hD hS => ?_)
  have hP : va_P D vwCl [(hR, .inr (3, [.ref aB, .int (vI (0)), .int (vI ((pa : Nat) : Int))]))] H := hP
  have hD : va_D _ [(hR, .inr (3, [.ref aB, .int (vI (0)), .int (vI ((pa : Nat) : Int))]))] := hD
  refine lv_aload_n hx hb dX3_empty_5 rfl (lv_at hl 0 rfl) ?_
  refine zw_iconst hx hb dX3_empty_6 ?_
  refine va_put (D := D) (ci := 3) (v := .int (vI (0))) (ty := .int) (C := RX3) (T := TX3) (N := 3) hx hb hts iwX3 tyX3 tyX3_ok nmX3 hown hK hP hD hS 0 rfl rfl 2 (by decide) (hts _ aw_33) (fun _ h9 => h9) rfl (by decide +kernel) rfl rfl (Nat.le_of_ble_eq_true rfl) dX3_empty_7 (fun H locs hP hD hS => ?_)
  have hP : va_P D vwCl [(hR, .inr (3, [.ref aB, .int (vI (0)), .int (vI (0))]))] H := hP
  have hD : va_D _ [(hR, .inr (3, [.ref aB, .int (vI (0)), .int (vI (0))]))] := hD
  exact zr_v hx hb hr hlocks (()) trivial hP hD hS dX3_empty_10

set_option maxRecDepth 100000 in
set_option maxHeartbeats 4000000 in
theorem c_X4_lastOf (l : Launch) (D : va_G) (cI cB : ClassId) (sz : Nat) (hL : Nat) (way : Nat) (win : Nat) (least : Nat) (cap : Nat) (ga : Nat) (gb : Nat) (lp : Nat) (mp : Nat) (v : Int) (h1 : 0 ≤ v ∧ v ≤ 32768) (h2 : ga ≤ 32) : Met l yX4_lastOf wsX4_lastOf ({ frames := 0, cells := 0, slots := 0, locals := 0 } : Room) (va_Pc [.ref hL, .int (vI (v))] (zPre D vwCl [(cI, .int), (cB, .byte)] [(hL, .inr (4, [.int (vI ((way : Nat) : Int)), .int (vI ((win : Nat) : Int)), .int (vI ((least : Nat) : Int)), .int (vI ((cap : Nat) : Int)), .int (vI ((ga : Nat) : Int)), .int (vI ((gb : Nat) : Int)), .int (vI ((lp : Nat) : Int)), .int (vI ((mp : Nat) : Int))]))] sz)) (va_Qi (S := Unit) (fun (r : Int32) => fun _ => (r = vI (v - 1 - ga))) (fun (u : Unit) t => zB D vwCl (va_A [(hL, .inr (4, [.int (vI ((way : Nat) : Int)), .int (vI ((win : Nat) : Int)), .int (vI ((least : Nat) : Int)), .int (vI ((cap : Nat) : Int)), .int (vI ((ga : Nat) : Int)), .int (vI ((gb : Nat) : Int)), .int (vI ((lp : Nat) : Int)), .int (vI ((mp : Nat) : Int))]))] sz) ((fun _ => [(hL, .inr (4, [.int (vI ((way : Nat) : Int)), .int (vI ((win : Nat) : Int)), .int (vI ((least : Nat) : Int)), .int (vI ((cap : Nat) : Int)), .int (vI ((ga : Nat) : Int)), .int (vI ((gb : Nat) : Int)), .int (vI ((lp : Nat) : Int)), .int (vI ((mp : Nat) : Int))]))] : Unit → va_W) u) t) (va_A [(hL, .inr (4, [.int (vI ((way : Nat) : Int)), .int (vI ((win : Nat) : Int)), .int (vI ((least : Nat) : Int)), .int (vI ((cap : Nat) : Int)), .int (vI ((ga : Nat) : Int)), .int (vI ((gb : Nat) : Int)), .int (vI ((lp : Nat) : Int)), .int (vI ((mp : Nat) : Int))]))] sz)) (0) (0) (va_A [(hL, .inr (4, [.int (vI ((way : Nat) : Int)), .int (vI ((win : Nat) : Int)), .int (vI ((least : Nat) : Int)), .int (vI ((cap : Nat) : Int)), .int (vI ((ga : Nat) : Int)), .int (vI ((gb : Nat) : Int)), .int (vI ((lp : Nat) : Int)), .int (vI ((mp : Nat) : Int))]))] sz) := by
  refine zMet (by decide) rfl (Nat.le_of_ble_eq_true rfl) (fun p e s m below meth c hx hb hr hts hown hlocks hnm hml hK hns hA hP hD hS ls hl => ?_)
  have hl : lv_has ls 2 [(0, .ref hL), (1, .int (vI (v)))] := hl
  have hRf : 0 ≤ ({ frames := 0, cells := 0, slots := 0, locals := 0 } : Room).frames := Nat.le_refl _
  have hRl : 0 ≤ ({ frames := 0, cells := 0, slots := 0, locals := 0 } : Room).locals := Nat.le_refl _
  have hRc : 0 ≤ ({ frames := 0, cells := 0, slots := 0, locals := 0 } : Room).cells := Nat.zero_le _
  have hRs : 0 ≤ ({ frames := 0, cells := 0, slots := 0, locals := 0 } : Room).slots := Nat.zero_le _
  refine lv_iload_n hx hb dX4_lastOf_0 rfl (lv_at hl 1 rfl) ?_
  refine zw_iconst hx hb dX4_lastOf_1 ?_
  refine zw_isub hx hb dX4_lastOf_2 ?_
  refine lv_aload_n hx hb dX4_lastOf_3 rfl (lv_at hl 0 rfl) ?_
  refine va_get (D := D) (ci := 4) (v := .int (vI ((ga : Nat) : Int))) (C := RX4) (T := TX4) (N := 8) hx hb hts iwX4 hown hK hP 0 rfl rfl 4 (by decide) (hts _ aw_65) (fun _ h9 => h9) rfl dX4_lastOf_4 ?_
  refine zw_isub hx hb dX4_lastOf_7 ?_
  refine zw_to (z2 := v - 1 - ga) (by omega) ?_
  exact zr_i hx hb hr hlocks (()) rfl hP hD hS dX4_lastOf_8

set_option maxRecDepth 100000 in
set_option maxHeartbeats 4000000 in
theorem c_X4_endOf (l : Launch) (D : va_G) (cI cB : ClassId) (sz : Nat) (hL : Nat) (way : Nat) (win : Nat) (least : Nat) (cap : Nat) (ga : Nat) (gb : Nat) (lp : Nat) (mp : Nat) (v : Int) (h1 : 0 ≤ v ∧ v ≤ 32768) (h2 : gb ≤ 32) : Met l yX4_endOf wsX4_endOf ({ frames := 1, cells := 0, slots := 0, locals := 21 } : Room) (va_Pc [.ref hL, .int (vI (v))] (zPre D vwCl [(cI, .int), (cB, .byte)] [(hL, .inr (4, [.int (vI ((way : Nat) : Int)), .int (vI ((win : Nat) : Int)), .int (vI ((least : Nat) : Int)), .int (vI ((cap : Nat) : Int)), .int (vI ((ga : Nat) : Int)), .int (vI ((gb : Nat) : Int)), .int (vI ((lp : Nat) : Int)), .int (vI ((mp : Nat) : Int))]))] sz)) (va_Qi (S := Unit) (fun (r : Int32) => fun _ => (r = vI (max 0 (v - gb)))) (fun (u : Unit) t => zB D vwCl (va_A [(hL, .inr (4, [.int (vI ((way : Nat) : Int)), .int (vI ((win : Nat) : Int)), .int (vI ((least : Nat) : Int)), .int (vI ((cap : Nat) : Int)), .int (vI ((ga : Nat) : Int)), .int (vI ((gb : Nat) : Int)), .int (vI ((lp : Nat) : Int)), .int (vI ((mp : Nat) : Int))]))] sz) ((fun _ => [(hL, .inr (4, [.int (vI ((way : Nat) : Int)), .int (vI ((win : Nat) : Int)), .int (vI ((least : Nat) : Int)), .int (vI ((cap : Nat) : Int)), .int (vI ((ga : Nat) : Int)), .int (vI ((gb : Nat) : Int)), .int (vI ((lp : Nat) : Int)), .int (vI ((mp : Nat) : Int))]))] : Unit → va_W) u) t) (va_A [(hL, .inr (4, [.int (vI ((way : Nat) : Int)), .int (vI ((win : Nat) : Int)), .int (vI ((least : Nat) : Int)), .int (vI ((cap : Nat) : Int)), .int (vI ((ga : Nat) : Int)), .int (vI ((gb : Nat) : Int)), .int (vI ((lp : Nat) : Int)), .int (vI ((mp : Nat) : Int))]))] sz)) (0) (0) (va_A [(hL, .inr (4, [.int (vI ((way : Nat) : Int)), .int (vI ((win : Nat) : Int)), .int (vI ((least : Nat) : Int)), .int (vI ((cap : Nat) : Int)), .int (vI ((ga : Nat) : Int)), .int (vI ((gb : Nat) : Int)), .int (vI ((lp : Nat) : Int)), .int (vI ((mp : Nat) : Int))]))] sz) := by
  refine zMet (by decide) rfl (Nat.le_of_ble_eq_true rfl) (fun p e s m below meth c hx hb hr hts hown hlocks hnm hml hK hns hA hP hD hS ls hl => ?_)
  have hl : lv_has ls 2 [(0, .ref hL), (1, .int (vI (v)))] := hl
  have hRf : 1 ≤ ({ frames := 1, cells := 0, slots := 0, locals := 21 } : Room).frames := Nat.le_refl _
  have hRl : 21 ≤ ({ frames := 1, cells := 0, slots := 0, locals := 21 } : Room).locals := Nat.le_refl _
  have hRc : 0 ≤ ({ frames := 1, cells := 0, slots := 0, locals := 21 } : Room).cells := Nat.zero_le _
  have hRs : 0 ≤ ({ frames := 1, cells := 0, slots := 0, locals := 21 } : Room).slots := Nat.zero_le _
  refine zw_iconst hx hb dX4_endOf_0 ?_
  refine lv_iload_n hx hb dX4_endOf_1 rfl (lv_at hl 1 rfl) ?_
  refine lv_aload_n hx hb dX4_endOf_2 rfl (lv_at hl 0 rfl) ?_
  refine va_get (D := D) (ci := 4) (v := .int (vI ((gb : Nat) : Int))) (C := RX4) (T := TX4) (N := 8) hx hb hts iwX4 hown hK hP 0 rfl rfl 5 (by decide) (hts _ aw_67) (fun _ h9 => h9) rfl dX4_endOf_3 ?_
  refine zw_isub hx hb dX4_endOf_6 ?_
  refine va_mmax hx hb (hml.trans hl.1.symm) hown (hts _ aw_384) (hts _ aw_378) (hts _ aw_9) (hts _ aw_379) (Nat.le_trans (Nat.le_of_ble_eq_true rfl) hRf) (Nat.le_trans (Nat.le_of_ble_eq_true rfl) hRl) hRc hRs dX4_endOf_7 ?_
  refine zw_as (vI_max ⟨by omega, by omega⟩ ⟨by omega, by omega⟩) ?_
  refine zw_to (z2 := max 0 (v - gb)) (by omega) ?_
  exact zr_i hx hb hr hlocks (()) rfl hP hD hS dX4_endOf_10

set_option maxRecDepth 100000 in
set_option maxHeartbeats 4000000 in
theorem c_X5_roomFor (l : Launch) (D : va_G) (cI cB : ClassId) (sz : Nat) (ee : Nat) (h1 : ee ≤ 32768) : Met l yX5_roomFor wsX5_roomFor ({ frames := 0, cells := 0, slots := 0, locals := 0 } : Room) (va_Pc [.int (vI ((ee : Nat) : Int))] (zPre D vwCl [(cI, .int), (cB, .byte)] [] sz)) (va_Qi (S := Unit) (fun (r : Int32) => fun _ => (r = vI ((zroom ee : Nat) : Int))) (fun (u : Unit) t => zB D vwCl (va_A [] sz) ((fun _ => [] : Unit → va_W) u) t) (va_A [] sz)) (0) (0) (va_A [] sz) := by
  refine zMet (by decide) rfl (Nat.le_of_ble_eq_true rfl) (fun p e s m below meth c hx hb hr hts hown hlocks hnm hml hK hns hA hP hD hS ls hl => ?_)
  have hl : lv_has ls 2 [(0, .int (vI ((ee : Nat) : Int)))] := hl
  have hRf : 0 ≤ ({ frames := 0, cells := 0, slots := 0, locals := 0 } : Room).frames := Nat.le_refl _
  have hRl : 0 ≤ ({ frames := 0, cells := 0, slots := 0, locals := 0 } : Room).locals := Nat.le_refl _
  have hRc : 0 ≤ ({ frames := 0, cells := 0, slots := 0, locals := 0 } : Room).cells := Nat.zero_le _
  have hRs : 0 ≤ ({ frames := 0, cells := 0, slots := 0, locals := 0 } : Room).slots := Nat.zero_le _
  refine zw_sipush hx hb dX5_roomFor_0 (by decide +kernel) ?_
  refine lv_istore_n (lv' := [(1, .int (vI (512))), (0, .int (vI ((ee : Nat) : Int)))]) hx hb dX5_roomFor_3 rfl hl (by decide) rfl (fun ls hl => ?_)
  refine lv_iload_n hx hb dX5_roomFor_4 rfl (lv_at hl 0 rfl) ?_
  refine lv_iload_n hx hb dX5_roomFor_5 rfl (lv_at hl 1 rfl) ?_
  refine zw_icmp_ge (tgt := 23) hx hb dX5_roomFor_6 (by decide) ⟨by omega, by omega⟩ ⟨by omega, by omega⟩ (fun c_6 => ?_) (fun c_6 => ?_)
  · refine lv_iload_n hx hb dX5_roomFor_23 rfl (lv_at hl 0 rfl) ?_
    refine zw_to (z2 := ((zroom ee : Nat) : Int)) (by (have h9 : zroom ee = 512 := (by unfold zroom; (repeat' split) <;> omega)); omega) ?_
    exact zr_i hx hb hr hlocks (()) rfl hP hD hS dX5_roomFor_24
  · refine lv_iload_n hx hb dX5_roomFor_9 rfl (lv_at hl 0 rfl) ?_
    refine lv_ldc (v := vI 32768) hx hb hown (hts _ aw_304) dX5_roomFor_10 ?_
    refine zw_icmp_ge (tgt := 23) hx hb dX5_roomFor_12 (by decide) ⟨by omega, by omega⟩ ⟨by omega, by omega⟩ (fun c_12 => False.elim (by omega)) (fun c_12 => ?_)
    refine lv_iload_n hx hb dX5_roomFor_15 rfl (lv_at hl 0 rfl) ?_
    refine zw_bipush hx hb dX5_roomFor_16 (by decide +kernel) ?_
    refine zw_imul hx hb dX5_roomFor_18 ?_
    refine zw_to (z2 := 4096) (by omega) ?_
    refine lv_istore_n (lv' := [(1, .int (vI (4096))), (0, .int (vI ((ee : Nat) : Int)))]) hx hb dX5_roomFor_19 rfl hl (by decide) rfl (fun ls hl => ?_)
    refine lv_goto (tgt := 4) hx hb dX5_roomFor_20 (by decide) ?_
    refine lv_iload_n hx hb dX5_roomFor_4 rfl (lv_at hl 0 rfl) ?_
    refine lv_iload_n hx hb dX5_roomFor_5 rfl (lv_at hl 1 rfl) ?_
    refine zw_icmp_ge (tgt := 23) hx hb dX5_roomFor_6 (by decide) ⟨by omega, by omega⟩ ⟨by omega, by omega⟩ (fun c_6 => ?_) (fun c_6 => ?_)
    · refine lv_iload_n hx hb dX5_roomFor_23 rfl (lv_at hl 0 rfl) ?_
      refine zw_to (z2 := ((zroom ee : Nat) : Int)) (by (have h9 : zroom ee = 4096 := (by unfold zroom; (repeat' split) <;> omega)); omega) ?_
      exact zr_i hx hb hr hlocks (()) rfl hP hD hS dX5_roomFor_24
    · refine lv_iload_n hx hb dX5_roomFor_9 rfl (lv_at hl 0 rfl) ?_
      refine lv_ldc (v := vI 32768) hx hb hown (hts _ aw_304) dX5_roomFor_10 ?_
      refine zw_icmp_ge (tgt := 23) hx hb dX5_roomFor_12 (by decide) ⟨by omega, by omega⟩ ⟨by omega, by omega⟩ (fun c_12 => False.elim (by omega)) (fun c_12 => ?_)
      refine lv_iload_n hx hb dX5_roomFor_15 rfl (lv_at hl 0 rfl) ?_
      refine zw_bipush hx hb dX5_roomFor_16 (by decide +kernel) ?_
      refine zw_imul hx hb dX5_roomFor_18 ?_
      refine zw_to (z2 := 32768) (by omega) ?_
      refine lv_istore_n (lv' := [(1, .int (vI (32768))), (0, .int (vI ((ee : Nat) : Int)))]) hx hb dX5_roomFor_19 rfl hl (by decide) rfl (fun ls hl => ?_)
      refine lv_goto (tgt := 4) hx hb dX5_roomFor_20 (by decide) ?_
      refine lv_iload_n hx hb dX5_roomFor_4 rfl (lv_at hl 0 rfl) ?_
      refine lv_iload_n hx hb dX5_roomFor_5 rfl (lv_at hl 1 rfl) ?_
      refine zw_icmp_ge (tgt := 23) hx hb dX5_roomFor_6 (by decide) ⟨by omega, by omega⟩ ⟨by omega, by omega⟩ (fun c_6 => ?_) (fun c_6 => False.elim (by omega))
      refine lv_iload_n hx hb dX5_roomFor_23 rfl (lv_at hl 0 rfl) ?_
      refine zw_to (z2 := ((zroom ee : Nat) : Int)) (by (have h9 : zroom ee = 32768 := (by unfold zroom; (repeat' split) <;> omega)); omega) ?_
      exact zr_i hx hb hr hlocks (()) rfl hP hD hS dX5_roomFor_24

set_option maxRecDepth 100000 in
set_option maxHeartbeats 4000000 in
theorem s_bitsOf {p : Program} {l : Launch} {e : Env} {R : Room} {s : State} {m : MethodId} {args : Array Value} {below : List Frame} {meth : Method} {c : Code} {Q : State → Prop} {A : Nat → Prop} {H0 : Heap} {D : va_G} {cI cB : ClassId} {cells slots : Nat} (hx : p.tables.exec = Jvm.exec) (hb : c.code = cX5_bitsOf) (hts : ∀ w ∈ zALL, w.before args s = true) (hown : s.vm.findClass RX5 = some m.cls) (hml : c.maxLocals = 2) (hK : va_K D vwCl [(cI, .int), (cB, .byte)] s) (hns : zNs s) (hA : ∀ q, H0.size ≤ q → A q) (hRf : 0 ≤ R.frames) (hRl : 0 ≤ R.locals) (hRc : cells ≤ R.cells) (hRs : slots ≤ R.slots) (d : Nat) (h1 : d < 2147483648)
    (K1 : ∀ (b2 : Nat) (H : Heap) (locs : List Loc) (ls : Array Slot), (zbit d b2 ∧ b2 ≤ 31) → va_P D vwCl [] H → va_D A [] → va_S A H0 H locs → lv_has ls 2 [(1, .int (vI ((b2 : Nat) : Int)))] → W p l e R s m args below meth c H locs cells slots Q (F0 m 20 ls []))
    : ∀ (fuel : Nat), ∀ (b : Nat) (_ : 31 - b < fuel) (H : Heap) (locs : List Loc) (ls : Array Slot), (b ≤ 31) → (b = 0 ∨ 2 ^ (b - 1) ≤ d) → va_P D vwCl [] H → va_D A [] → va_S A H0 H locs → lv_has ls 2 [(0, .int (vI ((d : Nat) : Int))), (1, .int (vI ((b : Nat) : Int)))] → W p l e R s m args below meth c H locs cells slots Q (F0 m 2 ls []) := by
  intro fuel
  induction fuel with
  | zero =>
    intro b hfuel
    exact absurd hfuel (Nat.not_lt_zero _)
  | succ fuel ih =>
    intro b hfuel H locs ls hb1 hb2 hP hD hS hl
    refine lv_iload_n hx hb dX5_bitsOf_2 rfl (lv_at hl 1 rfl) ?_
    refine zw_bipush hx hb dX5_bitsOf_3 (by decide +kernel) ?_
    refine zw_icmp_ge (tgt := 20) hx hb dX5_bitsOf_5 (by decide) ⟨by omega, by omega⟩ ⟨by omega, by omega⟩ (fun c_5 => ?_) (fun c_5 => ?_)
    · exact K1 b _ _ _ (⟨⟨by (have e9 : b = 31 := (by omega)); rw [e9]; omega, hb2⟩, hb1⟩) (hP.sub [] rfl) (hD.sub [] (by decide) rfl) hS (lv_sub hl [1] rfl)
    · refine lv_iload_n hx hb dX5_bitsOf_8 rfl (lv_at hl 0 rfl) ?_
      refine lv_iload_n hx hb dX5_bitsOf_9 rfl (lv_at hl 1 rfl) ?_
      refine lv_ishr hx hb dX5_bitsOf_10 ?_
      refine zw_as (z := ((d / 2 ^ b : Nat) : Int)) (vI_shr (by omega) (by omega)) ?_
      have h9 : d / 2 ^ b ≤ d := Nat.div_le_self _ _
      have h10 : (0 : Int) ≤ ((d / 2 ^ b : Nat) : Int) := Int.natCast_nonneg _
      have h11 : ((d / 2 ^ b : Nat) : Int) ≤ (d : Int) := Int.ofNat_le.mpr h9
      refine zw_if_eq (tgt := 20) hx hb dX5_bitsOf_11 (by decide) ⟨by omega, by omega⟩ (fun c_11 => ?_) (fun c_11 => ?_)
      · exact K1 b _ _ _ (⟨⟨(Nat.div_eq_zero_iff_lt (Nat.two_pow_pos b)).mp (by omega), hb2⟩, hb1⟩) (hP.sub [] rfl) (hD.sub [] (by decide) rfl) hS (lv_sub hl [1] rfl)
      · refine lv_iinc (v := vI ((b + 1 : Nat) : Int)) (lv' := [(1, .int (vI ((b + 1 : Nat) : Int))), (0, .int (vI ((d : Nat) : Int)))]) hx hb dX5_bitsOf_14 hl (k := 1) rfl ((vI_add _ _).trans (congrArg vI (by omega))) (by decide) rfl (fun ls hl => ?_)
        refine lv_goto (tgt := 2) hx hb dX5_bitsOf_17 (by decide) ?_
        exact ih (b + 1) (by omega) _ _ _ (by omega) (Or.inr (by rw [Nat.add_sub_cancel]; exact Nat.le_of_not_lt (fun z => c_11 (by rw [Nat.div_eq_of_lt z]; rfl)))) (hP.sub [] rfl) (hD.sub [] (by decide) rfl) hS (lv_sub hl [1, 0] rfl)

set_option maxRecDepth 100000 in
set_option maxHeartbeats 4000000 in
theorem c_X5_bitsOf (l : Launch) (D : va_G) (cI cB : ClassId) (sz : Nat) (d : Nat) (h1 : d < 2147483648) : Met l yX5_bitsOf wsX5_bitsOf ({ frames := 0, cells := 0, slots := 0, locals := 0 } : Room) (va_Pc [.int (vI ((d : Nat) : Int))] (zPre D vwCl [(cI, .int), (cB, .byte)] [] sz)) (va_Qi (S := Nat) (fun (r : Int32) => fun b => (r = vI ((b : Nat) : Int)) ∧ (zbit d b ∧ b ≤ 31)) (fun (u : Nat) t => zB D vwCl (va_A [] sz) ((fun b => [] : Nat → va_W) u) t) (va_A [] sz)) (0) (0) (va_A [] sz) := by
  refine zMet (by decide) rfl (Nat.le_of_ble_eq_true rfl) (fun p e s m below meth c hx hb hr hts hown hlocks hnm hml hK hns hA hP hD hS ls hl => ?_)
  have hl : lv_has ls 2 [(0, .int (vI ((d : Nat) : Int)))] := hl
  have hRf : 0 ≤ ({ frames := 0, cells := 0, slots := 0, locals := 0 } : Room).frames := Nat.le_refl _
  have hRl : 0 ≤ ({ frames := 0, cells := 0, slots := 0, locals := 0 } : Room).locals := Nat.le_refl _
  have hRc : 0 ≤ ({ frames := 0, cells := 0, slots := 0, locals := 0 } : Room).cells := Nat.zero_le _
  have hRs : 0 ≤ ({ frames := 0, cells := 0, slots := 0, locals := 0 } : Room).slots := Nat.zero_le _
  refine zw_iconst hx hb dX5_bitsOf_0 ?_
  refine lv_istore_n (lv' := [(1, .int (vI (0))), (0, .int (vI ((d : Nat) : Int)))]) hx hb dX5_bitsOf_1 rfl hl (by decide) rfl (fun ls hl => ?_)
  refine s_bitsOf hx hb hts hown hml hK hns hA (Nat.le_trans (Nat.le_of_ble_eq_true rfl) hRf) (Nat.le_trans (Nat.le_of_ble_eq_true rfl) hRl) hRc hRs d (by omega) (fun b2 H locs ls hz hP hD hS hl => ?_) (31 - 0 + 1) 0 (Nat.lt_succ_self _) _ _ _ (by omega) (by omega) (hP.sub [] rfl) (hD.sub [] (by decide) rfl) hS (lv_sub hl [1, 0] rfl)
  refine lv_iload_n hx hb dX5_bitsOf_20 rfl (lv_at hl 0 rfl) ?_
  exact zr_i hx hb hr hlocks (b2) ⟨rfl, hz⟩ hP hD hS dX5_bitsOf_21
