theorem zU_fill {g : Nat → Int} {k : Nat} {v : Int} (h : ∀ j, j < k → g j = v) : ∀ j, j < k + 1 → zU g k v j = v := fun j hj => by
  by_cases e : j = k
  · rw [e]; exact zU_s
  · exact (zU_n e).trans (h j (by omega))
theorem zU_by {d : Nat → Int} {k : Nat} {v : Int} (h : ∀ j, -128 ≤ d j ∧ d j < 128) (hv : -128 ≤ v ∧ v < 128) : ∀ j, -128 ≤ zU d k v j ∧ zU d k v j < 128 := fun j => by
  by_cases e : j = k
  · rw [e, zU_s]; exact hv
  · rw [zU_n e]; exact h j
theorem zcp_by {d : Nat → Int} {k : Nat} (h : ∀ j, -128 ≤ d j ∧ d j < 128) : ∀ j, -128 ≤ (fun j => if j < k then d j else (fun _ => (0 : Int)) j) j ∧ (fun j => if j < k then d j else (fun _ => (0 : Int)) j) j < 128 := fun j => by
  by_cases e : j < k
  · simp only [if_pos e]; exact h j
  · simp only [if_neg e]; omega
/-- byte k of a long, the highest first -/
def zbyte (v : Int64) (k : Nat) : Int := ((((v).toUInt64 >>> ((vI (8 * (7 - ((k : Nat) : Int)))).toInt64.toUInt64 &&& Int64.toUInt64 63)).toInt64).toInt32).toInt8.toInt
theorem zbyte_in (v : Int64) (k : Nat) : -128 ≤ zbyte v k ∧ zbyte v k < 128 := ⟨by have := Int8.le_toInt ((((v).toUInt64 >>> ((vI (8 * (7 - ((k : Nat) : Int)))).toInt64.toUInt64 &&& Int64.toUInt64 63)).toInt64).toInt32).toInt8; unfold zbyte; omega, by have := Int8.toInt_lt ((((v).toUInt64 >>> ((vI (8 * (7 - ((k : Nat) : Int)))).toInt64.toUInt64 &&& Int64.toUInt64 63)).toInt64).toInt32).toInt8; unfold zbyte; omega⟩
theorem zU_app {d : Nat → Int} {n k f : Nat} {v : Int64} (hf : f = n + k) (h : ∀ j, j < k → d (n + j) = zbyte v j) : ∀ j, j < k + 1 → zU d f (zbyte v k) (n + j) = zbyte v j := fun j hj => by
  by_cases e : j = k
  · rw [e, ← hf]; exact zU_s
  · exact (zU_n (by omega)).trans (h j (by omega))
theorem zU_rep {d : Nat → Int} {n f per : Nat} (hp : 1 ≤ per ∧ per ≤ f) (h : ∀ j, n ≤ j → j < f → d j = d (j - per)) : ∀ j, n ≤ j → j < f + 1 → zU d f (d (f - per)) j = zU d f (d (f - per)) (j - per) := fun j h1 h2 => by
  by_cases e : j = f
  · rw [e, zU_s, zU_n (by omega)]
  · rw [zU_n e, zU_n (by omega)]; exact h j h1 (by omega)
def zNB (NB t : Nat) : Nat := if NB < t then zroom t else NB
def zmc (NB t : Nat) : Nat := if NB < t then 1 else 0
def zms (NB t : Nat) : Nat := if NB < t then zroom t else 0
theorem zNB_ge (NB t : Nat) : t ≤ 32768 → t ≤ zNB NB t ∧ NB ≤ zNB NB t := by
  unfold zNB zroom
  (repeat' split) <;> omega
theorem zNB_le (NB t : Nat) (h : NB ≤ 32768) : zNB NB t ≤ 32768 := by
  unfold zNB zroom
  (repeat' split) <;> omega
set_option maxRecDepth 100000 in
set_option maxHeartbeats 4000000 in
theorem s_fill {p : Program} {l : Launch} {e : Env} {R : Room} {s : State} {m : MethodId} {args : Array Value} {below : List Frame} {meth : Method} {c : Code} {Q : State → Prop} {A : Nat → Prop} {H0 : Heap} {D : va_G} {cI cB : ClassId} {cells slots : Nat} (hx : p.tables.exec = Jvm.exec) (hb : c.code = cJ7_fill) (hts : ∀ w ∈ zALL, w.before args s = true) (hown : s.vm.findClass RJ7 = some m.cls) (hml : c.maxLocals = 4) (hK : va_K D vwCl [(cI, .int), (cB, .byte)] s) (hns : zNs s) (hA : ∀ q, H0.size ≤ q → A q) (hRf : 0 ≤ R.frames) (hRl : 0 ≤ R.locals) (hRc : cells ≤ R.cells) (hRs : slots ≤ R.slots) (ad : Nat) (n : Nat) (v : Int) (h1 : n ≤ 1000000)
    (K1 : ∀ (g2 : Nat → Int) (H : Heap) (locs : List Loc) (ls : Array Slot), (∀ j, j < n → g2 j = v) → va_P D vwCl [ia ad cI (n) (g2)] H → va_D A [ia ad cI (n) (g2)] → va_S A H0 H locs → lv_has ls 4 [] → W p l e R s m args below meth c H locs cells slots Q (F0 m 20 ls []))
    : ∀ (fuel : Nat), ∀ (k : Nat) (g : Nat → Int) (_ : n - k < fuel) (H : Heap) (locs : List Loc) (ls : Array Slot), (k ≤ n) → (∀ j, j < k → g j = v) → va_P D vwCl [ia ad cI (n) (g)] H → va_D A [ia ad cI (n) (g)] → va_S A H0 H locs → lv_has ls 4 [(0, .ref ad), (1, .int (vI (v))), (2, .int (vI ((k : Nat) : Int))), (3, .int (vI ((n : Nat) : Int)))] → W p l e R s m args below meth c H locs cells slots Q (F0 m 5 ls []) := by
  intro fuel
  induction fuel with
  | zero =>
    intro k g hfuel
    exact absurd hfuel (Nat.not_lt_zero _)
  | succ fuel ih =>
    intro k g hfuel H locs ls hk hg hP hD hS hl
    refine lv_iload_n hx hb dJ7_fill_5 rfl (lv_at hl 2 rfl) ?_
    refine lv_iload_n hx hb dJ7_fill_6 rfl (lv_at hl 3 rfl) ?_
    refine zw_icmp_ge (tgt := 20) hx hb dJ7_fill_7 (by decide) ⟨by omega, by omega⟩ ⟨by omega, by omega⟩ (fun c_7 => ?_) (fun c_7 => ?_)
    · exact K1 g _ _ _ (fun j hj => hg j (by omega)) (hP.sub [0] rfl) (hD.sub [0] (by decide) rfl) hS (lv_sub hl [] rfl)
    · refine lv_aload_n hx hb dJ7_fill_10 rfl (lv_at hl 0 rfl) ?_
      refine lv_iload_n hx hb dJ7_fill_11 rfl (lv_at hl 2 rfl) ?_
      refine lv_iload_n hx hb dJ7_fill_12 rfl (lv_at hl 1 rfl) ?_
      refine zw_iast hx hb hK hP hD hS 0 0 rfl rfl (k) (by omega) (by omega) (by omega) dJ7_fill_13 (fun H locs hP hD hS => ?_)
      have hP : va_P D vwCl [ia ad cI (n) (zU g k v)] H := hP
      have hD : va_D _ [ia ad cI (n) (zU g k v)] := hD
      refine lv_iinc (v := vI ((k + 1 : Nat) : Int)) (lv' := [(2, .int (vI ((k + 1 : Nat) : Int))), (0, .ref ad), (1, .int (vI (v))), (3, .int (vI ((n : Nat) : Int)))]) hx hb dJ7_fill_14 hl (k := 2) rfl ((vI_add _ _).trans (congrArg vI (by omega))) (by decide) rfl (fun ls hl => ?_)
      refine lv_goto (tgt := 5) hx hb dJ7_fill_17 (by decide) ?_
      exact ih (k + 1) (zU g k v) (by omega) _ _ _ (by omega) (zU_fill hg) (hP.sub [0] rfl) (hD.sub [0] (by decide) rfl) hS (lv_sub hl [1, 2, 0, 3] rfl)

set_option maxRecDepth 100000 in
set_option maxHeartbeats 4000000 in
theorem c_J7_fill (l : Launch) (D : va_G) (cI cB : ClassId) (sz : Nat) (ad : Nat) (v : Int) (n : Nat) (g : Nat → Int) (h1 : n ≤ 1000000) : Met l yJ7_fill wsJ7_fill ({ frames := 0, cells := 0, slots := 0, locals := 0 } : Room) (va_Pc [.ref ad, .int (vI (v))] (zPre D vwCl [(cI, .int), (cB, .byte)] [ia ad cI (n) (g)] sz)) (va_Qv (S := (Nat → Int)) (fun g2 => (∀ j, j < n → g2 j = v)) (fun (u : (Nat → Int)) t => zB D vwCl (va_A [ia ad cI (n) (g)] sz) ((fun g2 => [ia ad cI (n) (g2)] : (Nat → Int) → va_W) u) t) (va_A [ia ad cI (n) (g)] sz)) (0) (0) (va_A [ia ad cI (n) (g)] sz) := by
  refine zMet (by decide) rfl (Nat.le_of_ble_eq_true rfl) (fun p e s m below meth c hx hb hr hts hown hlocks hnm hml hK hns hA hP hD hS ls hl => ?_)
  have hl : lv_has ls 4 [(0, .ref ad), (1, .int (vI (v)))] := hl
  have hRf : 0 ≤ ({ frames := 0, cells := 0, slots := 0, locals := 0 } : Room).frames := Nat.le_refl _
  have hRl : 0 ≤ ({ frames := 0, cells := 0, slots := 0, locals := 0 } : Room).locals := Nat.le_refl _
  have hRc : 0 ≤ ({ frames := 0, cells := 0, slots := 0, locals := 0 } : Room).cells := Nat.zero_le _
  have hRs : 0 ≤ ({ frames := 0, cells := 0, slots := 0, locals := 0 } : Room).slots := Nat.zero_le _
  refine zw_iconst hx hb dJ7_fill_0 ?_
  refine lv_istore_n (lv' := [(2, .int (vI (0))), (0, .ref ad), (1, .int (vI (v)))]) hx hb dJ7_fill_1 rfl hl (by decide) rfl (fun ls hl => ?_)
  refine lv_aload_n hx hb dJ7_fill_2 rfl (lv_at hl 1 rfl) ?_
  refine zw_alen hx hb hK hP 0 0 rfl rfl dJ7_fill_3 ?_
  refine lv_istore_n (lv' := [(3, .int (vI ((n : Nat) : Int))), (2, .int (vI (0))), (0, .ref ad), (1, .int (vI (v)))]) hx hb dJ7_fill_4 rfl hl (by decide) rfl (fun ls hl => ?_)
  refine s_fill hx hb hts hown hml hK hns hA (Nat.le_trans (Nat.le_of_ble_eq_true rfl) hRf) (Nat.le_trans (Nat.le_of_ble_eq_true rfl) hRl) hRc hRs ad n v (by omega) (fun g2 H locs ls hg hP hD hS hl => ?_) (n - 0 + 1) 0 g (Nat.lt_succ_self _) _ _ _ (by omega) (fun j hj => absurd hj (Nat.not_lt_zero j)) (hP.sub [0] rfl) (hD.sub [0] (by decide) rfl) hS (lv_sub hl [2, 3, 1, 0] rfl)
  exact zr_v hx hb hr hlocks (g2) (hg) hP hD hS dJ7_fill_20

set_option maxRecDepth 100000 in
set_option maxHeartbeats 4000000 in
theorem c_J7_copyOf (l : Launch) (D : va_G) (cI cB : ClassId) (sz : Nat) (ad : Nat) (nn : Nat) (n : Nat) (d : Nat → Int) (h1 : n < nn ∧ nn ≤ 32768) (hby : ∀ j, -128 ≤ d j ∧ d j < 128) : Met l yJ7_copyOf wsJ7_copyOf ({ frames := 1, cells := 1, slots := nn, locals := 40 } : Room) (va_Pc [.ref ad, .int (vI ((nn : Nat) : Int))] (zPre D vwCl [(cI, .int), (cB, .byte)] [ia ad cB (n) (d)] sz)) (va_Qr (S := Unit) (fun _ => True) (fun (u : Unit) (ra : Nat) t => zB D vwCl (va_A [ia ad cB (n) (d)] sz) ((fun _ => [ia ad cB (n) (d), ia ra cB (nn) (fun j => if j < n then d j else (fun _ => 0) j)] : Unit → va_W) u) t) (va_A [ia ad cB (n) (d)] sz)) (1) (nn) (va_A [ia ad cB (n) (d)] sz) := by
  refine zMet (by decide) rfl (Nat.le_of_ble_eq_true rfl) (fun p e s m below meth c hx hb hr hts hown hlocks hnm hml hK hns hA hP hD hS ls hl => ?_)
  have hl : lv_has ls 3 [(0, .ref ad), (1, .int (vI ((nn : Nat) : Int)))] := hl
  have hRf : 1 ≤ ({ frames := 1, cells := 1, slots := nn, locals := 40 } : Room).frames := Nat.le_refl _
  have hRl : 40 ≤ ({ frames := 1, cells := 1, slots := nn, locals := 40 } : Room).locals := Nat.le_refl _
  have hRc : 0 ≤ ({ frames := 1, cells := 1, slots := nn, locals := 40 } : Room).cells := Nat.zero_le _
  have hRs : 0 ≤ ({ frames := 1, cells := 1, slots := nn, locals := 40 } : Room).slots := Nat.zero_le _
  refine lv_iload_n hx hb dJ7_copyOf_0 rfl (lv_at hl 1 rfl) ?_
  refine lv_aload_n hx hb dJ7_copyOf_1 rfl (lv_at hl 0 rfl) ?_
  refine zw_alen hx hb hK hP 0 1 rfl rfl dJ7_copyOf_2 ?_
  refine zw_icmp_ne (tgt := 14) hx hb dJ7_copyOf_3 (by decide) ⟨by omega, by omega⟩ ⟨by omega, by omega⟩ (fun c_3 => ?_) (fun c_3 => False.elim (by omega))
  refine lv_iload_n hx hb dJ7_copyOf_14 rfl (lv_at hl 1 rfl) ?_
  refine zw_newb hx hb (hts _ aw_44) hK hP hD hS hA 1 rfl (nn) (by omega) (by omega) (Nat.le_refl _) (Nat.le_of_eq (Nat.zero_add _)) dJ7_copyOf_15 (fun q_1 H hP hD hS => ?_)
  have hP : va_P D vwCl [ia ad cB (n) (d), ia q_1 cB (nn) (fun _ => 0)] H := hP
  have hD : va_D _ [ia ad cB (n) (d), ia q_1 cB (nn) (fun _ => 0)] := hD
  have hRc : 0 + 1 ≤ ({ frames := 1, cells := 1, slots := nn, locals := 40 } : Room).cells := by show 0 + 1 ≤ 1; omega
  have hRs : 0 + (nn) ≤ ({ frames := 1, cells := 1, slots := nn, locals := 40 } : Room).slots := by show 0 + (nn) ≤ nn; omega
  have hRc : 0 + 1 ≤ 1 := Nat.le_refl _
  have hRs : 0 + nn ≤ nn := Nat.le_of_eq (Nat.zero_add _)
  refine lv_astore_n (lv' := [(2, .ref q_1), (0, .ref ad), (1, .int (vI ((nn : Nat) : Int)))]) hx hb dJ7_copyOf_17 rfl hl (by decide) rfl (fun ls hl => ?_)
  refine lv_aload_n hx hb dJ7_copyOf_18 rfl (lv_at hl 1 rfl) ?_
  refine zw_iconst hx hb dJ7_copyOf_19 ?_
  refine lv_aload_n hx hb dJ7_copyOf_20 rfl (lv_at hl 0 rfl) ?_
  refine zw_iconst hx hb dJ7_copyOf_21 ?_
  refine lv_aload_n hx hb dJ7_copyOf_22 rfl (lv_at hl 1 rfl) ?_
  refine zw_alen hx hb hK hP 0 1 rfl rfl dJ7_copyOf_23 ?_
  refine lv_iload_n hx hb dJ7_copyOf_24 rfl (lv_at hl 2 rfl) ?_
  refine va_mmin hx hb (hml.trans hl.1.symm) hown (hts _ aw_315) (hts _ aw_316) (hts _ aw_9) (hts _ aw_317) (Nat.le_trans (Nat.le_of_ble_eq_true rfl) hRf) (Nat.le_trans (Nat.le_of_ble_eq_true rfl) hRl) hRc hRs dJ7_copyOf_25 ?_
  refine zw_as (vI_min ⟨by omega, by omega⟩ ⟨by omega, by omega⟩) ?_
  refine zw_to (z2 := ((n : Nat) : Int)) (by omega) ?_
  refine zw_copyb hx hb (hml.trans hl.1.symm) hown (hts _ aw_318) (hts _ aw_320) (hts _ aw_319) (hts _ aw_10) hK hP hD hS 0 1 1 rfl rfl rfl (n) (by omega) (by omega) (by omega) (by omega) hby (Nat.le_trans (Nat.le_of_ble_eq_true rfl) hRf) (Nat.le_trans (Nat.le_of_ble_eq_true rfl) hRl) dJ7_copyOf_28 (fun H locs hP hD hS => ?_)
  have hP : va_P D vwCl [ia ad cB (n) (d), ia q_1 cB (nn) (fun j => if j < n then d j else (fun _ => 0) j)] H := hP
  have hD : va_D _ [ia ad cB (n) (d), ia q_1 cB (nn) (fun j => if j < n then d j else (fun _ => 0) j)] := hD
  refine lv_aload_n hx hb dJ7_copyOf_31 rfl (lv_at hl 0 rfl) ?_
  refine W.widen (k := 1) (n := nn) (by omega) (by omega) ?_
  exact zr_r hx hb hr hlocks (()) q_1 trivial hP hD hS dJ7_copyOf_32

set_option maxRecDepth 100000 in
set_option maxHeartbeats 4000000 in
theorem c_X3_makeRoom (l : Launch) (D : va_G) (cI cB : ClassId) (sz : Nat) (hR : Nat) (aB : Nat) (n : Nat) (pa : Nat) (NB : Nat) (d : Nat → Int) (t : Nat) (h1 : t ≤ 32768 ∧ NB ≤ 32768) (hby : ∀ j, -128 ≤ d j ∧ d j < 128) : Met l yX3_makeRoom wsX3_makeRoom ({ frames := 2, cells := zmc NB t, slots := zms NB t, locals := 62 } : Room) (va_Pc [.ref hR, .int (vI ((t : Nat) : Int))] (zPre D vwCl [(cI, .int), (cB, .byte)] [(hR, .inr (3, [.ref aB, .int (vI ((n : Nat) : Int)), .int (vI ((pa : Nat) : Int))])), ia aB cB (NB) (d)] sz)) (va_Qv (S := Nat × Nat × (Nat → Int)) (fun u => match u with | (aB2, NB2, d2) => (NB2 = zNB NB t) ∧ (∀ j, j < NB → d2 j = d j) ∧ (∀ j, -128 ≤ d2 j ∧ d2 j < 128)) (fun (u : Nat × Nat × (Nat → Int)) t => zB D vwCl (va_A [(hR, .inr (3, [.ref aB, .int (vI ((n : Nat) : Int)), .int (vI ((pa : Nat) : Int))])), ia aB cB (NB) (d)] sz) ((fun u => match u with | (aB2, NB2, d2) => [(hR, .inr (3, [.ref aB2, .int (vI ((n : Nat) : Int)), .int (vI ((pa : Nat) : Int))])), ia aB2 cB (NB2) (d2)] : Nat × Nat × (Nat → Int) → va_W) u) t) (va_A [(hR, .inr (3, [.ref aB, .int (vI ((n : Nat) : Int)), .int (vI ((pa : Nat) : Int))])), ia aB cB (NB) (d)] sz)) (zmc NB t) (zms NB t) (va_A [(hR, .inr (3, [.ref aB, .int (vI ((n : Nat) : Int)), .int (vI ((pa : Nat) : Int))])), ia aB cB (NB) (d)] sz) := by
  refine zMet (by decide) rfl (Nat.le_of_ble_eq_true rfl) (fun p e s m below meth c hx hb hr hts hown hlocks hnm hml hK hns hA hP hD hS ls hl => ?_)
  have hl : lv_has ls 2 [(0, .ref hR), (1, .int (vI ((t : Nat) : Int)))] := hl
  have hRf : 2 ≤ ({ frames := 2, cells := zmc NB t, slots := zms NB t, locals := 62 } : Room).frames := Nat.le_refl _
  have hRl : 62 ≤ ({ frames := 2, cells := zmc NB t, slots := zms NB t, locals := 62 } : Room).locals := Nat.le_refl _
  have hRc : 0 ≤ ({ frames := 2, cells := zmc NB t, slots := zms NB t, locals := 62 } : Room).cells := Nat.zero_le _
  have hRs : 0 ≤ ({ frames := 2, cells := zmc NB t, slots := zms NB t, locals := 62 } : Room).slots := Nat.zero_le _
  refine lv_iload_n hx hb dX3_makeRoom_0 rfl (lv_at hl 1 rfl) ?_
  refine lv_aload_n hx hb dX3_makeRoom_1 rfl (lv_at hl 0 rfl) ?_
  refine va_get (D := D) (ci := 3) (v := .ref aB) (C := RX3) (T := TX3) (N := 3) hx hb hts iwX3 hown hK hP 0 rfl rfl 0 (by decide) (hts _ aw_25) (fun _ h9 => h9) rfl dX3_makeRoom_2 ?_
  refine zw_alen hx hb hK hP 1 1 rfl rfl dX3_makeRoom_5 ?_
  refine zw_icmp_le (tgt := 24) hx hb dX3_makeRoom_6 (by decide) ⟨by omega, by omega⟩ ⟨by omega, by omega⟩ (fun c_6 => ?_) (fun c_6 => ?_)
  · refine W.widen (k := zmc NB t) (n := zms NB t) (Nat.zero_le _) (Nat.zero_le _) ?_
    exact zr_v hx hb hr hlocks ((aB, NB, d)) ⟨by unfold zNB; rw [if_neg (by omega)], fun _ _ => rfl, hby⟩ hP hD hS dX3_makeRoom_24
  · refine lv_aload_n hx hb dX3_makeRoom_9 rfl (lv_at hl 0 rfl) ?_
    refine lv_aload_n hx hb dX3_makeRoom_10 rfl (lv_at hl 0 rfl) ?_
    refine va_get (D := D) (ci := 3) (v := .ref aB) (C := RX3) (T := TX3) (N := 3) hx hb hts iwX3 hown hK hP 0 rfl rfl 0 (by decide) (hts _ aw_25) (fun _ h9 => h9) rfl dX3_makeRoom_11 ?_
    refine lv_iload_n hx hb dX3_makeRoom_14 rfl (lv_at hl 1 rfl) ?_
    have hPc := hP.sub (ws' := []) [] rfl
    have hDc := hD.sub (ws' := []) [] (by decide) rfl
    refine zc_i (wr := [(hR, .inr (3, [.ref aB, .int (vI ((n : Nat) : Int)), .int (vI ((pa : Nat) : Int))])), ia aB cB (NB) (d)]) (va_runSN (As := [.int (vI ((t : Nat) : Int))]) (rest := [.ref aB, .ref hR]) ⟨hx, hb, hml, hown, hts⟩ (c_X5_roomFor l D cI cB _ t (by omega)) ⟨va_cnB 1 hts (zg kX5_roomFor) rfl rfl rfl (hns _ nw_301) (hts _ aw_1) (by decide +kernel) ⟨Nat.le_trans (Nat.le_of_ble_eq_true rfl) hRf, Nat.le_trans (Nat.le_of_ble_eq_true rfl) hRl⟩, (hts _ aw_302), trivial⟩ ⟨zPre_blind, zPre_of hK hns hPc hDc⟩ rfl rfl hl.1 rfl (lv_room (Nat.le_of_ble_eq_true rfl)) dX3_makeRoom_15 ⟨hRc, hRs⟩) hP hD hS hA [] [0, 1] rfl rfl (by decide) (by decide) (fun r _u H locs hpost hP hD hS => ?_)
    obtain rfl := hpost
    have hP : va_P D vwCl [(hR, .inr (3, [.ref aB, .int (vI ((n : Nat) : Int)), .int (vI ((pa : Nat) : Int))])), ia aB cB (NB) (d)] H := hP
    have hD : va_D _ [(hR, .inr (3, [.ref aB, .int (vI ((n : Nat) : Int)), .int (vI ((pa : Nat) : Int))])), ia aB cB (NB) (d)] := hD
    have hz1 : NB < zroom t ∧ zroom t ≤ 32768 := by unfold zroom; (repeat' split) <;> omega
    have hm1 : zmc NB t = 1 := by unfold zmc; rw [if_pos (by omega)]
    have hm2 : zms NB t = zroom t := by unfold zms; rw [if_pos (by omega)]
    have hPc := hP.sub (ws' := [ia aB cB (NB) (d)]) [1] rfl
    have hDc := hD.sub (ws' := [ia aB cB (NB) (d)]) [1] (by decide) rfl
    refine zc_r (wr := [(hR, .inr (3, [.ref aB, .int (vI ((n : Nat) : Int)), .int (vI ((pa : Nat) : Int))]))]) (va_runS (As := [.ref aB, .int (vI ((zroom t : Nat) : Int))]) (rest := [.ref hR]) ⟨hx, hb, hml, hown, hts⟩ (c_J7_copyOf l D cI cB _ aB (zroom t) NB d (hz1) (hby)) ⟨callB_of 2 hts (zg kJ7_copyOf) rfl rfl rfl (hts _ aw_8) (hts _ aw_305) (by decide +kernel) ⟨Nat.le_trans (Nat.le_of_ble_eq_true rfl) hRf, Nat.le_trans (Nat.le_of_ble_eq_true rfl) hRl⟩, (hts _ aw_306)⟩ ⟨zPre_blind, zPre_of hK hns hPc hDc⟩ rfl rfl hl.1 rfl (lv_room (Nat.le_of_ble_eq_true rfl)) dX3_makeRoom_18 ⟨by show 0 + 1 ≤ zmc NB t; omega, by show 0 + zroom t ≤ zms NB t; omega⟩) hP hD hS hA [1] [0] rfl rfl (by decide) (by decide) (fun _u aN H locs hpost hP hD hS => ?_)
    have hRc : 0 + 1 ≤ ({ frames := 2, cells := zmc NB t, slots := zms NB t, locals := 62 } : Room).cells := by show 0 + 1 ≤ zmc NB t; omega
    have hRs : 0 + (zroom t) ≤ ({ frames := 2, cells := zmc NB t, slots := zms NB t, locals := 62 } : Room).slots := by show 0 + (zroom t) ≤ zms NB t; omega
    have hP : va_P D vwCl [(hR, .inr (3, [.ref aB, .int (vI ((n : Nat) : Int)), .int (vI ((pa : Nat) : Int))])), ia aB cB (NB) (d), ia aN cB ((zroom t)) (fun j => if j < NB then d j else (fun _ => 0) j)] H := hP
    have hD : va_D _ [(hR, .inr (3, [.ref aB, .int (vI ((n : Nat) : Int)), .int (vI ((pa : Nat) : Int))])), ia aB cB (NB) (d), ia aN cB ((zroom t)) (fun j => if j < NB then d j else (fun _ => 0) j)] := hD
    refine va_put (D := D) (ci := 3) (v := .ref aN) (ty := .array .byte) (C := RX3) (T := TX3) (N := 3) hx hb hts iwX3 tyX3 tyX3_ok nmX3 hown hK hP hD hS 0 rfl rfl 0 (by decide) (hts _ aw_25) (fun _ h9 => h9) rfl (by decide +kernel) rfl rfl (Nat.le_of_ble_eq_true rfl) dX3_makeRoom_21 (fun H locs hP hD hS => ?_)
    have hP : va_P D vwCl [(hR, .inr (3, [.ref aN, .int (vI ((n : Nat) : Int)), .int (vI ((pa : Nat) : Int))])), ia aB cB (NB) (d), ia aN cB ((zroom t)) (fun j => if j < NB then d j else (fun _ => 0) j)] H := hP
    have hD : va_D _ [(hR, .inr (3, [.ref aN, .int (vI ((n : Nat) : Int)), .int (vI ((pa : Nat) : Int))])), ia aB cB (NB) (d), ia aN cB ((zroom t)) (fun j => if j < NB then d j else (fun _ => 0) j)] := hD
    have hP9 := hP.sub (ws' := [(hR, .inr (3, [.ref aN, .int (vI ((n : Nat) : Int)), .int (vI ((pa : Nat) : Int))])), ia aN cB (zroom t) ((fun j => if j < NB then d j else (fun _ => 0) j))]) [0, 2] rfl
    have hD9 := hD.sub (ws' := [(hR, .inr (3, [.ref aN, .int (vI ((n : Nat) : Int)), .int (vI ((pa : Nat) : Int))])), ia aN cB (zroom t) ((fun j => if j < NB then d j else (fun _ => 0) j))]) [0, 2] (by decide) rfl
    refine W.widen (k := zmc NB t) (n := zms NB t) (by omega) (by omega) ?_
    exact zr_v hx hb hr hlocks ((aN, zroom t, (fun j => if j < NB then d j else (fun _ => 0) j))) ⟨by unfold zNB; rw [if_pos (by omega)], fun j hj => if_pos hj, zcp_by hby⟩ hP9 hD9 hS dX3_makeRoom_24

set_option maxRecDepth 100000 in
set_option maxHeartbeats 4000000 in
theorem s_append {p : Program} {l : Launch} {e : Env} {R : Room} {s : State} {m : MethodId} {args : Array Value} {below : List Frame} {meth : Method} {c : Code} {Q : State → Prop} {A : Nat → Prop} {H0 : Heap} {D : va_G} {cI cB : ClassId} {cells slots : Nat} (hx : p.tables.exec = Jvm.exec) (hb : c.code = cX3_append) (hts : ∀ w ∈ zALL, w.before args s = true) (hown : s.vm.findClass RX3 = some m.cls) (hml : c.maxLocals = 5) (hK : va_K D vwCl [(cI, .int), (cB, .byte)] s) (hns : zNs s) (hA : ∀ q, H0.size ≤ q → A q) (hRf : 0 ≤ R.frames) (hRl : 0 ≤ R.locals) (hRc : cells ≤ R.cells) (hRs : slots ≤ R.slots) (hR : Nat) (aB : Nat) (n : Nat) (pa : Nat) (NB : Nat) (d0 : Nat → Int) (v : Int64) (w : Nat) (h1 : n + w ≤ NB ∧ NB ≤ 32768 ∧ w ≤ 8)
    (K1 : ∀ (f : Nat) (d : Nat → Int) (H : Heap) (locs : List Loc) (ls : Array Slot), (f = n + w) → (∀ j, j < n → d j = d0 j) → (∀ j, j < w → d (n + j) = zbyte v j) → (∀ j, -128 ≤ d j ∧ d j < 128) → va_P D vwCl [(hR, .inr (3, [.ref aB, .int (vI ((f : Nat) : Int)), .int (vI ((pa : Nat) : Int))])), ia aB cB (NB) (d)] H → va_D A [(hR, .inr (3, [.ref aB, .int (vI ((f : Nat) : Int)), .int (vI ((pa : Nat) : Int))])), ia aB cB (NB) (d)] → va_S A H0 H locs → lv_has ls 5 [] → W p l e R s m args below meth c H locs cells slots Q (F0 m 56 ls []))
    : ∀ (fuel : Nat), ∀ (k : Nat) (f : Nat) (d : Nat → Int) (_ : w - k < fuel) (H : Heap) (locs : List Loc) (ls : Array Slot), (k ≤ w) → (f = n + k) → (∀ j, j < n → d j = d0 j) → (∀ j, j < k → d (n + j) = zbyte v j) → (∀ j, -128 ≤ d j ∧ d j < 128) → va_P D vwCl [(hR, .inr (3, [.ref aB, .int (vI ((f : Nat) : Int)), .int (vI ((pa : Nat) : Int))])), ia aB cB (NB) (d)] H → va_D A [(hR, .inr (3, [.ref aB, .int (vI ((f : Nat) : Int)), .int (vI ((pa : Nat) : Int))])), ia aB cB (NB) (d)] → va_S A H0 H locs → lv_has ls 5 [(0, .ref hR), (1, .long (v)), (3, .int (vI ((w : Nat) : Int))), (4, .int (vI ((k : Nat) : Int)))] → W p l e R s m args below meth c H locs cells slots Q (F0 m 13 ls []) := by
  intro fuel
  induction fuel with
  | zero =>
    intro k f d hfuel
    exact absurd hfuel (Nat.not_lt_zero _)
  | succ fuel ih =>
    intro k f d hfuel H locs ls hk hf hd hw hby hP hD hS hl
    refine lv_iload hx hb dX3_append_13 (lv_at hl 3 rfl) ?_
    refine lv_iload_n hx hb dX3_append_15 rfl (lv_at hl 2 rfl) ?_
    refine zw_icmp_ge (tgt := 56) hx hb dX3_append_16 (by decide) ⟨by omega, by omega⟩ ⟨by omega, by omega⟩ (fun c_16 => ?_) (fun c_16 => ?_)
    · exact K1 f d _ _ _ (by omega) (hd) (fun j hj => hw j (by omega)) (hby) (hP.sub [0, 1] rfl) (hD.sub [0, 1] (by decide) rfl) hS (lv_sub hl [] rfl)
    · refine lv_aload_n hx hb dX3_append_19 rfl (lv_at hl 0 rfl) ?_
      refine va_get (D := D) (ci := 3) (v := .ref aB) (C := RX3) (T := TX3) (N := 3) hx hb hts iwX3 hown hK hP 0 rfl rfl 0 (by decide) (hts _ aw_25) (fun _ h9 => h9) rfl dX3_append_20 ?_
      refine lv_aload_n hx hb dX3_append_23 rfl (lv_at hl 0 rfl) ?_
      refine va_get (D := D) (ci := 3) (v := .int (vI ((f : Nat) : Int))) (C := RX3) (T := TX3) (N := 3) hx hb hts iwX3 hown hK hP 0 rfl rfl 1 (by decide) (hts _ aw_28) (fun _ h9 => h9) rfl dX3_append_24 ?_
      refine lv_lload_n hx hb dX3_append_27 rfl (lv_at hl 1 rfl) ?_
      refine zw_bipush hx hb dX3_append_28 (by decide +kernel) ?_
      refine zw_bipush hx hb dX3_append_30 (by decide +kernel) ?_
      refine lv_iload hx hb dX3_append_32 (lv_at hl 3 rfl) ?_
      refine zw_isub hx hb dX3_append_34 ?_
      refine zw_imul hx hb dX3_append_35 ?_
      refine lv_lushr (v := ((v).toUInt64 >>> ((vI (8 * (7 - ((k : Nat) : Int)))).toInt64.toUInt64 &&& Int64.toUInt64 63)).toInt64) hx hb dX3_append_36 (rfl) ?_
      refine lv_l2i (v := (((v).toUInt64 >>> ((vI (8 * (7 - ((k : Nat) : Int)))).toInt64.toUInt64 &&& Int64.toUInt64 63)).toInt64).toInt32) hx hb dX3_append_37 rfl ?_
      refine lv_i2b (v := ((((v).toUInt64 >>> ((vI (8 * (7 - ((k : Nat) : Int)))).toInt64.toUInt64 &&& Int64.toUInt64 63)).toInt64).toInt32).toInt8.toInt32) hx hb dX3_append_38 rfl ?_
      refine zw_as (z := zbyte v k) (rfl) ?_
      refine zw_bast hx hb hK hP hD hS 1 1 rfl rfl (f) (by omega) (by omega) (by omega) (zbyte_in v k) dX3_append_39 (fun H locs hP hD hS => ?_)
      have hP : va_P D vwCl [(hR, .inr (3, [.ref aB, .int (vI ((f : Nat) : Int)), .int (vI ((pa : Nat) : Int))])), ia aB cB (NB) (zU d f (zbyte v k))] H := hP
      have hD : va_D _ [(hR, .inr (3, [.ref aB, .int (vI ((f : Nat) : Int)), .int (vI ((pa : Nat) : Int))])), ia aB cB (NB) (zU d f (zbyte v k))] := hD
      refine lv_aload_n hx hb dX3_append_40 rfl (lv_at hl 0 rfl) ?_
      refine lv_dup hx hb dX3_append_41 rfl ?_
      refine va_get (D := D) (ci := 3) (v := .int (vI ((f : Nat) : Int))) (C := RX3) (T := TX3) (N := 3) hx hb hts iwX3 hown hK hP 0 rfl rfl 1 (by decide) (hts _ aw_28) (fun _ h9 => h9) rfl dX3_append_42 ?_
      refine zw_iconst hx hb dX3_append_45 ?_
      refine zw_iadd hx hb dX3_append_46 ?_
      refine zw_to (z2 := ((f + 1 : Nat) : Int)) (by omega) ?_
      refine va_put (D := D) (ci := 3) (v := .int (vI ((f + 1 : Nat) : Int))) (ty := .int) (C := RX3) (T := TX3) (N := 3) hx hb hts iwX3 tyX3 tyX3_ok nmX3 hown hK hP hD hS 0 rfl rfl 1 (by decide) (hts _ aw_28) (fun _ h9 => h9) rfl (by decide +kernel) rfl rfl (Nat.le_of_ble_eq_true rfl) dX3_append_47 (fun H locs hP hD hS => ?_)
      have hP : va_P D vwCl [(hR, .inr (3, [.ref aB, .int (vI ((f + 1 : Nat) : Int)), .int (vI ((pa : Nat) : Int))])), ia aB cB (NB) (zU d f (zbyte v k))] H := hP
      have hD : va_D _ [(hR, .inr (3, [.ref aB, .int (vI ((f + 1 : Nat) : Int)), .int (vI ((pa : Nat) : Int))])), ia aB cB (NB) (zU d f (zbyte v k))] := hD
      refine lv_iinc (v := vI ((k + 1 : Nat) : Int)) (lv' := [(4, .int (vI ((k + 1 : Nat) : Int))), (0, .ref hR), (1, .long (v)), (3, .int (vI ((w : Nat) : Int)))]) hx hb dX3_append_50 hl (k := 3) rfl ((vI_add _ _).trans (congrArg vI (by omega))) (by decide) rfl (fun ls hl => ?_)
      refine lv_goto (tgt := 13) hx hb dX3_append_53 (by decide) ?_
      exact ih (k + 1) (f + 1) (zU d f (zbyte v k)) (by omega) _ _ _ (by omega) (by omega) (fun j hj => (zU_n (by omega)).trans (hd j hj)) (zU_app hf hw) (zU_by hby (zbyte_in v k)) (hP.sub [0, 1] rfl) (hD.sub [0, 1] (by decide) rfl) hS (lv_sub hl [1, 2, 3, 0] rfl)

set_option maxRecDepth 100000 in
set_option maxHeartbeats 4000000 in
theorem c_X3_append (l : Launch) (D : va_G) (cI cB : ClassId) (sz : Nat) (hR : Nat) (aB : Nat) (n : Nat) (pa : Nat) (NB : Nat) (d : Nat → Int) (v : Int64) (w : Nat) (h1 : n + w ≤ 32768 ∧ w ≤ 8 ∧ n ≤ NB ∧ NB ≤ 32768) (hby : ∀ j, -128 ≤ d j ∧ d j < 128) : Met l yX3_append wsX3_append ({ frames := 3, cells := zmc NB (n + w), slots := zms NB (n + w), locals := 83 } : Room) (va_Pc [.ref hR, .long (v), .int (vI ((w : Nat) : Int))] (zPre D vwCl [(cI, .int), (cB, .byte)] [(hR, .inr (3, [.ref aB, .int (vI ((n : Nat) : Int)), .int (vI ((pa : Nat) : Int))])), ia aB cB (NB) (d)] sz)) (va_Qv (S := Nat × Nat × (Nat → Int)) (fun u => match u with | (aB2, NB2, d2) => (NB2 = zNB NB (n + w)) ∧ (∀ j, j < n → d2 j = d j) ∧ (∀ j, j < w → d2 (n + j) = zbyte v j) ∧ (∀ j, -128 ≤ d2 j ∧ d2 j < 128)) (fun (u : Nat × Nat × (Nat → Int)) t => zB D vwCl (va_A [(hR, .inr (3, [.ref aB, .int (vI ((n : Nat) : Int)), .int (vI ((pa : Nat) : Int))])), ia aB cB (NB) (d)] sz) ((fun u => match u with | (aB2, NB2, d2) => [(hR, .inr (3, [.ref aB2, .int (vI ((n + w : Nat) : Int)), .int (vI ((pa : Nat) : Int))])), ia aB2 cB (NB2) (d2)] : Nat × Nat × (Nat → Int) → va_W) u) t) (va_A [(hR, .inr (3, [.ref aB, .int (vI ((n : Nat) : Int)), .int (vI ((pa : Nat) : Int))])), ia aB cB (NB) (d)] sz)) (zmc NB (n + w)) (zms NB (n + w)) (va_A [(hR, .inr (3, [.ref aB, .int (vI ((n : Nat) : Int)), .int (vI ((pa : Nat) : Int))])), ia aB cB (NB) (d)] sz) := by
  refine zMet (by decide) rfl (Nat.le_of_ble_eq_true rfl) (fun p e s m below meth c hx hb hr hts hown hlocks hnm hml hK hns hA hP hD hS ls hl => ?_)
  have hl : lv_has ls 5 [(0, .ref hR), (1, .long (v)), (3, .int (vI ((w : Nat) : Int)))] := hl
  have hRf : 3 ≤ ({ frames := 3, cells := zmc NB (n + w), slots := zms NB (n + w), locals := 83 } : Room).frames := Nat.le_refl _
  have hRl : 83 ≤ ({ frames := 3, cells := zmc NB (n + w), slots := zms NB (n + w), locals := 83 } : Room).locals := Nat.le_refl _
  have hRc : 0 ≤ ({ frames := 3, cells := zmc NB (n + w), slots := zms NB (n + w), locals := 83 } : Room).cells := Nat.zero_le _
  have hRs : 0 ≤ ({ frames := 3, cells := zmc NB (n + w), slots := zms NB (n + w), locals := 83 } : Room).slots := Nat.zero_le _
  refine lv_aload_n hx hb dX3_append_0 rfl (lv_at hl 0 rfl) ?_
  refine lv_aload_n hx hb dX3_append_1 rfl (lv_at hl 0 rfl) ?_
  refine va_get (D := D) (ci := 3) (v := .int (vI ((n : Nat) : Int))) (C := RX3) (T := TX3) (N := 3) hx hb hts iwX3 hown hK hP 0 rfl rfl 1 (by decide) (hts _ aw_28) (fun _ h9 => h9) rfl dX3_append_2 ?_
  refine lv_iload_n hx hb dX3_append_5 rfl (lv_at hl 2 rfl) ?_
  refine zw_iadd hx hb dX3_append_6 ?_
  refine zw_to (z2 := ((n + w : Nat) : Int)) (by omega) ?_
  have hPc := hP.sub (ws' := [(hR, .inr (3, [.ref aB, .int (vI ((n : Nat) : Int)), .int (vI ((pa : Nat) : Int))])), ia aB cB (NB) (d)]) [0, 1] rfl
  have hDc := hD.sub (ws' := [(hR, .inr (3, [.ref aB, .int (vI ((n : Nat) : Int)), .int (vI ((pa : Nat) : Int))])), ia aB cB (NB) (d)]) [0, 1] (by decide) rfl
  refine zc_v (wr := []) (va_runV (As := [.int (vI ((n + w : Nat) : Int))]) (rest := []) ⟨hx, hb, hml, hown, hts⟩ (c_X3_makeRoom l D cI cB _ hR aB n pa NB d (n + w) (by omega) (hby)) ⟨callB_of 1 hts (zg kX3_makeRoom) rfl rfl rfl (hts _ aw_2) (hts _ aw_297) (by decide +kernel) ⟨Nat.le_trans (Nat.le_of_ble_eq_true rfl) hRf, Nat.le_trans (Nat.le_of_ble_eq_true rfl) hRl⟩, (hts _ aw_299), (hts _ as_6)⟩ ⟨zPre_blind, va_recv hK hPc (ci := 3) (q0 := 0) rfl rfl, zPre_of hK hns hPc hDc⟩ rfl rfl hl.1 rfl (lv_room (Nat.le_of_ble_eq_true rfl)) dX3_append_7 ⟨Nat.le_of_eq (Nat.zero_add _), Nat.le_of_eq (Nat.zero_add _)⟩) hP hD hS hA [0, 1] [] rfl rfl (by decide) (by decide) (fun u H locs hpost hP hD hS => ?_)
  obtain ⟨aB2, NB2, d1⟩ := u
  obtain ⟨hNB_7, hd_7, hby_7⟩ := hpost
  have hRc : 0 + (zmc NB (n + w)) ≤ ({ frames := 3, cells := zmc NB (n + w), slots := zms NB (n + w), locals := 83 } : Room).cells := by show 0 + (zmc NB (n + w)) ≤ zmc NB (n + w); omega
  have hRs : 0 + (zms NB (n + w)) ≤ ({ frames := 3, cells := zmc NB (n + w), slots := zms NB (n + w), locals := 83 } : Room).slots := by show 0 + (zms NB (n + w)) ≤ zms NB (n + w); omega
  have hP : va_P D vwCl [(hR, .inr (3, [.ref aB2, .int (vI ((n : Nat) : Int)), .int (vI ((pa : Nat) : Int))])), ia aB2 cB (NB2) (d1)] H := hP
  have hD : va_D _ [(hR, .inr (3, [.ref aB2, .int (vI ((n : Nat) : Int)), .int (vI ((pa : Nat) : Int))])), ia aB2 cB (NB2) (d1)] := hD
  have hz1 := zNB_ge NB (n + w)
  have hz2 := zNB_le NB (n + w) (by omega)
  have hRc : 0 + zmc NB (n + w) ≤ zmc NB (n + w) := Nat.le_of_eq (Nat.zero_add _)
  have hRs : 0 + zms NB (n + w) ≤ zms NB (n + w) := Nat.le_of_eq (Nat.zero_add _)
  refine zw_iconst hx hb dX3_append_10 ?_
  refine lv_istore (lv' := [(4, .int (vI (0))), (0, .ref hR), (1, .long (v)), (3, .int (vI ((w : Nat) : Int)))]) hx hb dX3_append_11 hl (by decide) rfl (fun ls hl => ?_)
  refine s_append hx hb hts hown hml hK hns hA (Nat.le_trans (Nat.le_of_ble_eq_true rfl) hRf) (Nat.le_trans (Nat.le_of_ble_eq_true rfl) hRl) hRc hRs hR aB2 n pa NB2 d1 v w (by omega) (fun f d H locs ls hf hd hw hby hP hD hS hl => ?_) (w - 0 + 1) 0 n d1 (Nat.lt_succ_self _) _ _ _ (by omega) (by omega) (fun _ _ => rfl) (fun j hj => absurd hj (Nat.not_lt_zero j)) (hby_7) (hP.sub [0, 1] rfl) (hD.sub [0, 1] (by decide) rfl) hS (lv_sub hl [1, 2, 3, 0] rfl)
  subst hf
  refine W.widen (k := zmc NB (n + w)) (n := zms NB (n + w)) (Nat.le_of_eq (Nat.zero_add _)) (Nat.le_of_eq (Nat.zero_add _)) ?_
  exact zr_v hx hb hr hlocks ((aB2, NB2, d)) ⟨hNB_7, fun j hj => (hd j hj).trans (hd_7 j (by omega)), hw, hby⟩ hP hD hS dX3_append_56

set_option maxRecDepth 100000 in
set_option maxHeartbeats 4000000 in
theorem s_repeat {p : Program} {l : Launch} {e : Env} {R : Room} {s : State} {m : MethodId} {args : Array Value} {below : List Frame} {meth : Method} {c : Code} {Q : State → Prop} {A : Nat → Prop} {H0 : Heap} {D : va_G} {cI cB : ClassId} {cells slots : Nat} (hx : p.tables.exec = Jvm.exec) (hb : c.code = cX3_repeat) (hts : ∀ w ∈ zALL, w.before args s = true) (hown : s.vm.findClass RX3 = some m.cls) (hml : c.maxLocals = 4) (hK : va_K D vwCl [(cI, .int), (cB, .byte)] s) (hns : zNs s) (hA : ∀ q, H0.size ≤ q → A q) (hRf : 0 ≤ R.frames) (hRl : 0 ≤ R.locals) (hRc : cells ≤ R.cells) (hRs : slots ≤ R.slots) (hR : Nat) (aB : Nat) (n : Nat) (pa : Nat) (NB : Nat) (d0 : Nat → Int) (per : Nat) (w : Nat) (h1 : n + w ≤ NB ∧ NB ≤ 32768 ∧ 1 ≤ per ∧ per ≤ n)
    (K1 : ∀ (f : Nat) (d : Nat → Int) (H : Heap) (locs : List Loc) (ls : Array Slot), (f = n + w) → (∀ j, j < n → d j = d0 j) → (∀ j, n ≤ j → j < f → d j = d (j - per)) → (∀ j, -128 ≤ d j ∧ d j < 128) → va_P D vwCl [(hR, .inr (3, [.ref aB, .int (vI ((f : Nat) : Int)), .int (vI ((pa : Nat) : Int))])), ia aB cB (NB) (d)] H → va_D A [(hR, .inr (3, [.ref aB, .int (vI ((f : Nat) : Int)), .int (vI ((pa : Nat) : Int))])), ia aB cB (NB) (d)] → va_S A H0 H locs → lv_has ls 4 [] → W p l e R s m args below meth c H locs cells slots Q (F0 m 53 ls []))
    : ∀ (fuel : Nat), ∀ (k : Nat) (f : Nat) (d : Nat → Int) (_ : w - k < fuel) (H : Heap) (locs : List Loc) (ls : Array Slot), (k ≤ w) → (f = n + k) → (∀ j, j < n → d j = d0 j) → (∀ j, n ≤ j → j < f → d j = d (j - per)) → (∀ j, -128 ≤ d j ∧ d j < 128) → va_P D vwCl [(hR, .inr (3, [.ref aB, .int (vI ((f : Nat) : Int)), .int (vI ((pa : Nat) : Int))])), ia aB cB (NB) (d)] H → va_D A [(hR, .inr (3, [.ref aB, .int (vI ((f : Nat) : Int)), .int (vI ((pa : Nat) : Int))])), ia aB cB (NB) (d)] → va_S A H0 H locs → lv_has ls 4 [(0, .ref hR), (1, .int (vI ((per : Nat) : Int))), (2, .int (vI ((w : Nat) : Int))), (3, .int (vI ((k : Nat) : Int)))] → W p l e R s m args below meth c H locs cells slots Q (F0 m 12 ls []) := by
  intro fuel
  induction fuel with
  | zero =>
    intro k f d hfuel
    exact absurd hfuel (Nat.not_lt_zero _)
  | succ fuel ih =>
    intro k f d hfuel H locs ls hk hf hd hw hby hP hD hS hl
    refine lv_iload_n hx hb dX3_repeat_12 rfl (lv_at hl 3 rfl) ?_
    refine lv_iload_n hx hb dX3_repeat_13 rfl (lv_at hl 2 rfl) ?_
    refine zw_icmp_ge (tgt := 53) hx hb dX3_repeat_14 (by decide) ⟨by omega, by omega⟩ ⟨by omega, by omega⟩ (fun c_14 => ?_) (fun c_14 => ?_)
    · exact K1 f d _ _ _ (by omega) (hd) (hw) (hby) (hP.sub [0, 1] rfl) (hD.sub [0, 1] (by decide) rfl) hS (lv_sub hl [] rfl)
    · refine lv_aload_n hx hb dX3_repeat_17 rfl (lv_at hl 0 rfl) ?_
      refine va_get (D := D) (ci := 3) (v := .ref aB) (C := RX3) (T := TX3) (N := 3) hx hb hts iwX3 hown hK hP 0 rfl rfl 0 (by decide) (hts _ aw_25) (fun _ h9 => h9) rfl dX3_repeat_18 ?_
      refine lv_aload_n hx hb dX3_repeat_21 rfl (lv_at hl 0 rfl) ?_
      refine va_get (D := D) (ci := 3) (v := .int (vI ((f : Nat) : Int))) (C := RX3) (T := TX3) (N := 3) hx hb hts iwX3 hown hK hP 0 rfl rfl 1 (by decide) (hts _ aw_28) (fun _ h9 => h9) rfl dX3_repeat_22 ?_
      refine lv_aload_n hx hb dX3_repeat_25 rfl (lv_at hl 0 rfl) ?_
      refine va_get (D := D) (ci := 3) (v := .ref aB) (C := RX3) (T := TX3) (N := 3) hx hb hts iwX3 hown hK hP 0 rfl rfl 0 (by decide) (hts _ aw_25) (fun _ h9 => h9) rfl dX3_repeat_26 ?_
      refine lv_aload_n hx hb dX3_repeat_29 rfl (lv_at hl 0 rfl) ?_
      refine va_get (D := D) (ci := 3) (v := .int (vI ((f : Nat) : Int))) (C := RX3) (T := TX3) (N := 3) hx hb hts iwX3 hown hK hP 0 rfl rfl 1 (by decide) (hts _ aw_28) (fun _ h9 => h9) rfl dX3_repeat_30 ?_
      refine lv_iload_n hx hb dX3_repeat_33 rfl (lv_at hl 1 rfl) ?_
      refine zw_isub hx hb dX3_repeat_34 ?_
      refine zw_to (z2 := ((f - per : Nat) : Int)) (by omega) ?_
      refine zw_bald hx hb hK hP 1 1 rfl rfl (f - per) (by omega) (by omega) (by omega) dX3_repeat_35 ?_
      refine zw_bast hx hb hK hP hD hS 1 1 rfl rfl (f) (by omega) (by omega) (by omega) (hby _) dX3_repeat_36 (fun H locs hP hD hS => ?_)
      have hP : va_P D vwCl [(hR, .inr (3, [.ref aB, .int (vI ((f : Nat) : Int)), .int (vI ((pa : Nat) : Int))])), ia aB cB (NB) (zU d f (d (f - per)))] H := hP
      have hD : va_D _ [(hR, .inr (3, [.ref aB, .int (vI ((f : Nat) : Int)), .int (vI ((pa : Nat) : Int))])), ia aB cB (NB) (zU d f (d (f - per)))] := hD
      refine lv_aload_n hx hb dX3_repeat_37 rfl (lv_at hl 0 rfl) ?_
      refine lv_dup hx hb dX3_repeat_38 rfl ?_
      refine va_get (D := D) (ci := 3) (v := .int (vI ((f : Nat) : Int))) (C := RX3) (T := TX3) (N := 3) hx hb hts iwX3 hown hK hP 0 rfl rfl 1 (by decide) (hts _ aw_28) (fun _ h9 => h9) rfl dX3_repeat_39 ?_
      refine zw_iconst hx hb dX3_repeat_42 ?_
      refine zw_iadd hx hb dX3_repeat_43 ?_
      refine zw_to (z2 := ((f + 1 : Nat) : Int)) (by omega) ?_
      refine va_put (D := D) (ci := 3) (v := .int (vI ((f + 1 : Nat) : Int))) (ty := .int) (C := RX3) (T := TX3) (N := 3) hx hb hts iwX3 tyX3 tyX3_ok nmX3 hown hK hP hD hS 0 rfl rfl 1 (by decide) (hts _ aw_28) (fun _ h9 => h9) rfl (by decide +kernel) rfl rfl (Nat.le_of_ble_eq_true rfl) dX3_repeat_44 (fun H locs hP hD hS => ?_)
      have hP : va_P D vwCl [(hR, .inr (3, [.ref aB, .int (vI ((f + 1 : Nat) : Int)), .int (vI ((pa : Nat) : Int))])), ia aB cB (NB) (zU d f (d (f - per)))] H := hP
      have hD : va_D _ [(hR, .inr (3, [.ref aB, .int (vI ((f + 1 : Nat) : Int)), .int (vI ((pa : Nat) : Int))])), ia aB cB (NB) (zU d f (d (f - per)))] := hD
      refine lv_iinc (v := vI ((k + 1 : Nat) : Int)) (lv' := [(3, .int (vI ((k + 1 : Nat) : Int))), (0, .ref hR), (1, .int (vI ((per : Nat) : Int))), (2, .int (vI ((w : Nat) : Int)))]) hx hb dX3_repeat_47 hl (k := 3) rfl ((vI_add _ _).trans (congrArg vI (by omega))) (by decide) rfl (fun ls hl => ?_)
      refine lv_goto (tgt := 12) hx hb dX3_repeat_50 (by decide) ?_
      exact ih (k + 1) (f + 1) (zU d f (d (f - per))) (by omega) _ _ _ (by omega) (by omega) (fun j hj => (zU_n (by omega)).trans (hd j hj)) (zU_rep (by omega) hw) (zU_by hby (hby _)) (hP.sub [0, 1] rfl) (hD.sub [0, 1] (by decide) rfl) hS (lv_sub hl [1, 2, 3, 0] rfl)

set_option maxRecDepth 100000 in
set_option maxHeartbeats 4000000 in
theorem c_X3_repeat (l : Launch) (D : va_G) (cI cB : ClassId) (sz : Nat) (hR : Nat) (aB : Nat) (n : Nat) (pa : Nat) (NB : Nat) (d : Nat → Int) (per : Nat) (w : Nat) (h1 : n + w ≤ 32768 ∧ 1 ≤ per ∧ per ≤ n ∧ n ≤ NB ∧ NB ≤ 32768) (hby : ∀ j, -128 ≤ d j ∧ d j < 128) : Met l yX3_repeat wsX3_repeat ({ frames := 3, cells := zmc NB (n + w), slots := zms NB (n + w), locals := 83 } : Room) (va_Pc [.ref hR, .int (vI ((per : Nat) : Int)), .int (vI ((w : Nat) : Int))] (zPre D vwCl [(cI, .int), (cB, .byte)] [(hR, .inr (3, [.ref aB, .int (vI ((n : Nat) : Int)), .int (vI ((pa : Nat) : Int))])), ia aB cB (NB) (d)] sz)) (va_Qv (S := Nat × Nat × (Nat → Int)) (fun u => match u with | (aB2, NB2, d2) => (NB2 = zNB NB (n + w)) ∧ (∀ j, j < n → d2 j = d j) ∧ (∀ j, n ≤ j → j < n + w → d2 j = d2 (j - per)) ∧ (∀ j, -128 ≤ d2 j ∧ d2 j < 128)) (fun (u : Nat × Nat × (Nat → Int)) t => zB D vwCl (va_A [(hR, .inr (3, [.ref aB, .int (vI ((n : Nat) : Int)), .int (vI ((pa : Nat) : Int))])), ia aB cB (NB) (d)] sz) ((fun u => match u with | (aB2, NB2, d2) => [(hR, .inr (3, [.ref aB2, .int (vI ((n + w : Nat) : Int)), .int (vI ((pa : Nat) : Int))])), ia aB2 cB (NB2) (d2)] : Nat × Nat × (Nat → Int) → va_W) u) t) (va_A [(hR, .inr (3, [.ref aB, .int (vI ((n : Nat) : Int)), .int (vI ((pa : Nat) : Int))])), ia aB cB (NB) (d)] sz)) (zmc NB (n + w)) (zms NB (n + w)) (va_A [(hR, .inr (3, [.ref aB, .int (vI ((n : Nat) : Int)), .int (vI ((pa : Nat) : Int))])), ia aB cB (NB) (d)] sz) := by
  refine zMet (by decide) rfl (Nat.le_of_ble_eq_true rfl) (fun p e s m below meth c hx hb hr hts hown hlocks hnm hml hK hns hA hP hD hS ls hl => ?_)
  have hl : lv_has ls 4 [(0, .ref hR), (1, .int (vI ((per : Nat) : Int))), (2, .int (vI ((w : Nat) : Int)))] := hl
  have hRf : 3 ≤ ({ frames := 3, cells := zmc NB (n + w), slots := zms NB (n + w), locals := 83 } : Room).frames := Nat.le_refl _
  have hRl : 83 ≤ ({ frames := 3, cells := zmc NB (n + w), slots := zms NB (n + w), locals := 83 } : Room).locals := Nat.le_refl _
  have hRc : 0 ≤ ({ frames := 3, cells := zmc NB (n + w), slots := zms NB (n + w), locals := 83 } : Room).cells := Nat.zero_le _
  have hRs : 0 ≤ ({ frames := 3, cells := zmc NB (n + w), slots := zms NB (n + w), locals := 83 } : Room).slots := Nat.zero_le _
  refine lv_aload_n hx hb dX3_repeat_0 rfl (lv_at hl 0 rfl) ?_
  refine lv_aload_n hx hb dX3_repeat_1 rfl (lv_at hl 0 rfl) ?_
  refine va_get (D := D) (ci := 3) (v := .int (vI ((n : Nat) : Int))) (C := RX3) (T := TX3) (N := 3) hx hb hts iwX3 hown hK hP 0 rfl rfl 1 (by decide) (hts _ aw_28) (fun _ h9 => h9) rfl dX3_repeat_2 ?_
  refine lv_iload_n hx hb dX3_repeat_5 rfl (lv_at hl 2 rfl) ?_
  refine zw_iadd hx hb dX3_repeat_6 ?_
  refine zw_to (z2 := ((n + w : Nat) : Int)) (by omega) ?_
  have hPc := hP.sub (ws' := [(hR, .inr (3, [.ref aB, .int (vI ((n : Nat) : Int)), .int (vI ((pa : Nat) : Int))])), ia aB cB (NB) (d)]) [0, 1] rfl
  have hDc := hD.sub (ws' := [(hR, .inr (3, [.ref aB, .int (vI ((n : Nat) : Int)), .int (vI ((pa : Nat) : Int))])), ia aB cB (NB) (d)]) [0, 1] (by decide) rfl
  refine zc_v (wr := []) (va_runV (As := [.int (vI ((n + w : Nat) : Int))]) (rest := []) ⟨hx, hb, hml, hown, hts⟩ (c_X3_makeRoom l D cI cB _ hR aB n pa NB d (n + w) (by omega) (hby)) ⟨callB_of 1 hts (zg kX3_makeRoom) rfl rfl rfl (hts _ aw_2) (hts _ aw_297) (by decide +kernel) ⟨Nat.le_trans (Nat.le_of_ble_eq_true rfl) hRf, Nat.le_trans (Nat.le_of_ble_eq_true rfl) hRl⟩, (hts _ aw_299), (hts _ as_6)⟩ ⟨zPre_blind, va_recv hK hPc (ci := 3) (q0 := 0) rfl rfl, zPre_of hK hns hPc hDc⟩ rfl rfl hl.1 rfl (lv_room (Nat.le_of_ble_eq_true rfl)) dX3_repeat_7 ⟨Nat.le_of_eq (Nat.zero_add _), Nat.le_of_eq (Nat.zero_add _)⟩) hP hD hS hA [0, 1] [] rfl rfl (by decide) (by decide) (fun u H locs hpost hP hD hS => ?_)
  obtain ⟨aB2, NB2, d1⟩ := u
  obtain ⟨hNB_7, hd_7, hby_7⟩ := hpost
  have hRc : 0 + (zmc NB (n + w)) ≤ ({ frames := 3, cells := zmc NB (n + w), slots := zms NB (n + w), locals := 83 } : Room).cells := by show 0 + (zmc NB (n + w)) ≤ zmc NB (n + w); omega
  have hRs : 0 + (zms NB (n + w)) ≤ ({ frames := 3, cells := zmc NB (n + w), slots := zms NB (n + w), locals := 83 } : Room).slots := by show 0 + (zms NB (n + w)) ≤ zms NB (n + w); omega
  have hP : va_P D vwCl [(hR, .inr (3, [.ref aB2, .int (vI ((n : Nat) : Int)), .int (vI ((pa : Nat) : Int))])), ia aB2 cB (NB2) (d1)] H := hP
  have hD : va_D _ [(hR, .inr (3, [.ref aB2, .int (vI ((n : Nat) : Int)), .int (vI ((pa : Nat) : Int))])), ia aB2 cB (NB2) (d1)] := hD
  have hz1 := zNB_ge NB (n + w)
  have hz2 := zNB_le NB (n + w) (by omega)
  have hRc : 0 + zmc NB (n + w) ≤ zmc NB (n + w) := Nat.le_of_eq (Nat.zero_add _)
  have hRs : 0 + zms NB (n + w) ≤ zms NB (n + w) := Nat.le_of_eq (Nat.zero_add _)
  refine zw_iconst hx hb dX3_repeat_10 ?_
  refine lv_istore_n (lv' := [(3, .int (vI (0))), (0, .ref hR), (1, .int (vI ((per : Nat) : Int))), (2, .int (vI ((w : Nat) : Int)))]) hx hb dX3_repeat_11 rfl hl (by decide) rfl (fun ls hl => ?_)
  refine s_repeat hx hb hts hown hml hK hns hA (Nat.le_trans (Nat.le_of_ble_eq_true rfl) hRf) (Nat.le_trans (Nat.le_of_ble_eq_true rfl) hRl) hRc hRs hR aB2 n pa NB2 d1 per w (by omega) (fun f d H locs ls hf hd hw hby hP hD hS hl => ?_) (w - 0 + 1) 0 n d1 (Nat.lt_succ_self _) _ _ _ (by omega) (by omega) (fun _ _ => rfl) (fun j h2 h3 => absurd h3 (by omega)) (hby_7) (hP.sub [0, 1] rfl) (hD.sub [0, 1] (by decide) rfl) hS (lv_sub hl [1, 2, 3, 0] rfl)
  subst hf
  refine W.widen (k := zmc NB (n + w)) (n := zms NB (n + w)) (Nat.le_of_eq (Nat.zero_add _)) (Nat.le_of_eq (Nat.zero_add _)) ?_
  exact zr_v hx hb hr hlocks ((aB2, NB2, d)) ⟨hNB_7, fun j hj => (hd j hj).trans (hd_7 j (by omega)), hw, hby⟩ hP hD hS dX3_repeat_53
