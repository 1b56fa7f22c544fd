def zNP (NP t : Nat) : Nat := if NP < t then min (zroom t) 8193 else NP
def zmcP (NP t : Nat) : Nat := if NP < t then 4 else 0
def zmsP (NP t : Nat) : Nat := if NP < t then 4 * min (zroom t) 8193 else 0
def zup (g g2 : Nat → Int) (i v : Nat) : Prop := g2 i = ((v : Nat) : Int) ∧ ∀ j, ¬ j = i → g2 j = g j
theorem zup_0 {g : Nat → Int} {i v : Nat} (h : g i = ((v : Nat) : Int)) : zup g g i v := ⟨h, fun _ _ => rfl⟩
theorem zup_1 {g : Nat → Int} {i v : Nat} : zup g (zU g i ((v : Nat) : Int)) i v := ⟨zU_s, fun _ h => zU_n h⟩
theorem zstk_lo {C ex : Nat → Nat} {m lo hi F k : Nat} (h : zStk C ex m lo hi) (h1 : k < m) (h2 : F < ex k) : ∀ a, a < k + 1 → F < ex a := fun a ha => by
  rcases Nat.eq_or_lt_of_le (show a ≤ k by omega) with z | z
  · rw [z]; exact h2
  · have := h.2.1 a k z h1; omega
theorem zstk_cnt {C ex : Nat → Nat} {m lo hi : Nat} (h : zStk C ex m lo hi) : m ≤ hi + 1 - lo := by
  have key : ∀ a, a < m → ex a + a ≤ hi := by
    intro a
    induction a with
    | zero => intro ha; have := h.1 0 ha; omega
    | succ a ih =>
      intro ha
      have h1 := ih (by omega)
      have h2 := h.2.1 a (a + 1) (by omega) ha
      omega
  rcases Nat.eq_zero_or_pos m with z | z
  · omega
  · have h1 := key (m - 1) (by omega)
    have h2 := h.1 (m - 1) (by omega)
    omega
theorem zlt_pre {C ex : Nat → Nat} {mm m0 en : Nat} (h : ∀ a, mm ≤ a → a < m0 → C en < C (ex a)) (h2 : C en < C (ex (mm - 1))) : ∀ a, mm - 1 ≤ a → a < m0 → C en < C (ex a) := fun a h3 h4 => by
  rcases Nat.eq_or_lt_of_le h3 with z | z
  · rw [← z]; exact h2
  · exact h a (by omega) h4
set_option maxRecDepth 100000 in
set_option maxHeartbeats 4000000 in
theorem c_X2_init (l : Launch) (D : va_G) (cI cB : ClassId) (sz : Nat) (hN : Nat) (hR : Nat) (hL : Nat) (hF : Nat)  : Met l yX2_init wsX2_init ({ frames := 1, cells := 4, slots := 2048, locals := 20 } : Room) (va_Pc [.ref hN, .ref hR, .ref hL, .ref hF] (zPre D vwCl [(cI, .int), (cB, .byte)] [(hN, .inr (2, [.null, .null, .null, .null, .null, .null, .null, .int (vI (0))]))] sz)) (va_Qv (S := Nat × Nat × Nat × Nat) (fun u => match u with | (aC, aN, aO, aX) => True) (fun (u : Nat × Nat × Nat × Nat) t => zB D vwCl (va_A [(hN, .inr (2, [.null, .null, .null, .null, .null, .null, .null, .int (vI (0))]))] sz) ((fun u => match u with | (aC, aN, aO, aX) => [(hN, .inr (2, [.ref hR, .ref hL, .ref hF, .ref aC, .ref aN, .ref aO, .ref aX, .int (vI (0))])), ia aC cI (512) (fun _ => 0), ia aN cI (512) (fun _ => 0), ia aO cI (512) (fun _ => 0), ia aX cI (512) (fun _ => 0)] : Nat × Nat × Nat × Nat → va_W) u) t) (va_A [(hN, .inr (2, [.null, .null, .null, .null, .null, .null, .null, .int (vI (0))]))] sz)) (4) (2048) (va_A [(hN, .inr (2, [.null, .null, .null, .null, .null, .null, .null, .int (vI (0))]))] sz) := by
  refine zMet (by decide) rfl (Nat.le_of_ble_eq_true rfl) (fun p e s m below meth c hx hb hr hts hown hlocks hnm hml hK hns hA hP hD hS ls hl => ?_)
  have hl : lv_has ls 4 [(0, .ref hN), (1, .ref hR), (2, .ref hL), (3, .ref hF)] := hl
  have hRf : 1 ≤ ({ frames := 1, cells := 4, slots := 2048, locals := 20 } : Room).frames := Nat.le_refl _
  have hRl : 20 ≤ ({ frames := 1, cells := 4, slots := 2048, locals := 20 } : Room).locals := Nat.le_refl _
  have hRc : 0 ≤ ({ frames := 1, cells := 4, slots := 2048, locals := 20 } : Room).cells := Nat.zero_le _
  have hRs : 0 ≤ ({ frames := 1, cells := 4, slots := 2048, locals := 20 } : Room).slots := Nat.zero_le _
  refine lv_aload_n hx hb dX2_init_0 rfl (lv_at hl 0 rfl) ?_
  refine W.objInit hx hb hown (hts _ aw_156) (hts _ aw_17) (hts _ aw_18) rfl (by rw [hml]; exact hl.1) rfl dX2_init_1 (Nat.le_trans (Nat.le_of_ble_eq_true rfl) hRf) (Nat.le_trans (Nat.le_of_ble_eq_true rfl) hRl) ?_
  refine W.eq (g2 := F0 m 4 ls []) rfl ?_
  refine lv_aload_n hx hb dX2_init_4 rfl (lv_at hl 0 rfl) ?_
  refine zw_sipush hx hb dX2_init_5 (by decide +kernel) ?_
  refine zw_newi hx hb (hts _ aw_150) hK hP hD hS hA 0 rfl (512) (by omega) (by omega) (by show 0 + 1 ≤ 4; omega) (by show 0 + (512) ≤ 2048; omega) dX2_init_8 (fun q1 H hP hD hS => ?_)
  have hP : va_P D vwCl [(hN, .inr (2, [.null, .null, .null, .null, .null, .null, .null, .int (vI (0))])), ia q1 cI (512) (fun _ => 0)] H := hP
  have hD : va_D _ [(hN, .inr (2, [.null, .null, .null, .null, .null, .null, .null, .int (vI (0))])), ia q1 cI (512) (fun _ => 0)] := hD
  have hRc : 0 + 1 ≤ ({ frames := 1, cells := 4, slots := 2048, locals := 20 } : Room).cells := by show 0 + 1 ≤ 4; omega
  have hRs : 0 + (512) ≤ ({ frames := 1, cells := 4, slots := 2048, locals := 20 } : Room).slots := by show 0 + (512) ≤ 2048; omega
  refine va_put (D := D) (ci := 2) (v := .ref q1) (ty := .array .int) (C := RX2) (T := TX2) (N := 8) hx hb hts iwX2 tyX2 tyX2_ok nmX2 hown hK hP hD hS 0 rfl rfl 3 (by decide) (hts _ aw_160) (fun _ h9 => h9) rfl (by decide +kernel) rfl rfl (Nat.le_of_ble_eq_true rfl) dX2_init_10 (fun H locs hP hD hS => ?_)
  have hP : va_P D vwCl [(hN, .inr (2, [.null, .null, .null, .ref q1, .null, .null, .null, .int (vI (0))])), ia q1 cI (512) (fun _ => 0)] H := hP
  have hD : va_D _ [(hN, .inr (2, [.null, .null, .null, .ref q1, .null, .null, .null, .int (vI (0))])), ia q1 cI (512) (fun _ => 0)] := hD
  refine lv_aload_n hx hb dX2_init_13 rfl (lv_at hl 0 rfl) ?_
  refine zw_sipush hx hb dX2_init_14 (by decide +kernel) ?_
  refine zw_newi hx hb (hts _ aw_150) hK hP hD hS hA 0 rfl (512) (by omega) (by omega) (by show 0 + 1 + 1 ≤ 4; omega) (by show 0 + (512) + (512) ≤ 2048; omega) dX2_init_17 (fun q2 H hP hD hS => ?_)
  have hP : va_P D vwCl [(hN, .inr (2, [.null, .null, .null, .ref q1, .null, .null, .null, .int (vI (0))])), ia q1 cI (512) (fun _ => 0), ia q2 cI (512) (fun _ => 0)] H := hP
  have hD : va_D _ [(hN, .inr (2, [.null, .null, .null, .ref q1, .null, .null, .null, .int (vI (0))])), ia q1 cI (512) (fun _ => 0), ia q2 cI (512) (fun _ => 0)] := hD
  have hRc : 0 + 1 + 1 ≤ ({ frames := 1, cells := 4, slots := 2048, locals := 20 } : Room).cells := by show 0 + 1 + 1 ≤ 4; omega
  have hRs : 0 + (512) + (512) ≤ ({ frames := 1, cells := 4, slots := 2048, locals := 20 } : Room).slots := by show 0 + (512) + (512) ≤ 2048; omega
  refine va_put (D := D) (ci := 2) (v := .ref q2) (ty := .array .int) (C := RX2) (T := TX2) (N := 8) hx hb hts iwX2 tyX2 tyX2_ok nmX2 hown hK hP hD hS 0 rfl rfl 4 (by decide) (hts _ aw_161) (fun _ h9 => h9) rfl (by decide +kernel) rfl rfl (Nat.le_of_ble_eq_true rfl) dX2_init_19 (fun H locs hP hD hS => ?_)
  have hP : va_P D vwCl [(hN, .inr (2, [.null, .null, .null, .ref q1, .ref q2, .null, .null, .int (vI (0))])), ia q1 cI (512) (fun _ => 0), ia q2 cI (512) (fun _ => 0)] H := hP
  have hD : va_D _ [(hN, .inr (2, [.null, .null, .null, .ref q1, .ref q2, .null, .null, .int (vI (0))])), ia q1 cI (512) (fun _ => 0), ia q2 cI (512) (fun _ => 0)] := hD
  refine lv_aload_n hx hb dX2_init_22 rfl (lv_at hl 0 rfl) ?_
  refine zw_sipush hx hb dX2_init_23 (by decide +kernel) ?_
  refine zw_newi hx hb (hts _ aw_150) hK hP hD hS hA 0 rfl (512) (by omega) (by omega) (by show 0 + 1 + 1 + 1 ≤ 4; omega) (by show 0 + (512) + (512) + (512) ≤ 2048; omega) dX2_init_26 (fun q3 H hP hD hS => ?_)
  have hP : va_P D vwCl [(hN, .inr (2, [.null, .null, .null, .ref q1, .ref q2, .null, .null, .int (vI (0))])), ia q1 cI (512) (fun _ => 0), ia q2 cI (512) (fun _ => 0), ia q3 cI (512) (fun _ => 0)] H := hP
  have hD : va_D _ [(hN, .inr (2, [.null, .null, .null, .ref q1, .ref q2, .null, .null, .int (vI (0))])), ia q1 cI (512) (fun _ => 0), ia q2 cI (512) (fun _ => 0), ia q3 cI (512) (fun _ => 0)] := hD
  have hRc : 0 + 1 + 1 + 1 ≤ ({ frames := 1, cells := 4, slots := 2048, locals := 20 } : Room).cells := by show 0 + 1 + 1 + 1 ≤ 4; omega
  have hRs : 0 + (512) + (512) + (512) ≤ ({ frames := 1, cells := 4, slots := 2048, locals := 20 } : Room).slots := by show 0 + (512) + (512) + (512) ≤ 2048; omega
  refine va_put (D := D) (ci := 2) (v := .ref q3) (ty := .array .int) (C := RX2) (T := TX2) (N := 8) hx hb hts iwX2 tyX2 tyX2_ok nmX2 hown hK hP hD hS 0 rfl rfl 5 (by decide) (hts _ aw_163) (fun _ h9 => h9) rfl (by decide +kernel) rfl rfl (Nat.le_of_ble_eq_true rfl) dX2_init_28 (fun H locs hP hD hS => ?_)
  have hP : va_P D vwCl [(hN, .inr (2, [.null, .null, .null, .ref q1, .ref q2, .ref q3, .null, .int (vI (0))])), ia q1 cI (512) (fun _ => 0), ia q2 cI (512) (fun _ => 0), ia q3 cI (512) (fun _ => 0)] H := hP
  have hD : va_D _ [(hN, .inr (2, [.null, .null, .null, .ref q1, .ref q2, .ref q3, .null, .int (vI (0))])), ia q1 cI (512) (fun _ => 0), ia q2 cI (512) (fun _ => 0), ia q3 cI (512) (fun _ => 0)] := hD
  refine lv_aload_n hx hb dX2_init_31 rfl (lv_at hl 0 rfl) ?_
  refine zw_sipush hx hb dX2_init_32 (by decide +kernel) ?_
  refine zw_newi hx hb (hts _ aw_150) hK hP hD hS hA 0 rfl (512) (by omega) (by omega) (by show 0 + 1 + 1 + 1 + 1 ≤ 4; omega) (by show 0 + (512) + (512) + (512) + (512) ≤ 2048; omega) dX2_init_35 (fun q4 H hP hD hS => ?_)
  have hP : va_P D vwCl [(hN, .inr (2, [.null, .null, .null, .ref q1, .ref q2, .ref q3, .null, .int (vI (0))])), ia q1 cI (512) (fun _ => 0), ia q2 cI (512) (fun _ => 0), ia q3 cI (512) (fun _ => 0), ia q4 cI (512) (fun _ => 0)] H := hP
  have hD : va_D _ [(hN, .inr (2, [.null, .null, .null, .ref q1, .ref q2, .ref q3, .null, .int (vI (0))])), ia q1 cI (512) (fun _ => 0), ia q2 cI (512) (fun _ => 0), ia q3 cI (512) (fun _ => 0), ia q4 cI (512) (fun _ => 0)] := hD
  have hRc : 0 + 1 + 1 + 1 + 1 ≤ ({ frames := 1, cells := 4, slots := 2048, locals := 20 } : Room).cells := by show 0 + 1 + 1 + 1 + 1 ≤ 4; omega
  have hRs : 0 + (512) + (512) + (512) + (512) ≤ ({ frames := 1, cells := 4, slots := 2048, locals := 20 } : Room).slots := by show 0 + (512) + (512) + (512) + (512) ≤ 2048; omega
  refine va_put (D := D) (ci := 2) (v := .ref q4) (ty := .array .int) (C := RX2) (T := TX2) (N := 8) hx hb hts iwX2 tyX2 tyX2_ok nmX2 hown hK hP hD hS 0 rfl rfl 6 (by decide) (hts _ aw_165) (fun _ h9 => h9) rfl (by decide +kernel) rfl rfl (Nat.le_of_ble_eq_true rfl) dX2_init_37 (fun H locs hP hD hS => ?_)
  have hP : va_P D vwCl [(hN, .inr (2, [.null, .null, .null, .ref q1, .ref q2, .ref q3, .ref q4, .int (vI (0))])), ia q1 cI (512) (fun _ => 0), ia q2 cI (512) (fun _ => 0), ia q3 cI (512) (fun _ => 0), ia q4 cI (512) (fun _ => 0)] H := hP
  have hD : va_D _ [(hN, .inr (2, [.null, .null, .null, .ref q1, .ref q2, .ref q3, .ref q4, .int (vI (0))])), ia q1 cI (512) (fun _ => 0), ia q2 cI (512) (fun _ => 0), ia q3 cI (512) (fun _ => 0), ia q4 cI (512) (fun _ => 0)] := hD
  refine lv_aload_n hx hb dX2_init_40 rfl (lv_at hl 0 rfl) ?_
  refine zw_iconst hx hb dX2_init_41 ?_
  refine va_put (D := D) (ci := 2) (v := .int (vI (0))) (ty := .int) (C := RX2) (T := TX2) (N := 8) hx hb hts iwX2 tyX2 tyX2_ok nmX2 hown hK hP hD hS 0 rfl rfl 7 (by decide) (hts _ aw_166) (fun _ h9 => h9) rfl (by decide +kernel) rfl rfl (Nat.le_of_ble_eq_true rfl) dX2_init_42 (fun H locs hP hD hS => ?_)
  have hP : va_P D vwCl [(hN, .inr (2, [.null, .null, .null, .ref q1, .ref q2, .ref q3, .ref q4, .int (vI (0))])), ia q1 cI (512) (fun _ => 0), ia q2 cI (512) (fun _ => 0), ia q3 cI (512) (fun _ => 0), ia q4 cI (512) (fun _ => 0)] H := hP
  have hD : va_D _ [(hN, .inr (2, [.null, .null, .null, .ref q1, .ref q2, .ref q3, .ref q4, .int (vI (0))])), ia q1 cI (512) (fun _ => 0), ia q2 cI (512) (fun _ => 0), ia q3 cI (512) (fun _ => 0), ia q4 cI (512) (fun _ => 0)] := hD
  refine lv_aload_n hx hb dX2_init_45 rfl (lv_at hl 0 rfl) ?_
  refine lv_aload_n hx hb dX2_init_46 rfl (lv_at hl 1 rfl) ?_
  refine va_putF (D := D) (ci := 2) (v := .ref hR) (ty := .object "MatchSeeker$Row") (C := RX2) (T := TX2) (N := 8) hx hb hts iwX2 tyX2 tyX2_ok nmX2 hown hK hP hD hS 0 rfl rfl 0 (by decide) (hts _ aw_157) (fun _ h9 => h9) rfl hnm rfl (by decide +kernel) rfl rfl (Nat.le_of_ble_eq_true rfl) dX2_init_47 (fun H locs hP hD hS => ?_)
  have hP : va_P D vwCl [(hN, .inr (2, [.ref hR, .null, .null, .ref q1, .ref q2, .ref q3, .ref q4, .int (vI (0))])), ia q1 cI (512) (fun _ => 0), ia q2 cI (512) (fun _ => 0), ia q3 cI (512) (fun _ => 0), ia q4 cI (512) (fun _ => 0)] H := hP
  have hD : va_D _ [(hN, .inr (2, [.ref hR, .null, .null, .ref q1, .ref q2, .ref q3, .ref q4, .int (vI (0))])), ia q1 cI (512) (fun _ => 0), ia q2 cI (512) (fun _ => 0), ia q3 cI (512) (fun _ => 0), ia q4 cI (512) (fun _ => 0)] := hD
  refine lv_aload_n hx hb dX2_init_50 rfl (lv_at hl 0 rfl) ?_
  refine lv_aload_n hx hb dX2_init_51 rfl (lv_at hl 2 rfl) ?_
  refine va_putF (D := D) (ci := 2) (v := .ref hL) (ty := .object "MatchSeeker$Rule") (C := RX2) (T := TX2) (N := 8) hx hb hts iwX2 tyX2 tyX2_ok nmX2 hown hK hP hD hS 0 rfl rfl 1 (by decide) (hts _ aw_158) (fun _ h9 => h9) rfl hnm rfl (by decide +kernel) rfl rfl (Nat.le_of_ble_eq_true rfl) dX2_init_52 (fun H locs hP hD hS => ?_)
  have hP : va_P D vwCl [(hN, .inr (2, [.ref hR, .ref hL, .null, .ref q1, .ref q2, .ref q3, .ref q4, .int (vI (0))])), ia q1 cI (512) (fun _ => 0), ia q2 cI (512) (fun _ => 0), ia q3 cI (512) (fun _ => 0), ia q4 cI (512) (fun _ => 0)] H := hP
  have hD : va_D _ [(hN, .inr (2, [.ref hR, .ref hL, .null, .ref q1, .ref q2, .ref q3, .ref q4, .int (vI (0))])), ia q1 cI (512) (fun _ => 0), ia q2 cI (512) (fun _ => 0), ia q3 cI (512) (fun _ => 0), ia q4 cI (512) (fun _ => 0)] := hD
  refine lv_aload_n hx hb dX2_init_55 rfl (lv_at hl 0 rfl) ?_
  refine lv_aload_n hx hb dX2_init_56 rfl (lv_at hl 3 rfl) ?_
  refine va_putF (D := D) (ci := 2) (v := .ref hF) (ty := .object "MatchSeeker$Finder") (C := RX2) (T := TX2) (N := 8) hx hb hts iwX2 tyX2 tyX2_ok nmX2 hown hK hP hD hS 0 rfl rfl 2 (by decide) (hts _ aw_159) (fun _ h9 => h9) rfl hnm rfl (by decide +kernel) rfl rfl (Nat.le_of_ble_eq_true rfl) dX2_init_57 (fun H locs hP hD hS => ?_)
  have hP : va_P D vwCl [(hN, .inr (2, [.ref hR, .ref hL, .ref hF, .ref q1, .ref q2, .ref q3, .ref q4, .int (vI (0))])), ia q1 cI (512) (fun _ => 0), ia q2 cI (512) (fun _ => 0), ia q3 cI (512) (fun _ => 0), ia q4 cI (512) (fun _ => 0)] H := hP
  have hD : va_D _ [(hN, .inr (2, [.ref hR, .ref hL, .ref hF, .ref q1, .ref q2, .ref q3, .ref q4, .int (vI (0))])), ia q1 cI (512) (fun _ => 0), ia q2 cI (512) (fun _ => 0), ia q3 cI (512) (fun _ => 0), ia q4 cI (512) (fun _ => 0)] := hD
  refine W.widen (k := 4) (n := 2048) (by omega) (by omega) ?_
  exact zr_v hx hb hr hlocks ((q1, q2, q3, q4)) trivial hP hD hS dX2_init_60

set_option maxRecDepth 100000 in
set_option maxHeartbeats 4000000 in
theorem c_X2_makeRoom (l : Launch) (D : va_G) (cI cB : ClassId) (sz : Nat) (hN : Nat) (hR : Nat) (hL : Nat) (hF : Nat) (aC : Nat) (aN : Nat) (aO : Nat) (aX : Nat) (m0 : Nat) (NP : Nat) (t : Nat) (gc : Nat → Int) (gn : Nat → Int) (go : Nat → Int) (gx : Nat → Int) (h1 : t ≤ 8193 ∧ NP ≤ 32768) : Met l yX2_makeRoom wsX2_makeRoom ({ frames := 1, cells := zmcP NP t, slots := zmsP NP t, locals := 21 } : Room) (va_Pc [.ref hN, .int (vI ((t : Nat) : Int))] (zPre D vwCl [(cI, .int), (cB, .byte)] [(hN, .inr (2, [.ref hR, .ref hL, .ref hF, .ref aC, .ref aN, .ref aO, .ref aX, .int (vI ((m0 : Nat) : Int))])), ia aC cI (NP) (gc), ia aN cI (NP) (gn), ia aO cI (NP) (go), ia aX cI (NP) (gx)] sz)) (va_Qv (S := Nat × Nat × Nat × Nat × Nat × (Nat → Int) × (Nat → Int) × (Nat → Int) × (Nat → Int)) (fun u => match u with | (aC2, aN2, aO2, aX2, NP2, gc2, gn2, go2, gx2) => (NP2 = zNP NP t)) (fun (u : Nat × Nat × Nat × Nat × Nat × (Nat → Int) × (Nat → Int) × (Nat → Int) × (Nat → Int)) t => zB D vwCl (va_A [(hN, .inr (2, [.ref hR, .ref hL, .ref hF, .ref aC, .ref aN, .ref aO, .ref aX, .int (vI ((m0 : Nat) : Int))])), ia aC cI (NP) (gc), ia aN cI (NP) (gn), ia aO cI (NP) (go), ia aX cI (NP) (gx)] sz) ((fun u => match u with | (aC2, aN2, aO2, aX2, NP2, gc2, gn2, go2, gx2) => [(hN, .inr (2, [.ref hR, .ref hL, .ref hF, .ref aC2, .ref aN2, .ref aO2, .ref aX2, .int (vI ((m0 : Nat) : Int))])), ia aC2 cI (NP2) (gc2), ia aN2 cI (NP2) (gn2), ia aO2 cI (NP2) (go2), ia aX2 cI (NP2) (gx2)] : Nat × Nat × Nat × Nat × Nat × (Nat → Int) × (Nat → Int) × (Nat → Int) × (Nat → Int) → va_W) u) t) (va_A [(hN, .inr (2, [.ref hR, .ref hL, .ref hF, .ref aC, .ref aN, .ref aO, .ref aX, .int (vI ((m0 : Nat) : Int))])), ia aC cI (NP) (gc), ia aN cI (NP) (gn), ia aO cI (NP) (go), ia aX cI (NP) (gx)] sz)) (zmcP NP t) (zmsP NP t) (va_A [(hN, .inr (2, [.ref hR, .ref hL, .ref hF, .ref aC, .ref aN, .ref aO, .ref aX, .int (vI ((m0 : Nat) : Int))])), ia aC cI (NP) (gc), ia aN cI (NP) (gn), ia aO cI (NP) (go), ia aX cI (NP) (gx)] sz) := by
  refine zMet (by decide) rfl (Nat.le_of_ble_eq_true rfl) (fun p e s m below meth c hx hb hr hts hown hlocks hnm hml hK hns hA hP hD hS ls hl => ?_)
  have hl : lv_has ls 3 [(0, .ref hN), (1, .int (vI ((t : Nat) : Int)))] := hl
  have hRf : 1 ≤ ({ frames := 1, cells := zmcP NP t, slots := zmsP NP t, locals := 21 } : Room).frames := Nat.le_refl _
  have hRl : 21 ≤ ({ frames := 1, cells := zmcP NP t, slots := zmsP NP t, locals := 21 } : Room).locals := Nat.le_refl _
  have hRc : 0 ≤ ({ frames := 1, cells := zmcP NP t, slots := zmsP NP t, locals := 21 } : Room).cells := Nat.zero_le _
  have hRs : 0 ≤ ({ frames := 1, cells := zmcP NP t, slots := zmsP NP t, locals := 21 } : Room).slots := Nat.zero_le _
  refine lv_iload_n hx hb dX2_makeRoom_0 rfl (lv_at hl 1 rfl) ?_
  refine lv_aload_n hx hb dX2_makeRoom_1 rfl (lv_at hl 0 rfl) ?_
  refine va_get (D := D) (ci := 2) (v := .ref aC) (C := RX2) (T := TX2) (N := 8) hx hb hts iwX2 hown hK hP 0 rfl rfl 3 (by decide) (hts _ aw_160) (fun _ h9 => h9) rfl dX2_makeRoom_2 ?_
  refine zw_alen hx hb hK hP 1 0 rfl rfl dX2_makeRoom_5 ?_
  refine zw_icmp_le (tgt := 48) hx hb dX2_makeRoom_6 (by decide) ⟨by omega, by omega⟩ ⟨by omega, by omega⟩ (fun c_6 => ?_) (fun c_6 => ?_)
  · refine W.widen (k := zmcP NP t) (n := zmsP NP t) (Nat.zero_le _) (Nat.zero_le _) ?_
    exact zr_v hx hb hr hlocks ((aC, aN, aO, aX, NP, gc, gn, go, gx)) (by unfold zNP; rw [if_neg (by omega)]) hP hD hS dX2_makeRoom_48
  · refine lv_iload_n hx hb dX2_makeRoom_9 rfl (lv_at hl 1 rfl) ?_
    have hPc := hP.sub (ws' := []) [] rfl
    have hDc := hD.sub (ws' := []) [] (by decide) rfl
    refine zc_i (wr := [(hN, .inr (2, [.ref hR, .ref hL, .ref hF, .ref aC, .ref aN, .ref aO, .ref aX, .int (vI ((m0 : Nat) : Int))])), ia aC cI (NP) (gc), ia aN cI (NP) (gn), ia aO cI (NP) (go), ia aX cI (NP) (gx)]) (va_runSN (As := [.int (vI ((t : Nat) : Int))]) (rest := []) ⟨hx, hb, hml, hown, hts⟩ (c_X5_roomFor l D cI cB _ t (by omega)) ⟨va_cnB 1 hts (zg kX5_roomFor) rfl rfl rfl (hns _ nw_436) (hts _ aw_1) (by decide +kernel) ⟨Nat.le_trans (Nat.le_of_ble_eq_true rfl) hRf, Nat.le_trans (Nat.le_of_ble_eq_true rfl) hRl⟩, (hts _ aw_302), trivial⟩ ⟨zPre_blind, zPre_of hK hns hPc hDc⟩ rfl rfl hl.1 rfl (lv_room (Nat.le_of_ble_eq_true rfl)) dX2_makeRoom_10 ⟨hRc, hRs⟩) hP hD hS hA [] [0, 1, 2, 3, 4] rfl rfl (by decide) (by decide) (fun r _u H locs hpost hP hD hS => ?_)
    obtain rfl := hpost
    have hP : va_P D vwCl [(hN, .inr (2, [.ref hR, .ref hL, .ref hF, .ref aC, .ref aN, .ref aO, .ref aX, .int (vI ((m0 : Nat) : Int))])), ia aC cI (NP) (gc), ia aN cI (NP) (gn), ia aO cI (NP) (go), ia aX cI (NP) (gx)] H := hP
    have hD : va_D _ [(hN, .inr (2, [.ref hR, .ref hL, .ref hF, .ref aC, .ref aN, .ref aO, .ref aX, .int (vI ((m0 : Nat) : Int))])), ia aC cI (NP) (gc), ia aN cI (NP) (gn), ia aO cI (NP) (go), ia aX cI (NP) (gx)] := hD
    have hz4 : t ≤ zroom t ∧ zroom t ≤ 32768 := by unfold zroom; (repeat' split) <;> omega
    refine zw_sipush hx hb dX2_makeRoom_13 (by decide +kernel) ?_
    refine va_mmin hx hb (hml.trans hl.1.symm) hown (hts _ aw_437) (hts _ aw_316) (hts _ aw_9) (hts _ aw_317) (Nat.le_trans (Nat.le_of_ble_eq_true rfl) hRf) (Nat.le_trans (Nat.le_of_ble_eq_true rfl) hRl) hRc hRs dX2_makeRoom_16 ?_
    refine zw_as (vI_min ⟨by omega, by omega⟩ ⟨by omega, by omega⟩) ?_
    refine zw_to (z2 := ((min (zroom t) 8193 : Nat) : Int)) (by omega) ?_
    refine lv_istore_n (lv' := [(2, .int (vI ((min (zroom t) 8193 : Nat) : Int))), (0, .ref hN), (1, .int (vI ((t : Nat) : Int)))]) hx hb dX2_makeRoom_19 rfl hl (by decide) rfl (fun ls hl => ?_)
    have hm1 : zmcP NP t = 4 := if_pos (by omega)
    have hm2 : zmsP NP t = 4 * min (zroom t) 8193 := if_pos (by omega)
    refine lv_aload_n hx hb dX2_makeRoom_20 rfl (lv_at hl 1 rfl) ?_
    refine lv_iload_n hx hb dX2_makeRoom_21 rfl (lv_at hl 0 rfl) ?_
    refine zw_newi hx hb (hts _ aw_150) hK hP hD hS hA 0 rfl (min (zroom t) 8193) (by omega) (by omega) (by show 0 + 1 ≤ zmcP NP t; omega) (by show 0 + (min (zroom t) 8193) ≤ zmsP NP t; omega) dX2_makeRoom_22 (fun q1 H hP hD hS => ?_)
    have hP : va_P D vwCl [(hN, .inr (2, [.ref hR, .ref hL, .ref hF, .ref aC, .ref aN, .ref aO, .ref aX, .int (vI ((m0 : Nat) : Int))])), ia aC cI (NP) (gc), ia aN cI (NP) (gn), ia aO cI (NP) (go), ia aX cI (NP) (gx), ia q1 cI (min (zroom t) 8193) (fun _ => 0)] H := hP
    have hD : va_D _ [(hN, .inr (2, [.ref hR, .ref hL, .ref hF, .ref aC, .ref aN, .ref aO, .ref aX, .int (vI ((m0 : Nat) : Int))])), ia aC cI (NP) (gc), ia aN cI (NP) (gn), ia aO cI (NP) (go), ia aX cI (NP) (gx), ia q1 cI (min (zroom t) 8193) (fun _ => 0)] := hD
    have hRc : 0 + 1 ≤ ({ frames := 1, cells := zmcP NP t, slots := zmsP NP t, locals := 21 } : Room).cells := by show 0 + 1 ≤ zmcP NP t; omega
    have hRs : 0 + (min (zroom t) 8193) ≤ ({ frames := 1, cells := zmcP NP t, slots := zmsP NP t, locals := 21 } : Room).slots := by show 0 + (min (zroom t) 8193) ≤ zmsP NP t; omega
    refine va_put (D := D) (ci := 2) (v := .ref q1) (ty := .array .int) (C := RX2) (T := TX2) (N := 8) hx hb hts iwX2 tyX2 tyX2_ok nmX2 hown hK hP hD hS 0 rfl rfl 3 (by decide) (hts _ aw_160) (fun _ h9 => h9) rfl (by decide +kernel) rfl rfl (Nat.le_of_ble_eq_true rfl) dX2_makeRoom_24 (fun H locs hP hD hS => ?_)
    have hP : va_P D vwCl [(hN, .inr (2, [.ref hR, .ref hL, .ref hF, .ref q1, .ref aN, .ref aO, .ref aX, .int (vI ((m0 : Nat) : Int))])), ia aC cI (NP) (gc), ia aN cI (NP) (gn), ia aO cI (NP) (go), ia aX cI (NP) (gx), ia q1 cI (min (zroom t) 8193) (fun _ => 0)] H := hP
    have hD : va_D _ [(hN, .inr (2, [.ref hR, .ref hL, .ref hF, .ref q1, .ref aN, .ref aO, .ref aX, .int (vI ((m0 : Nat) : Int))])), ia aC cI (NP) (gc), ia aN cI (NP) (gn), ia aO cI (NP) (go), ia aX cI (NP) (gx), ia q1 cI (min (zroom t) 8193) (fun _ => 0)] := hD
    refine lv_aload_n hx hb dX2_makeRoom_27 rfl (lv_at hl 1 rfl) ?_
    refine lv_iload_n hx hb dX2_makeRoom_28 rfl (lv_at hl 0 rfl) ?_
    refine zw_newi hx hb (hts _ aw_150) hK hP hD hS hA 0 rfl (min (zroom t) 8193) (by omega) (by omega) (by show 0 + 1 + 1 ≤ zmcP NP t; omega) (by show 0 + (min (zroom t) 8193) + (min (zroom t) 8193) ≤ zmsP NP t; omega) dX2_makeRoom_29 (fun q2 H hP hD hS => ?_)
    have hP : va_P D vwCl [(hN, .inr (2, [.ref hR, .ref hL, .ref hF, .ref q1, .ref aN, .ref aO, .ref aX, .int (vI ((m0 : Nat) : Int))])), ia aC cI (NP) (gc), ia aN cI (NP) (gn), ia aO cI (NP) (go), ia aX cI (NP) (gx), ia q1 cI (min (zroom t) 8193) (fun _ => 0), ia q2 cI (min (zroom t) 8193) (fun _ => 0)] H := hP
    have hD : va_D _ [(hN, .inr (2, [.ref hR, .ref hL, .ref hF, .ref q1, .ref aN, .ref aO, .ref aX, .int (vI ((m0 : Nat) : Int))])), ia aC cI (NP) (gc), ia aN cI (NP) (gn), ia aO cI (NP) (go), ia aX cI (NP) (gx), ia q1 cI (min (zroom t) 8193) (fun _ => 0), ia q2 cI (min (zroom t) 8193) (fun _ => 0)] := hD
    have hRc : 0 + 1 + 1 ≤ ({ frames := 1, cells := zmcP NP t, slots := zmsP NP t, locals := 21 } : Room).cells := by show 0 + 1 + 1 ≤ zmcP NP t; omega
    have hRs : 0 + (min (zroom t) 8193) + (min (zroom t) 8193) ≤ ({ frames := 1, cells := zmcP NP t, slots := zmsP NP t, locals := 21 } : Room).slots := by show 0 + (min (zroom t) 8193) + (min (zroom t) 8193) ≤ zmsP NP t; omega
    refine va_put (D := D) (ci := 2) (v := .ref q2) (ty := .array .int) (C := RX2) (T := TX2) (N := 8) hx hb hts iwX2 tyX2 tyX2_ok nmX2 hown hK hP hD hS 0 rfl rfl 4 (by decide) (hts _ aw_161) (fun _ h9 => h9) rfl (by decide +kernel) rfl rfl (Nat.le_of_ble_eq_true rfl) dX2_makeRoom_31 (fun H locs hP hD hS => ?_)
    have hP : va_P D vwCl [(hN, .inr (2, [.ref hR, .ref hL, .ref hF, .ref q1, .ref q2, .ref aO, .ref aX, .int (vI ((m0 : Nat) : Int))])), ia aC cI (NP) (gc), ia aN cI (NP) (gn), ia aO cI (NP) (go), ia aX cI (NP) (gx), ia q1 cI (min (zroom t) 8193) (fun _ => 0), ia q2 cI (min (zroom t) 8193) (fun _ => 0)] H := hP
    have hD : va_D _ [(hN, .inr (2, [.ref hR, .ref hL, .ref hF, .ref q1, .ref q2, .ref aO, .ref aX, .int (vI ((m0 : Nat) : Int))])), ia aC cI (NP) (gc), ia aN cI (NP) (gn), ia aO cI (NP) (go), ia aX cI (NP) (gx), ia q1 cI (min (zroom t) 8193) (fun _ => 0), ia q2 cI (min (zroom t) 8193) (fun _ => 0)] := hD
    refine lv_aload_n hx hb dX2_makeRoom_34 rfl (lv_at hl 1 rfl) ?_
    refine lv_iload_n hx hb dX2_makeRoom_35 rfl (lv_at hl 0 rfl) ?_
    refine zw_newi hx hb (hts _ aw_150) hK hP hD hS hA 0 rfl (min (zroom t) 8193) (by omega) (by omega) (by show 0 + 1 + 1 + 1 ≤ zmcP NP t; omega) (by show 0 + (min (zroom t) 8193) + (min (zroom t) 8193) + (min (zroom t) 8193) ≤ zmsP NP t; omega) dX2_makeRoom_36 (fun q3 H hP hD hS => ?_)
    have hP : va_P D vwCl [(hN, .inr (2, [.ref hR, .ref hL, .ref hF, .ref q1, .ref q2, .ref aO, .ref aX, .int (vI ((m0 : Nat) : Int))])), ia aC cI (NP) (gc), ia aN cI (NP) (gn), ia aO cI (NP) (go), ia aX cI (NP) (gx), ia q1 cI (min (zroom t) 8193) (fun _ => 0), ia q2 cI (min (zroom t) 8193) (fun _ => 0), ia q3 cI (min (zroom t) 8193) (fun _ => 0)] H := hP
    have hD : va_D _ [(hN, .inr (2, [.ref hR, .ref hL, .ref hF, .ref q1, .ref q2, .ref aO, .ref aX, .int (vI ((m0 : Nat) : Int))])), ia aC cI (NP) (gc), ia aN cI (NP) (gn), ia aO cI (NP) (go), ia aX cI (NP) (gx), ia q1 cI (min (zroom t) 8193) (fun _ => 0), ia q2 cI (min (zroom t) 8193) (fun _ => 0), ia q3 cI (min (zroom t) 8193) (fun _ => 0)] := hD
    have hRc : 0 + 1 + 1 + 1 ≤ ({ frames := 1, cells := zmcP NP t, slots := zmsP NP t, locals := 21 } : Room).cells := by show 0 + 1 + 1 + 1 ≤ zmcP NP t; omega
    have hRs : 0 + (min (zroom t) 8193) + (min (zroom t) 8193) + (min (zroom t) 8193) ≤ ({ frames := 1, cells := zmcP NP t, slots := zmsP NP t, locals := 21 } : Room).slots := by show 0 + (min (zroom t) 8193) + (min (zroom t) 8193) + (min (zroom t) 8193) ≤ zmsP NP t; omega
    refine va_put (D := D) (ci := 2) (v := .ref q3) (ty := .array .int) (C := RX2) (T := TX2) (N := 8) hx hb hts iwX2 tyX2 tyX2_ok nmX2 hown hK hP hD hS 0 rfl rfl 5 (by decide) (hts _ aw_163) (fun _ h9 => h9) rfl (by decide +kernel) rfl rfl (Nat.le_of_ble_eq_true rfl) dX2_makeRoom_38 (fun H locs hP hD hS => ?_)
    have hP : va_P D vwCl [(hN, .inr (2, [.ref hR, .ref hL, .ref hF, .ref q1, .ref q2, .ref q3, .ref aX, .int (vI ((m0 : Nat) : Int))])), ia aC cI (NP) (gc), ia aN cI (NP) (gn), ia aO cI (NP) (go), ia aX cI (NP) (gx), ia q1 cI (min (zroom t) 8193) (fun _ => 0), ia q2 cI (min (zroom t) 8193) (fun _ => 0), ia q3 cI (min (zroom t) 8193) (fun _ => 0)] H := hP
    have hD : va_D _ [(hN, .inr (2, [.ref hR, .ref hL, .ref hF, .ref q1, .ref q2, .ref q3, .ref aX, .int (vI ((m0 : Nat) : Int))])), ia aC cI (NP) (gc), ia aN cI (NP) (gn), ia aO cI (NP) (go), ia aX cI (NP) (gx), ia q1 cI (min (zroom t) 8193) (fun _ => 0), ia q2 cI (min (zroom t) 8193) (fun _ => 0), ia q3 cI (min (zroom t) 8193) (fun _ => 0)] := hD
    refine lv_aload_n hx hb dX2_makeRoom_41 rfl (lv_at hl 1 rfl) ?_
    refine lv_iload_n hx hb dX2_makeRoom_42 rfl (lv_at hl 0 rfl) ?_
    refine zw_newi hx hb (hts _ aw_150) hK hP hD hS hA 0 rfl (min (zroom t) 8193) (by omega) (by omega) (by show 0 + 1 + 1 + 1 + 1 ≤ zmcP NP t; omega) (by show 0 + (min (zroom t) 8193) + (min (zroom t) 8193) + (min (zroom t) 8193) + (min (zroom t) 8193) ≤ zmsP NP t; omega) dX2_makeRoom_43 (fun q4 H hP hD hS => ?_)
    have hP : va_P D vwCl [(hN, .inr (2, [.ref hR, .ref hL, .ref hF, .ref q1, .ref q2, .ref q3, .ref aX, .int (vI ((m0 : Nat) : Int))])), ia aC cI (NP) (gc), ia aN cI (NP) (gn), ia aO cI (NP) (go), ia aX cI (NP) (gx), ia q1 cI (min (zroom t) 8193) (fun _ => 0), ia q2 cI (min (zroom t) 8193) (fun _ => 0), ia q3 cI (min (zroom t) 8193) (fun _ => 0), ia q4 cI (min (zroom t) 8193) (fun _ => 0)] H := hP
    have hD : va_D _ [(hN, .inr (2, [.ref hR, .ref hL, .ref hF, .ref q1, .ref q2, .ref q3, .ref aX, .int (vI ((m0 : Nat) : Int))])), ia aC cI (NP) (gc), ia aN cI (NP) (gn), ia aO cI (NP) (go), ia aX cI (NP) (gx), ia q1 cI (min (zroom t) 8193) (fun _ => 0), ia q2 cI (min (zroom t) 8193) (fun _ => 0), ia q3 cI (min (zroom t) 8193) (fun _ => 0), ia q4 cI (min (zroom t) 8193) (fun _ => 0)] := hD
    have hRc : 0 + 1 + 1 + 1 + 1 ≤ ({ frames := 1, cells := zmcP NP t, slots := zmsP NP t, locals := 21 } : Room).cells := by show 0 + 1 + 1 + 1 + 1 ≤ zmcP NP t; omega
    have hRs : 0 + (min (zroom t) 8193) + (min (zroom t) 8193) + (min (zroom t) 8193) + (min (zroom t) 8193) ≤ ({ frames := 1, cells := zmcP NP t, slots := zmsP NP t, locals := 21 } : Room).slots := by show 0 + (min (zroom t) 8193) + (min (zroom t) 8193) + (min (zroom t) 8193) + (min (zroom t) 8193) ≤ zmsP NP t; omega
    refine va_put (D := D) (ci := 2) (v := .ref q4) (ty := .array .int) (C := RX2) (T := TX2) (N := 8) hx hb hts iwX2 tyX2 tyX2_ok nmX2 hown hK hP hD hS 0 rfl rfl 6 (by decide) (hts _ aw_165) (fun _ h9 => h9) rfl (by decide +kernel) rfl rfl (Nat.le_of_ble_eq_true rfl) dX2_makeRoom_45 (fun H locs hP hD hS => ?_)
    have hP : va_P D vwCl [(hN, .inr (2, [.ref hR, .ref hL, .ref hF, .ref q1, .ref q2, .ref q3, .ref q4, .int (vI ((m0 : Nat) : Int))])), ia aC cI (NP) (gc), ia aN cI (NP) (gn), ia aO cI (NP) (go), ia aX cI (NP) (gx), ia q1 cI (min (zroom t) 8193) (fun _ => 0), ia q2 cI (min (zroom t) 8193) (fun _ => 0), ia q3 cI (min (zroom t) 8193) (fun _ => 0), ia q4 cI (min (zroom t) 8193) (fun _ => 0)] H := hP
    have hD : va_D _ [(hN, .inr (2, [.ref hR, .ref hL, .ref hF, .ref q1, .ref q2, .ref q3, .ref q4, .int (vI ((m0 : Nat) : Int))])), ia aC cI (NP) (gc), ia aN cI (NP) (gn), ia aO cI (NP) (go), ia aX cI (NP) (gx), ia q1 cI (min (zroom t) 8193) (fun _ => 0), ia q2 cI (min (zroom t) 8193) (fun _ => 0), ia q3 cI (min (zroom t) 8193) (fun _ => 0), ia q4 cI (min (zroom t) 8193) (fun _ => 0)] := hD
    have hP9 := hP.sub (ws' := [(hN, .inr (2, [.ref hR, .ref hL, .ref hF, .ref q1, .ref q2, .ref q3, .ref q4, .int (vI ((m0 : Nat) : Int))])), ia q1 cI ((min (zroom t) 8193)) ((fun _ => 0)), ia q2 cI ((min (zroom t) 8193)) ((fun _ => 0)), ia q3 cI ((min (zroom t) 8193)) ((fun _ => 0)), ia q4 cI ((min (zroom t) 8193)) ((fun _ => 0))]) [0, 5, 6, 7, 8] rfl
    have hD9 := hD.sub (ws' := [(hN, .inr (2, [.ref hR, .ref hL, .ref hF, .ref q1, .ref q2, .ref q3, .ref q4, .int (vI ((m0 : Nat) : Int))])), ia q1 cI ((min (zroom t) 8193)) ((fun _ => 0)), ia q2 cI ((min (zroom t) 8193)) ((fun _ => 0)), ia q3 cI ((min (zroom t) 8193)) ((fun _ => 0)), ia q4 cI ((min (zroom t) 8193)) ((fun _ => 0))]) [0, 5, 6, 7, 8] (by decide) rfl
    refine W.widen (k := zmcP NP t) (n := zmsP NP t) (by omega) (by omega) ?_
    exact zr_v hx hb hr hlocks ((q1, q2, q3, q4, (min (zroom t) 8193), (fun _ => 0), (fun _ => 0), (fun _ => 0), (fun _ => 0))) (by unfold zNP; rw [if_pos (by omega)]) hP9 hD9 hS dX2_makeRoom_48

set_option maxRecDepth 100000 in
set_option maxHeartbeats 4000000 in
theorem s_cheap {p : Program} {l : Launch} {e : Env} {R : Room} {s : State} {m : MethodId} {args : Array Value} {below : List Frame} {meth : Method} {c : Code} {Q : State → Prop} {A : Nat → Prop} {H0 : Heap} {D : va_G} {cI cB : ClassId} {cells slots : Nat} (hx : p.tables.exec = Jvm.exec) (hb : c.code = cX2_cheapestEnd) (hts : ∀ w ∈ zALL, w.before args s = true) (hown : s.vm.findClass RX2 = some m.cls) (hml : c.maxLocals = 5) (hK : va_K D vwCl [(cI, .int), (cB, .byte)] s) (hns : zNs s) (hA : ∀ q, H0.size ≤ q → A q) (hRf : 0 ≤ R.frames) (hRl : 0 ≤ R.locals) (hRc : cells ≤ R.cells) (hRs : slots ≤ R.slots) (hN : Nat) (hR : Nat) (hL : Nat) (hF : Nat) (aC : Nat) (aN : Nat) (aO : Nat) (aX : Nat) (m0 : Nat) (NP : Nat) (gx : Nat → Int) (C : Nat → Nat) (ex : Nat → Nat) (lo : Nat) (hi : Nat) (ff : Nat) (h1 : hi < NP ∧ NP ≤ 32768 ∧ ff ≤ hi ∧ lo ≤ ff) (hSt : zStk C ex m0 lo hi) (hX : ∀ a, a < m0 → gx a = ((ex a : Nat) : Int)) (hm : m0 ≤ NP)
    (K1 : ∀ (a : Nat) (H : Heap) (locs : List Loc) (ls : Array Slot), (a < m0) → (∀ k, k < a → ff < ex k) → (ex a ≤ ff) → va_P D vwCl [(hN, .inr (2, [.ref hR, .ref hL, .ref hF, .ref aC, .ref aN, .ref aO, .ref aX, .int (vI ((m0 : Nat) : Int))])), ia aX cI (NP) (gx)] H → va_D A [(hN, .inr (2, [.ref hR, .ref hL, .ref hF, .ref aC, .ref aN, .ref aO, .ref aX, .int (vI ((m0 : Nat) : Int))])), ia aX cI (NP) (gx)] → va_S A H0 H locs → lv_has ls 5 [(0, .ref hN), (2, .int (vI ((a : Nat) : Int)))] → W p l e R s m args below meth c H locs cells slots Q (F0 m 46 ls []))
    : ∀ (fuel : Nat), ∀ (a : Nat) (b : Nat) (_ : b - a < fuel) (H : Heap) (locs : List Loc) (ls : Array Slot), (a ≤ b ∧ b < m0) → (∀ k, k < a → ff < ex k) → (ex b ≤ ff) → va_P D vwCl [(hN, .inr (2, [.ref hR, .ref hL, .ref hF, .ref aC, .ref aN, .ref aO, .ref aX, .int (vI ((m0 : Nat) : Int))])), ia aX cI (NP) (gx)] H → va_D A [(hN, .inr (2, [.ref hR, .ref hL, .ref hF, .ref aC, .ref aN, .ref aO, .ref aX, .int (vI ((m0 : Nat) : Int))])), ia aX cI (NP) (gx)] → va_S A H0 H locs → lv_has ls 5 [(0, .ref hN), (1, .int (vI ((ff : Nat) : Int))), (2, .int (vI ((a : Nat) : Int))), (3, .int (vI ((b : Nat) : Int)))] → W p l e R s m args below meth c H locs cells slots Q (F0 m 9 ls []) := by
  intro fuel
  induction fuel with
  | zero =>
    intro a b hfuel
    exact absurd hfuel (Nat.not_lt_zero _)
  | succ fuel ih =>
    intro a b hfuel H locs ls hab hlo hhi hP hD hS hl
    refine lv_iload_n hx hb dX2_cheapestEnd_9 rfl (lv_at hl 2 rfl) ?_
    refine lv_iload_n hx hb dX2_cheapestEnd_10 rfl (lv_at hl 3 rfl) ?_
    refine zw_icmp_ge (tgt := 46) hx hb dX2_cheapestEnd_11 (by decide) ⟨by omega, by omega⟩ ⟨by omega, by omega⟩ (fun c_11 => ?_) (fun c_11 => ?_)
    · exact K1 a _ _ _ (by omega) (hlo) (by rw [show a = b by omega]; exact hhi) (hP.sub [0, 1] rfl) (hD.sub [0, 1] (by decide) rfl) hS (lv_sub hl [0, 2] rfl)
    · refine lv_iload_n hx hb dX2_cheapestEnd_14 rfl (lv_at hl 2 rfl) ?_
      refine lv_iload_n hx hb dX2_cheapestEnd_15 rfl (lv_at hl 3 rfl) ?_
      refine zw_iadd hx hb dX2_cheapestEnd_16 ?_
      refine zw_to (z2 := ((a + b : Nat) : Int)) (by omega) ?_
      refine zw_iconst hx hb dX2_cheapestEnd_17 ?_
      refine zw_idiv hx hb dX2_cheapestEnd_18 ⟨by omega, by omega⟩ ⟨by omega, by omega⟩ ?_
      refine zw_to (z2 := (((a + b) / 2 : Nat) : Int)) (by omega) ?_
      refine lv_istore (lv' := [(4, .int (vI (((a + b) / 2 : Nat) : Int))), (0, .ref hN), (1, .int (vI ((ff : Nat) : Int))), (2, .int (vI ((a : Nat) : Int))), (3, .int (vI ((b : Nat) : Int)))]) hx hb dX2_cheapestEnd_19 hl (by decide) rfl (fun ls hl => ?_)
      refine lv_aload_n hx hb dX2_cheapestEnd_21 rfl (lv_at hl 1 rfl) ?_
      refine va_get (D := D) (ci := 2) (v := .ref aX) (C := RX2) (T := TX2) (N := 8) hx hb hts iwX2 hown hK hP 0 rfl rfl 6 (by decide) (hts _ aw_165) (fun _ h9 => h9) rfl dX2_cheapestEnd_22 ?_
      refine lv_iload hx hb dX2_cheapestEnd_25 (lv_at hl 0 rfl) ?_
      refine zw_iald hx hb hK hP 1 0 rfl rfl ((a + b) / 2) (by omega) (by omega) (by omega) dX2_cheapestEnd_27 ?_
      refine zw_to (z2 := ((ex ((a + b) / 2) : Nat) : Int)) (hX ((a + b) / 2) (by omega)) ?_
      have hq1 := hSt.1 ((a + b) / 2) (by omega)
      refine lv_iload_n hx hb dX2_cheapestEnd_28 rfl (lv_at hl 2 rfl) ?_
      refine zw_icmp_gt (tgt := 38) hx hb dX2_cheapestEnd_29 (by decide) ⟨by omega, by omega⟩ ⟨by omega, by omega⟩ (fun c_29 => ?_) (fun c_29 => ?_)
      · refine lv_iload hx hb dX2_cheapestEnd_38 (lv_at hl 0 rfl) ?_
        refine zw_iconst hx hb dX2_cheapestEnd_40 ?_
        refine zw_iadd hx hb dX2_cheapestEnd_41 ?_
        refine zw_to (z2 := ((((a + b) / 2) + 1 : Nat) : Int)) (by omega) ?_
        refine lv_istore_n (lv' := [(2, .int (vI ((((a + b) / 2) + 1 : Nat) : Int))), (4, .int (vI (((a + b) / 2 : Nat) : Int))), (0, .ref hN), (1, .int (vI ((ff : Nat) : Int))), (3, .int (vI ((b : Nat) : Int)))]) hx hb dX2_cheapestEnd_42 rfl hl (by decide) rfl (fun ls hl => ?_)
        refine lv_goto (tgt := 9) hx hb dX2_cheapestEnd_43 (by decide) ?_
        exact ih (((a + b) / 2) + 1) b (by omega) _ _ _ (by omega) (zstk_lo hSt (by omega) (by omega)) (hhi) (hP.sub [0, 1] rfl) (hD.sub [0, 1] (by decide) rfl) hS (lv_sub hl [2, 3, 0, 4] rfl)
      · refine lv_iload hx hb dX2_cheapestEnd_32 (lv_at hl 0 rfl) ?_
        refine lv_istore_n (lv' := [(3, .int (vI (((a + b) / 2 : Nat) : Int))), (4, .int (vI (((a + b) / 2 : Nat) : Int))), (0, .ref hN), (1, .int (vI ((ff : Nat) : Int))), (2, .int (vI ((a : Nat) : Int)))]) hx hb dX2_cheapestEnd_34 rfl hl (by decide) rfl (fun ls hl => ?_)
        refine lv_goto (tgt := 43) hx hb dX2_cheapestEnd_35 (by decide) ?_
        refine lv_goto (tgt := 9) hx hb dX2_cheapestEnd_43 (by decide) ?_
        exact ih a ((a + b) / 2) (by omega) _ _ _ (by omega) (hlo) (by omega) (hP.sub [0, 1] rfl) (hD.sub [0, 1] (by decide) rfl) hS (lv_sub hl [2, 3, 4, 0] rfl)

set_option maxRecDepth 100000 in
set_option maxHeartbeats 4000000 in
theorem c_X2_cheapestEnd (l : Launch) (D : va_G) (cI cB : ClassId) (sz : Nat) (hN : Nat) (hR : Nat) (hL : Nat) (hF : Nat) (aC : Nat) (aN : Nat) (aO : Nat) (aX : Nat) (m0 : Nat) (NP : Nat) (gx : Nat → Int) (C : Nat → Nat) (ex : Nat → Nat) (lo : Nat) (hi : Nat) (ff : Nat) (h1 : hi < NP ∧ NP ≤ 32768 ∧ ff ≤ hi ∧ lo ≤ ff) (hSt : zStk C ex m0 lo hi) (hX : ∀ a, a < m0 → gx a = ((ex a : Nat) : Int)) : Met l yX2_cheapestEnd wsX2_cheapestEnd ({ frames := 0, cells := 0, slots := 0, locals := 0 } : Room) (va_Pc [.ref hN, .int (vI ((ff : Nat) : Int))] (zPre D vwCl [(cI, .int), (cB, .byte)] [(hN, .inr (2, [.ref hR, .ref hL, .ref hF, .ref aC, .ref aN, .ref aO, .ref aX, .int (vI ((m0 : Nat) : Int))])), ia aX cI (NP) (gx)] sz)) (va_Qi (S := Nat) (fun (r : Int32) => fun ee => (r = vI ((ee : Nat) : Int)) ∧ (zArg C lo ff ee)) (fun (u : Nat) t => zB D vwCl (va_A [(hN, .inr (2, [.ref hR, .ref hL, .ref hF, .ref aC, .ref aN, .ref aO, .ref aX, .int (vI ((m0 : Nat) : Int))])), ia aX cI (NP) (gx)] sz) ((fun ee => [(hN, .inr (2, [.ref hR, .ref hL, .ref hF, .ref aC, .ref aN, .ref aO, .ref aX, .int (vI ((m0 : Nat) : Int))])), ia aX cI (NP) (gx)] : Nat → va_W) u) t) (va_A [(hN, .inr (2, [.ref hR, .ref hL, .ref hF, .ref aC, .ref aN, .ref aO, .ref aX, .int (vI ((m0 : Nat) : Int))])), ia aX cI (NP) (gx)] sz)) (0) (0) (va_A [(hN, .inr (2, [.ref hR, .ref hL, .ref hF, .ref aC, .ref aN, .ref aO, .ref aX, .int (vI ((m0 : Nat) : Int))])), ia aX cI (NP) (gx)] sz) := by
  refine zMet (by decide) rfl (Nat.le_of_ble_eq_true rfl) (fun p e s m below meth c hx hb hr hts hown hlocks hnm hml hK hns hA hP hD hS ls hl => ?_)
  have hl : lv_has ls 5 [(0, .ref hN), (1, .int (vI ((ff : Nat) : Int)))] := hl
  have hRf : 0 ≤ ({ frames := 0, cells := 0, slots := 0, locals := 0 } : Room).frames := Nat.le_refl _
  have hRl : 0 ≤ ({ frames := 0, cells := 0, slots := 0, locals := 0 } : Room).locals := Nat.le_refl _
  have hRc : 0 ≤ ({ frames := 0, cells := 0, slots := 0, locals := 0 } : Room).cells := Nat.zero_le _
  have hRs : 0 ≤ ({ frames := 0, cells := 0, slots := 0, locals := 0 } : Room).slots := Nat.zero_le _
  obtain ⟨g1, g2⟩ := hSt.2.2.2.2 (by omega)
  have hcn := zstk_cnt hSt
  refine zw_iconst hx hb dX2_cheapestEnd_0 ?_
  refine lv_istore_n (lv' := [(2, .int (vI (0))), (0, .ref hN), (1, .int (vI ((ff : Nat) : Int)))]) hx hb dX2_cheapestEnd_1 rfl hl (by decide) rfl (fun ls hl => ?_)
  refine lv_aload_n hx hb dX2_cheapestEnd_2 rfl (lv_at hl 1 rfl) ?_
  refine va_get (D := D) (ci := 2) (v := .int (vI ((m0 : Nat) : Int))) (C := RX2) (T := TX2) (N := 8) hx hb hts iwX2 hown hK hP 0 rfl rfl 7 (by decide) (hts _ aw_166) (fun _ h9 => h9) rfl dX2_cheapestEnd_3 ?_
  refine zw_iconst hx hb dX2_cheapestEnd_6 ?_
  refine zw_isub hx hb dX2_cheapestEnd_7 ?_
  refine zw_to (z2 := ((m0 - 1 : Nat) : Int)) (by omega) ?_
  refine lv_istore_n (lv' := [(3, .int (vI ((m0 - 1 : Nat) : Int))), (2, .int (vI (0))), (0, .ref hN), (1, .int (vI ((ff : Nat) : Int)))]) hx hb dX2_cheapestEnd_8 rfl hl (by decide) rfl (fun ls hl => ?_)
  refine s_cheap hx hb hts hown hml hK hns hA (Nat.le_trans (Nat.le_of_ble_eq_true rfl) hRf) (Nat.le_trans (Nat.le_of_ble_eq_true rfl) hRl) hRc hRs hN hR hL hF aC aN aO aX m0 NP gx C ex lo hi ff (by omega) (hSt) (hX) (by omega) (fun a H locs ls hab hlo hhi hP hD hS hl => ?_) ((m0 - 1) - 0 + 1) 0 (m0 - 1) (Nat.lt_succ_self _) _ _ _ (by omega) (fun k hk => absurd hk (Nat.not_lt_zero k)) (by omega) (hP.sub [0, 1] rfl) (hD.sub [0, 1] (by decide) rfl) hS (lv_sub hl [2, 3, 1, 0] rfl)
  refine lv_aload_n hx hb dX2_cheapestEnd_46 rfl (lv_at hl 0 rfl) ?_
  refine va_get (D := D) (ci := 2) (v := .ref aX) (C := RX2) (T := TX2) (N := 8) hx hb hts iwX2 hown hK hP 0 rfl rfl 6 (by decide) (hts _ aw_165) (fun _ h9 => h9) rfl dX2_cheapestEnd_47 ?_
  refine lv_iload_n hx hb dX2_cheapestEnd_50 rfl (lv_at hl 1 rfl) ?_
  refine zw_iald hx hb hK hP 1 0 rfl rfl (a) (by omega) (by omega) (by omega) dX2_cheapestEnd_51 ?_
  refine zw_to (z2 := ((ex a : Nat) : Int)) (hX a (by omega)) ?_
  exact zr_i hx hb hr hlocks ((ex a)) ⟨rfl, zstk_arg hSt (by omega) hab hhi hlo⟩ hP hD hS dX2_cheapestEnd_52

set_option maxRecDepth 100000 in
set_option maxHeartbeats 4000000 in
theorem s_add {p : Program} {l : Launch} {e : Env} {R : Room} {s : State} {m : MethodId} {args : Array Value} {below : List Frame} {meth : Method} {c : Code} {Q : State → Prop} {A : Nat → Prop} {H0 : Heap} {D : va_G} {cI cB : ClassId} {cells slots : Nat} (hx : p.tables.exec = Jvm.exec) (hb : c.code = cX2_addEnd) (hts : ∀ w ∈ zALL, w.before args s = true) (hown : s.vm.findClass RX2 = some m.cls) (hml : c.maxLocals = 2) (hK : va_K D vwCl [(cI, .int), (cB, .byte)] s) (hns : zNs s) (hA : ∀ q, H0.size ≤ q → A q) (hRf : 0 ≤ R.frames) (hRl : 0 ≤ R.locals) (hRc : cells ≤ R.cells) (hRs : slots ≤ R.slots) (hN : Nat) (hR : Nat) (hL : Nat) (hF : Nat) (aC : Nat) (aN : Nat) (aO : Nat) (aX : Nat) (m0 : Nat) (NP : Nat) (gc : Nat → Int) (gx : Nat → Int) (C : Nat → Nat) (ex : Nat → Nat) (lo : Nat) (hi : Nat) (en : Nat) (h1 : hi < NP ∧ NP ≤ 32768 ∧ en + 1 = lo ∧ en ≤ hi) (hSt : zStk C ex m0 lo hi) (hX : ∀ a, a < m0 → gx a = ((ex a : Nat) : Int)) (hC : ∀ j, en ≤ j → j ≤ hi → gc j = ((C j : Nat) : Int)) (hCb : ∀ j, C j ≤ 100000000) (hcn : m0 ≤ hi + 1 - lo)
    (K1 : ∀ (mm : Nat) (H : Heap) (locs : List Loc) (ls : Array Slot), (mm ≤ m0) → (∀ a, mm ≤ a → a < m0 → C en < C (ex a)) → (mm = 0 ∨ C (ex (mm - 1)) ≤ C en) → va_P D vwCl [(hN, .inr (2, [.ref hR, .ref hL, .ref hF, .ref aC, .ref aN, .ref aO, .ref aX, .int (vI ((mm : Nat) : Int))])), ia aC cI (NP) (gc), ia aX cI (NP) (gx)] H → va_D A [(hN, .inr (2, [.ref hR, .ref hL, .ref hF, .ref aC, .ref aN, .ref aO, .ref aX, .int (vI ((mm : Nat) : Int))])), ia aC cI (NP) (gc), ia aX cI (NP) (gx)] → va_S A H0 H locs → lv_has ls 2 [(0, .ref hN), (1, .int (vI ((en : Nat) : Int)))] → W p l e R s m args below meth c H locs cells slots Q (F0 m 45 ls []))
    : ∀ (fuel : Nat), ∀ (mm : Nat) (_ : mm < fuel) (H : Heap) (locs : List Loc) (ls : Array Slot), (mm ≤ m0) → (∀ a, mm ≤ a → a < m0 → C en < C (ex a)) → va_P D vwCl [(hN, .inr (2, [.ref hR, .ref hL, .ref hF, .ref aC, .ref aN, .ref aO, .ref aX, .int (vI ((mm : Nat) : Int))])), ia aC cI (NP) (gc), ia aX cI (NP) (gx)] H → va_D A [(hN, .inr (2, [.ref hR, .ref hL, .ref hF, .ref aC, .ref aN, .ref aO, .ref aX, .int (vI ((mm : Nat) : Int))])), ia aC cI (NP) (gc), ia aX cI (NP) (gx)] → va_S A H0 H locs → lv_has ls 2 [(0, .ref hN), (1, .int (vI ((en : Nat) : Int)))] → W p l e R s m args below meth c H locs cells slots Q (F0 m 0 ls []) := by
  intro fuel
  induction fuel with
  | zero =>
    intro mm hfuel
    exact absurd hfuel (Nat.not_lt_zero _)
  | succ fuel ih =>
    intro mm hfuel H locs ls hm hm1 hP hD hS hl
    refine lv_aload_n hx hb dX2_addEnd_0 rfl (lv_at hl 0 rfl) ?_
    refine va_get (D := D) (ci := 2) (v := .int (vI ((mm : Nat) : Int))) (C := RX2) (T := TX2) (N := 8) hx hb hts iwX2 hown hK hP 0 rfl rfl 7 (by decide) (hts _ aw_166) (fun _ h9 => h9) rfl dX2_addEnd_1 ?_
    refine zw_if_le (tgt := 45) hx hb dX2_addEnd_4 (by decide) ⟨by omega, by omega⟩ (fun c_4 => ?_) (fun c_4 => ?_)
    · exact K1 mm _ _ _ (by omega) (hm1) (Or.inl (by omega)) (hP.sub [0, 1, 2] rfl) (hD.sub [0, 1, 2] (by decide) rfl) hS (lv_sub hl [0, 1] rfl)
    · refine lv_aload_n hx hb dX2_addEnd_7 rfl (lv_at hl 0 rfl) ?_
      refine va_get (D := D) (ci := 2) (v := .ref aC) (C := RX2) (T := TX2) (N := 8) hx hb hts iwX2 hown hK hP 0 rfl rfl 3 (by decide) (hts _ aw_160) (fun _ h9 => h9) rfl dX2_addEnd_8 ?_
      refine lv_aload_n hx hb dX2_addEnd_11 rfl (lv_at hl 0 rfl) ?_
      refine va_get (D := D) (ci := 2) (v := .ref aX) (C := RX2) (T := TX2) (N := 8) hx hb hts iwX2 hown hK hP 0 rfl rfl 6 (by decide) (hts _ aw_165) (fun _ h9 => h9) rfl dX2_addEnd_12 ?_
      refine lv_aload_n hx hb dX2_addEnd_15 rfl (lv_at hl 0 rfl) ?_
      refine va_get (D := D) (ci := 2) (v := .int (vI ((mm : Nat) : Int))) (C := RX2) (T := TX2) (N := 8) hx hb hts iwX2 hown hK hP 0 rfl rfl 7 (by decide) (hts _ aw_166) (fun _ h9 => h9) rfl dX2_addEnd_16 ?_
      refine zw_iconst hx hb dX2_addEnd_19 ?_
      refine zw_isub hx hb dX2_addEnd_20 ?_
      refine zw_to (z2 := ((mm - 1 : Nat) : Int)) (by omega) ?_
      refine zw_iald hx hb hK hP 2 0 rfl rfl (mm - 1) (by omega) (by omega) (by omega) dX2_addEnd_21 ?_
      refine zw_to (z2 := ((ex (mm - 1) : Nat) : Int)) (hX (mm - 1) (by omega)) ?_
      have hq1 := hSt.1 (mm - 1) (by omega)
      refine zw_iald hx hb hK hP 1 0 rfl rfl (ex (mm - 1)) (by omega) (by omega) (by omega) dX2_addEnd_22 ?_
      refine zw_to (z2 := ((C (ex (mm - 1)) : Nat) : Int)) (hC _ (by omega) (by omega)) ?_
      have hq2 := hCb (ex (mm - 1))
      have hq3 := hCb en
      refine lv_aload_n hx hb dX2_addEnd_23 rfl (lv_at hl 0 rfl) ?_
      refine va_get (D := D) (ci := 2) (v := .ref aC) (C := RX2) (T := TX2) (N := 8) hx hb hts iwX2 hown hK hP 0 rfl rfl 3 (by decide) (hts _ aw_160) (fun _ h9 => h9) rfl dX2_addEnd_24 ?_
      refine lv_iload_n hx hb dX2_addEnd_27 rfl (lv_at hl 1 rfl) ?_
      refine zw_iald hx hb hK hP 1 0 rfl rfl (en) (by omega) (by omega) (by omega) dX2_addEnd_28 ?_
      refine zw_to (z2 := ((C en : Nat) : Int)) (hC _ (by omega) (by omega)) ?_
      refine zw_icmp_le (tgt := 45) hx hb dX2_addEnd_29 (by decide) ⟨by omega, by omega⟩ ⟨by omega, by omega⟩ (fun c_29 => ?_) (fun c_29 => ?_)
      · exact K1 mm _ _ _ (by omega) (hm1) (Or.inr (by omega)) (hP.sub [0, 1, 2] rfl) (hD.sub [0, 1, 2] (by decide) rfl) hS (lv_sub hl [0, 1] rfl)
      · refine lv_aload_n hx hb dX2_addEnd_32 rfl (lv_at hl 0 rfl) ?_
        refine lv_dup hx hb dX2_addEnd_33 rfl ?_
        refine va_get (D := D) (ci := 2) (v := .int (vI ((mm : Nat) : Int))) (C := RX2) (T := TX2) (N := 8) hx hb hts iwX2 hown hK hP 0 rfl rfl 7 (by decide) (hts _ aw_166) (fun _ h9 => h9) rfl dX2_addEnd_34 ?_
        refine zw_iconst hx hb dX2_addEnd_37 ?_
        refine zw_isub hx hb dX2_addEnd_38 ?_
        refine zw_to (z2 := ((mm - 1 : Nat) : Int)) (by omega) ?_
        refine va_put (D := D) (ci := 2) (v := .int (vI ((mm - 1 : Nat) : Int))) (ty := .int) (C := RX2) (T := TX2) (N := 8) hx hb hts iwX2 tyX2 tyX2_ok nmX2 hown hK hP hD hS 0 rfl rfl 7 (by decide) (hts _ aw_166) (fun _ h9 => h9) rfl (by decide +kernel) rfl rfl (Nat.le_of_ble_eq_true rfl) dX2_addEnd_39 (fun H locs hP hD hS => ?_)
        have hP : va_P D vwCl [(hN, .inr (2, [.ref hR, .ref hL, .ref hF, .ref aC, .ref aN, .ref aO, .ref aX, .int (vI ((mm - 1 : Nat) : Int))])), ia aC cI (NP) (gc), ia aX cI (NP) (gx)] H := hP
        have hD : va_D _ [(hN, .inr (2, [.ref hR, .ref hL, .ref hF, .ref aC, .ref aN, .ref aO, .ref aX, .int (vI ((mm - 1 : Nat) : Int))])), ia aC cI (NP) (gc), ia aX cI (NP) (gx)] := hD
        refine lv_goto (tgt := 0) hx hb dX2_addEnd_42 (by decide) ?_
        exact ih (mm - 1) (by omega) _ _ _ (by omega) (zlt_pre hm1 (by omega)) (hP.sub [0, 1, 2] rfl) (hD.sub [0, 1, 2] (by decide) rfl) hS (lv_sub hl [0, 1] rfl)

set_option maxRecDepth 100000 in
set_option maxHeartbeats 4000000 in
theorem c_X2_addEnd (l : Launch) (D : va_G) (cI cB : ClassId) (sz : Nat) (hN : Nat) (hR : Nat) (hL : Nat) (hF : Nat) (aC : Nat) (aN : Nat) (aO : Nat) (aX : Nat) (m0 : Nat) (NP : Nat) (gc : Nat → Int) (gx : Nat → Int) (C : Nat → Nat) (ex : Nat → Nat) (lo : Nat) (hi : Nat) (en : Nat) (h1 : hi < NP ∧ NP ≤ 32768 ∧ en + 1 = lo ∧ en ≤ hi) (hSt : zStk C ex m0 lo hi) (hX : ∀ a, a < m0 → gx a = ((ex a : Nat) : Int)) (hC : ∀ j, en ≤ j → j ≤ hi → gc j = ((C j : Nat) : Int)) (hCb : ∀ j, C j ≤ 100000000) : Met l yX2_addEnd wsX2_addEnd ({ frames := 0, cells := 0, slots := 0, locals := 0 } : Room) (va_Pc [.ref hN, .int (vI ((en : Nat) : Int))] (zPre D vwCl [(cI, .int), (cB, .byte)] [(hN, .inr (2, [.ref hR, .ref hL, .ref hF, .ref aC, .ref aN, .ref aO, .ref aX, .int (vI ((m0 : Nat) : Int))])), ia aC cI (NP) (gc), ia aX cI (NP) (gx)] sz)) (va_Qv (S := Nat × (Nat → Int) × (Nat → Nat)) (fun u => match u with | (m2, gx2, ex2) => (zStk C ex2 m2 en hi) ∧ (∀ a, a < m2 → gx2 a = ((ex2 a : Nat) : Int))) (fun (u : Nat × (Nat → Int) × (Nat → Nat)) t => zB D vwCl (va_A [(hN, .inr (2, [.ref hR, .ref hL, .ref hF, .ref aC, .ref aN, .ref aO, .ref aX, .int (vI ((m0 : Nat) : Int))])), ia aC cI (NP) (gc), ia aX cI (NP) (gx)] sz) ((fun u => match u with | (m2, gx2, ex2) => [(hN, .inr (2, [.ref hR, .ref hL, .ref hF, .ref aC, .ref aN, .ref aO, .ref aX, .int (vI ((m2 : Nat) : Int))])), ia aC cI (NP) (gc), ia aX cI (NP) (gx2)] : Nat × (Nat → Int) × (Nat → Nat) → va_W) u) t) (va_A [(hN, .inr (2, [.ref hR, .ref hL, .ref hF, .ref aC, .ref aN, .ref aO, .ref aX, .int (vI ((m0 : Nat) : Int))])), ia aC cI (NP) (gc), ia aX cI (NP) (gx)] sz)) (0) (0) (va_A [(hN, .inr (2, [.ref hR, .ref hL, .ref hF, .ref aC, .ref aN, .ref aO, .ref aX, .int (vI ((m0 : Nat) : Int))])), ia aC cI (NP) (gc), ia aX cI (NP) (gx)] sz) := by
  refine zMet (by decide) rfl (Nat.le_of_ble_eq_true rfl) (fun p e s m below meth c hx hb hr hts hown hlocks hnm hml hK hns hA hP hD hS ls hl => ?_)
  have hl : lv_has ls 2 [(0, .ref hN), (1, .int (vI ((en : Nat) : Int)))] := hl
  have hRf : 0 ≤ ({ frames := 0, cells := 0, slots := 0, locals := 0 } : Room).frames := Nat.le_refl _
  have hRl : 0 ≤ ({ frames := 0, cells := 0, slots := 0, locals := 0 } : Room).locals := Nat.le_refl _
  have hRc : 0 ≤ ({ frames := 0, cells := 0, slots := 0, locals := 0 } : Room).cells := Nat.zero_le _
  have hRs : 0 ≤ ({ frames := 0, cells := 0, slots := 0, locals := 0 } : Room).slots := Nat.zero_le _
  have hcn := zstk_cnt hSt
  refine s_add hx hb hts hown hml hK hns hA (Nat.le_trans (Nat.le_of_ble_eq_true rfl) hRf) (Nat.le_trans (Nat.le_of_ble_eq_true rfl) hRl) hRc hRs hN hR hL hF aC aN aO aX m0 NP gc gx C ex lo hi en (by omega) (hSt) (hX) (hC) (hCb) (by omega) (fun mm H locs ls hm hm1 hm2 hP hD hS hl => ?_) (m0 + 1) m0 (Nat.lt_succ_self _) _ _ _ (by omega) (fun a a1 a2 => by omega) (hP.sub [0, 1, 2] rfl) (hD.sub [0, 1, 2] (by decide) rfl) hS (lv_sub hl [0, 1] rfl)
  refine lv_aload_n hx hb dX2_addEnd_45 rfl (lv_at hl 0 rfl) ?_
  refine va_get (D := D) (ci := 2) (v := .ref aX) (C := RX2) (T := TX2) (N := 8) hx hb hts iwX2 hown hK hP 0 rfl rfl 6 (by decide) (hts _ aw_165) (fun _ h9 => h9) rfl dX2_addEnd_46 ?_
  refine lv_aload_n hx hb dX2_addEnd_49 rfl (lv_at hl 0 rfl) ?_
  refine va_get (D := D) (ci := 2) (v := .int (vI ((mm : Nat) : Int))) (C := RX2) (T := TX2) (N := 8) hx hb hts iwX2 hown hK hP 0 rfl rfl 7 (by decide) (hts _ aw_166) (fun _ h9 => h9) rfl dX2_addEnd_50 ?_
  refine lv_iload_n hx hb dX2_addEnd_53 rfl (lv_at hl 1 rfl) ?_
  refine zw_iast hx hb hK hP hD hS 2 0 rfl rfl (mm) (by omega) (by omega) (by omega) dX2_addEnd_54 (fun H locs hP hD hS => ?_)
  have hP : va_P D vwCl [(hN, .inr (2, [.ref hR, .ref hL, .ref hF, .ref aC, .ref aN, .ref aO, .ref aX, .int (vI ((mm : Nat) : Int))])), ia aC cI (NP) (gc), ia aX cI (NP) (zU gx mm ((en : Nat) : Int))] H := hP
  have hD : va_D _ [(hN, .inr (2, [.ref hR, .ref hL, .ref hF, .ref aC, .ref aN, .ref aO, .ref aX, .int (vI ((mm : Nat) : Int))])), ia aC cI (NP) (gc), ia aX cI (NP) (zU gx mm ((en : Nat) : Int))] := hD
  refine lv_aload_n hx hb dX2_addEnd_55 rfl (lv_at hl 0 rfl) ?_
  refine lv_dup hx hb dX2_addEnd_56 rfl ?_
  refine va_get (D := D) (ci := 2) (v := .int (vI ((mm : Nat) : Int))) (C := RX2) (T := TX2) (N := 8) hx hb hts iwX2 hown hK hP 0 rfl rfl 7 (by decide) (hts _ aw_166) (fun _ h9 => h9) rfl dX2_addEnd_57 ?_
  refine zw_iconst hx hb dX2_addEnd_60 ?_
  refine zw_iadd hx hb dX2_addEnd_61 ?_
  refine zw_to (z2 := ((mm + 1 : Nat) : Int)) (by omega) ?_
  refine va_put (D := D) (ci := 2) (v := .int (vI ((mm + 1 : Nat) : Int))) (ty := .int) (C := RX2) (T := TX2) (N := 8) hx hb hts iwX2 tyX2 tyX2_ok nmX2 hown hK hP hD hS 0 rfl rfl 7 (by decide) (hts _ aw_166) (fun _ h9 => h9) rfl (by decide +kernel) rfl rfl (Nat.le_of_ble_eq_true rfl) dX2_addEnd_62 (fun H locs hP hD hS => ?_)
  have hP : va_P D vwCl [(hN, .inr (2, [.ref hR, .ref hL, .ref hF, .ref aC, .ref aN, .ref aO, .ref aX, .int (vI ((mm + 1 : Nat) : Int))])), ia aC cI (NP) (gc), ia aX cI (NP) (zU gx mm ((en : Nat) : Int))] H := hP
  have hD : va_D _ [(hN, .inr (2, [.ref hR, .ref hL, .ref hF, .ref aC, .ref aN, .ref aO, .ref aX, .int (vI ((mm + 1 : Nat) : Int))])), ia aC cI (NP) (gc), ia aX cI (NP) (zU gx mm ((en : Nat) : Int))] := hD
  exact zr_v hx hb hr hlocks (((mm + 1), (zU gx mm ((en : Nat) : Int)), (zUn ex mm en))) ⟨zstk_push hSt (by omega) (by omega) hm hm1 hm2, fun a ha => zU_un (fun q => hX a (by omega)) ha⟩ hP hD hS dX2_addEnd_65

set_option maxRecDepth 100000 in
set_option maxHeartbeats 4000000 in
theorem c_X2_takeLiteral (l : Launch) (D : va_G) (cI cB : ClassId) (sz : Nat) (hN : Nat) (hR : Nat) (hL : Nat) (hF : Nat) (aC : Nat) (aN : Nat) (aO : Nat) (aX : Nat) (m0 : Nat) (NP : Nat) (way : Nat) (win : Nat) (least : Nat) (cap : Nat) (ga : Nat) (gb : Nat) (lp : Nat) (mp : Nat) (gc : Nat → Int) (gn : Nat → Int) (go : Nat → Int) (i : Nat) (cv : Nat) (h1 : i + 1 < NP ∧ NP ≤ 32768) (hcv : gc (i + 1) = ((cv : Nat) : Int)) : Met l yX2_takeLiteral wsX2_takeLiteral ({ frames := 0, cells := 0, slots := 0, locals := 0 } : Room) (va_Pc [.ref hN, .int (vI ((i : Nat) : Int))] (zPre D vwCl [(cI, .int), (cB, .byte)] [(hN, .inr (2, [.ref hR, .ref hL, .ref hF, .ref aC, .ref aN, .ref aO, .ref aX, .int (vI ((m0 : Nat) : Int))])), (hL, .inr (4, [.int (vI ((way : Nat) : Int)), .int (vI ((win : Nat) : Int)), .int (vI ((least : Nat) : Int)), .int (vI ((cap : Nat) : Int)), .int (vI ((ga : Nat) : Int)), .int (vI ((gb : Nat) : Int)), .int (vI ((lp : Nat) : Int)), .int (vI ((mp : Nat) : Int))])), ia aC cI (NP) (gc), ia aN cI (NP) (gn), ia aO cI (NP) (go)] sz)) (va_Qv (S := Unit) (fun _ => True) (fun (u : Unit) t => zB D vwCl (va_A [(hN, .inr (2, [.ref hR, .ref hL, .ref hF, .ref aC, .ref aN, .ref aO, .ref aX, .int (vI ((m0 : Nat) : Int))])), (hL, .inr (4, [.int (vI ((way : Nat) : Int)), .int (vI ((win : Nat) : Int)), .int (vI ((least : Nat) : Int)), .int (vI ((cap : Nat) : Int)), .int (vI ((ga : Nat) : Int)), .int (vI ((gb : Nat) : Int)), .int (vI ((lp : Nat) : Int)), .int (vI ((mp : Nat) : Int))])), ia aC cI (NP) (gc), ia aN cI (NP) (gn), ia aO cI (NP) (go)] sz) ((fun _ => [(hN, .inr (2, [.ref hR, .ref hL, .ref hF, .ref aC, .ref aN, .ref aO, .ref aX, .int (vI ((m0 : Nat) : Int))])), (hL, .inr (4, [.int (vI ((way : Nat) : Int)), .int (vI ((win : Nat) : Int)), .int (vI ((least : Nat) : Int)), .int (vI ((cap : Nat) : Int)), .int (vI ((ga : Nat) : Int)), .int (vI ((gb : Nat) : Int)), .int (vI ((lp : Nat) : Int)), .int (vI ((mp : Nat) : Int))])), ia aC cI (NP) (zU gc i ((lp + cv : Nat) : Int)), ia aN cI (NP) (zU gn i 0), ia aO cI (NP) (zU go i 0)] : Unit → va_W) u) t) (va_A [(hN, .inr (2, [.ref hR, .ref hL, .ref hF, .ref aC, .ref aN, .ref aO, .ref aX, .int (vI ((m0 : Nat) : Int))])), (hL, .inr (4, [.int (vI ((way : Nat) : Int)), .int (vI ((win : Nat) : Int)), .int (vI ((least : Nat) : Int)), .int (vI ((cap : Nat) : Int)), .int (vI ((ga : Nat) : Int)), .int (vI ((gb : Nat) : Int)), .int (vI ((lp : Nat) : Int)), .int (vI ((mp : Nat) : Int))])), ia aC cI (NP) (gc), ia aN cI (NP) (gn), ia aO cI (NP) (go)] sz)) (0) (0) (va_A [(hN, .inr (2, [.ref hR, .ref hL, .ref hF, .ref aC, .ref aN, .ref aO, .ref aX, .int (vI ((m0 : Nat) : Int))])), (hL, .inr (4, [.int (vI ((way : Nat) : Int)), .int (vI ((win : Nat) : Int)), .int (vI ((least : Nat) : Int)), .int (vI ((cap : Nat) : Int)), .int (vI ((ga : Nat) : Int)), .int (vI ((gb : Nat) : Int)), .int (vI ((lp : Nat) : Int)), .int (vI ((mp : Nat) : Int))])), ia aC cI (NP) (gc), ia aN cI (NP) (gn), ia aO cI (NP) (go)] sz) := by
  refine zMet (by decide) rfl (Nat.le_of_ble_eq_true rfl) (fun p e s m below meth c hx hb hr hts hown hlocks hnm hml hK hns hA hP hD hS ls hl => ?_)
  have hl : lv_has ls 2 [(0, .ref hN), (1, .int (vI ((i : Nat) : Int)))] := hl
  have hRf : 0 ≤ ({ frames := 0, cells := 0, slots := 0, locals := 0 } : Room).frames := Nat.le_refl _
  have hRl : 0 ≤ ({ frames := 0, cells := 0, slots := 0, locals := 0 } : Room).locals := Nat.le_refl _
  have hRc : 0 ≤ ({ frames := 0, cells := 0, slots := 0, locals := 0 } : Room).cells := Nat.zero_le _
  have hRs : 0 ≤ ({ frames := 0, cells := 0, slots := 0, locals := 0 } : Room).slots := Nat.zero_le _
  refine lv_aload_n hx hb dX2_takeLiteral_0 rfl (lv_at hl 0 rfl) ?_
  refine va_get (D := D) (ci := 2) (v := .ref aC) (C := RX2) (T := TX2) (N := 8) hx hb hts iwX2 hown hK hP 0 rfl rfl 3 (by decide) (hts _ aw_160) (fun _ h9 => h9) rfl dX2_takeLiteral_1 ?_
  refine lv_iload_n hx hb dX2_takeLiteral_4 rfl (lv_at hl 1 rfl) ?_
  refine lv_aload_n hx hb dX2_takeLiteral_5 rfl (lv_at hl 0 rfl) ?_
  refine va_get (D := D) (ci := 2) (v := .ref hL) (C := RX2) (T := TX2) (N := 8) hx hb hts iwX2 hown hK hP 0 rfl rfl 1 (by decide) (hts _ aw_158) (fun _ h9 => h9) rfl dX2_takeLiteral_6 ?_
  refine va_getN (D := D) (ci := 4) (v := .int (vI ((lp : Nat) : Int))) (C := RX4) (T := TX4) (N := 8) hx hb hts iwX4 hown hK hP 1 rfl rfl 6 (by decide) (va_Nw.use rfl (hns _ nw_70)) (fun _ h9 => h9) rfl dX2_takeLiteral_9 ?_
  refine lv_aload_n hx hb dX2_takeLiteral_12 rfl (lv_at hl 0 rfl) ?_
  refine va_get (D := D) (ci := 2) (v := .ref aC) (C := RX2) (T := TX2) (N := 8) hx hb hts iwX2 hown hK hP 0 rfl rfl 3 (by decide) (hts _ aw_160) (fun _ h9 => h9) rfl dX2_takeLiteral_13 ?_
  refine lv_iload_n hx hb dX2_takeLiteral_16 rfl (lv_at hl 1 rfl) ?_
  refine zw_iconst hx hb dX2_takeLiteral_17 ?_
  refine zw_iadd hx hb dX2_takeLiteral_18 ?_
  refine zw_to (z2 := ((i + 1 : Nat) : Int)) (by omega) ?_
  refine zw_iald hx hb hK hP 2 0 rfl rfl (i + 1) (by omega) (by omega) (by omega) dX2_takeLiteral_19 ?_
  refine zw_to (z2 := ((cv : Nat) : Int)) (hcv) ?_
  refine zw_iadd hx hb dX2_takeLiteral_20 ?_
  refine zw_to (z2 := ((lp + cv : Nat) : Int)) (by omega) ?_
  refine zw_iast hx hb hK hP hD hS 2 0 rfl rfl (i) (by omega) (by omega) (by omega) dX2_takeLiteral_21 (fun H locs hP hD hS => ?_)
  have hP : va_P D vwCl [(hN, .inr (2, [.ref hR, .ref hL, .ref hF, .ref aC, .ref aN, .ref aO, .ref aX, .int (vI ((m0 : Nat) : Int))])), (hL, .inr (4, [.int (vI ((way : Nat) : Int)), .int (vI ((win : Nat) : Int)), .int (vI ((least : Nat) : Int)), .int (vI ((cap : Nat) : Int)), .int (vI ((ga : Nat) : Int)), .int (vI ((gb : Nat) : Int)), .int (vI ((lp : Nat) : Int)), .int (vI ((mp : Nat) : Int))])), ia aC cI (NP) (zU gc i ((lp + cv : Nat) : Int)), ia aN cI (NP) (gn), ia aO cI (NP) (go)] H := hP
  have hD : va_D _ [(hN, .inr (2, [.ref hR, .ref hL, .ref hF, .ref aC, .ref aN, .ref aO, .ref aX, .int (vI ((m0 : Nat) : Int))])), (hL, .inr (4, [.int (vI ((way : Nat) : Int)), .int (vI ((win : Nat) : Int)), .int (vI ((least : Nat) : Int)), .int (vI ((cap : Nat) : Int)), .int (vI ((ga : Nat) : Int)), .int (vI ((gb : Nat) : Int)), .int (vI ((lp : Nat) : Int)), .int (vI ((mp : Nat) : Int))])), ia aC cI (NP) (zU gc i ((lp + cv : Nat) : Int)), ia aN cI (NP) (gn), ia aO cI (NP) (go)] := hD
  refine lv_aload_n hx hb dX2_takeLiteral_22 rfl (lv_at hl 0 rfl) ?_
  refine va_get (D := D) (ci := 2) (v := .ref aN) (C := RX2) (T := TX2) (N := 8) hx hb hts iwX2 hown hK hP 0 rfl rfl 4 (by decide) (hts _ aw_161) (fun _ h9 => h9) rfl dX2_takeLiteral_23 ?_
  refine lv_iload_n hx hb dX2_takeLiteral_26 rfl (lv_at hl 1 rfl) ?_
  refine zw_iconst hx hb dX2_takeLiteral_27 ?_
  refine zw_iast hx hb hK hP hD hS 3 0 rfl rfl (i) (by omega) (by omega) (by omega) dX2_takeLiteral_28 (fun H locs hP hD hS => ?_)
  have hP : va_P D vwCl [(hN, .inr (2, [.ref hR, .ref hL, .ref hF, .ref aC, .ref aN, .ref aO, .ref aX, .int (vI ((m0 : Nat) : Int))])), (hL, .inr (4, [.int (vI ((way : Nat) : Int)), .int (vI ((win : Nat) : Int)), .int (vI ((least : Nat) : Int)), .int (vI ((cap : Nat) : Int)), .int (vI ((ga : Nat) : Int)), .int (vI ((gb : Nat) : Int)), .int (vI ((lp : Nat) : Int)), .int (vI ((mp : Nat) : Int))])), ia aC cI (NP) (zU gc i ((lp + cv : Nat) : Int)), ia aN cI (NP) (zU gn i 0), ia aO cI (NP) (go)] H := hP
  have hD : va_D _ [(hN, .inr (2, [.ref hR, .ref hL, .ref hF, .ref aC, .ref aN, .ref aO, .ref aX, .int (vI ((m0 : Nat) : Int))])), (hL, .inr (4, [.int (vI ((way : Nat) : Int)), .int (vI ((win : Nat) : Int)), .int (vI ((least : Nat) : Int)), .int (vI ((cap : Nat) : Int)), .int (vI ((ga : Nat) : Int)), .int (vI ((gb : Nat) : Int)), .int (vI ((lp : Nat) : Int)), .int (vI ((mp : Nat) : Int))])), ia aC cI (NP) (zU gc i ((lp + cv : Nat) : Int)), ia aN cI (NP) (zU gn i 0), ia aO cI (NP) (go)] := hD
  refine lv_aload_n hx hb dX2_takeLiteral_29 rfl (lv_at hl 0 rfl) ?_
  refine va_get (D := D) (ci := 2) (v := .ref aO) (C := RX2) (T := TX2) (N := 8) hx hb hts iwX2 hown hK hP 0 rfl rfl 5 (by decide) (hts _ aw_163) (fun _ h9 => h9) rfl dX2_takeLiteral_30 ?_
  refine lv_iload_n hx hb dX2_takeLiteral_33 rfl (lv_at hl 1 rfl) ?_
  refine zw_iconst hx hb dX2_takeLiteral_34 ?_
  refine zw_iast hx hb hK hP hD hS 4 0 rfl rfl (i) (by omega) (by omega) (by omega) dX2_takeLiteral_35 (fun H locs hP hD hS => ?_)
  have hP : va_P D vwCl [(hN, .inr (2, [.ref hR, .ref hL, .ref hF, .ref aC, .ref aN, .ref aO, .ref aX, .int (vI ((m0 : Nat) : Int))])), (hL, .inr (4, [.int (vI ((way : Nat) : Int)), .int (vI ((win : Nat) : Int)), .int (vI ((least : Nat) : Int)), .int (vI ((cap : Nat) : Int)), .int (vI ((ga : Nat) : Int)), .int (vI ((gb : Nat) : Int)), .int (vI ((lp : Nat) : Int)), .int (vI ((mp : Nat) : Int))])), ia aC cI (NP) (zU gc i ((lp + cv : Nat) : Int)), ia aN cI (NP) (zU gn i 0), ia aO cI (NP) (zU go i 0)] H := hP
  have hD : va_D _ [(hN, .inr (2, [.ref hR, .ref hL, .ref hF, .ref aC, .ref aN, .ref aO, .ref aX, .int (vI ((m0 : Nat) : Int))])), (hL, .inr (4, [.int (vI ((way : Nat) : Int)), .int (vI ((win : Nat) : Int)), .int (vI ((least : Nat) : Int)), .int (vI ((cap : Nat) : Int)), .int (vI ((ga : Nat) : Int)), .int (vI ((gb : Nat) : Int)), .int (vI ((lp : Nat) : Int)), .int (vI ((mp : Nat) : Int))])), ia aC cI (NP) (zU gc i ((lp + cv : Nat) : Int)), ia aN cI (NP) (zU gn i 0), ia aO cI (NP) (zU go i 0)] := hD
  exact zr_v hx hb hr hlocks (()) trivial hP hD hS dX2_takeLiteral_36

set_option maxRecDepth 100000 in
set_option maxHeartbeats 4000000 in
theorem c_X2_consider (l : Launch) (D : va_G) (cI cB : ClassId) (sz : Nat) (hN : Nat) (hR : Nat) (hL : Nat) (hF : Nat) (aC : Nat) (aN : Nat) (aO : Nat) (aX : Nat) (m0 : Nat) (NP : Nat) (way : Nat) (win : Nat) (least : Nat) (cap : Nat) (ga : Nat) (gb : Nat) (lp : Nat) (mp : Nat) (gc : Nat → Int) (gn : Nat → Int) (go : Nat → Int) (gx : Nat → Int) (C : Nat → Nat) (ex : Nat → Nat) (nn : Nat) (i : Nat) (mo : Nat) (far : Nat) (cv : Nat) (wv : Nat) (xv : Nat) (h1 : nn < NP ∧ NP ≤ 32768 ∧ i + mo ≤ nn ∧ least ≤ mo ∧ 3 ≤ least ∧ far ≤ 40000 ∧ mp ≤ 255 ∧ cv ≤ 200000000 ∧ wv ≤ 40000) (hSt : zStk C ex m0 (i + least) nn) (hX : ∀ a, a < m0 → gx a = ((ex a : Nat) : Int)) (hC : ∀ j, i < j → j ≤ nn → gc j = ((C j : Nat) : Int)) (hCb : ∀ j, C j ≤ 100000000) (hv : gc i = ((cv : Nat) : Int) ∧ gn i = ((wv : Nat) : Int) ∧ go i = ((xv : Nat) : Int)) : Met l yX2_consider wsX2_consider ({ frames := 1, cells := 0, slots := 0, locals := 24 } : Room) (va_Pc [.ref hN, .int (vI ((i : Nat) : Int)), .int (vI ((mo : Nat) : Int)), .int (vI ((far : Nat) : Int))] (zPre D vwCl [(cI, .int), (cB, .byte)] [(hN, .inr (2, [.ref hR, .ref hL, .ref hF, .ref aC, .ref aN, .ref aO, .ref aX, .int (vI ((m0 : Nat) : Int))])), (hL, .inr (4, [.int (vI ((way : Nat) : Int)), .int (vI ((win : Nat) : Int)), .int (vI ((least : Nat) : Int)), .int (vI ((cap : Nat) : Int)), .int (vI ((ga : Nat) : Int)), .int (vI ((gb : Nat) : Int)), .int (vI ((lp : Nat) : Int)), .int (vI ((mp : Nat) : Int))])), ia aC cI (NP) (gc), ia aN cI (NP) (gn), ia aO cI (NP) (go), ia aX cI (NP) (gx)] sz)) (va_Qv (S := (Nat → Int) × (Nat → Int) × (Nat → Int) × Nat × Nat × Nat × Nat) (fun u => match u with | (gc2, gn2, go2, c2, w2, x2, ee) => (zArg C (i + least) (i + mo) ee) ∧ ((c2, w2, x2) = zbt cv wv xv (mp + zbits far + C ee) (ee - i) far) ∧ (zup gc gc2 i c2 ∧ zup gn gn2 i w2 ∧ zup go go2 i x2)) (fun (u : (Nat → Int) × (Nat → Int) × (Nat → Int) × Nat × Nat × Nat × Nat) t => zB D vwCl (va_A [(hN, .inr (2, [.ref hR, .ref hL, .ref hF, .ref aC, .ref aN, .ref aO, .ref aX, .int (vI ((m0 : Nat) : Int))])), (hL, .inr (4, [.int (vI ((way : Nat) : Int)), .int (vI ((win : Nat) : Int)), .int (vI ((least : Nat) : Int)), .int (vI ((cap : Nat) : Int)), .int (vI ((ga : Nat) : Int)), .int (vI ((gb : Nat) : Int)), .int (vI ((lp : Nat) : Int)), .int (vI ((mp : Nat) : Int))])), ia aC cI (NP) (gc), ia aN cI (NP) (gn), ia aO cI (NP) (go), ia aX cI (NP) (gx)] sz) ((fun u => match u with | (gc2, gn2, go2, c2, w2, x2, ee) => [(hN, .inr (2, [.ref hR, .ref hL, .ref hF, .ref aC, .ref aN, .ref aO, .ref aX, .int (vI ((m0 : Nat) : Int))])), (hL, .inr (4, [.int (vI ((way : Nat) : Int)), .int (vI ((win : Nat) : Int)), .int (vI ((least : Nat) : Int)), .int (vI ((cap : Nat) : Int)), .int (vI ((ga : Nat) : Int)), .int (vI ((gb : Nat) : Int)), .int (vI ((lp : Nat) : Int)), .int (vI ((mp : Nat) : Int))])), ia aC cI (NP) (gc2), ia aN cI (NP) (gn2), ia aO cI (NP) (go2), ia aX cI (NP) (gx)] : (Nat → Int) × (Nat → Int) × (Nat → Int) × Nat × Nat × Nat × Nat → va_W) u) t) (va_A [(hN, .inr (2, [.ref hR, .ref hL, .ref hF, .ref aC, .ref aN, .ref aO, .ref aX, .int (vI ((m0 : Nat) : Int))])), (hL, .inr (4, [.int (vI ((way : Nat) : Int)), .int (vI ((win : Nat) : Int)), .int (vI ((least : Nat) : Int)), .int (vI ((cap : Nat) : Int)), .int (vI ((ga : Nat) : Int)), .int (vI ((gb : Nat) : Int)), .int (vI ((lp : Nat) : Int)), .int (vI ((mp : Nat) : Int))])), ia aC cI (NP) (gc), ia aN cI (NP) (gn), ia aO cI (NP) (go), ia aX cI (NP) (gx)] sz)) (0) (0) (va_A [(hN, .inr (2, [.ref hR, .ref hL, .ref hF, .ref aC, .ref aN, .ref aO, .ref aX, .int (vI ((m0 : Nat) : Int))])), (hL, .inr (4, [.int (vI ((way : Nat) : Int)), .int (vI ((win : Nat) : Int)), .int (vI ((least : Nat) : Int)), .int (vI ((cap : Nat) : Int)), .int (vI ((ga : Nat) : Int)), .int (vI ((gb : Nat) : Int)), .int (vI ((lp : Nat) : Int)), .int (vI ((mp : Nat) : Int))])), ia aC cI (NP) (gc), ia aN cI (NP) (gn), ia aO cI (NP) (go), ia aX cI (NP) (gx)] sz) := by
  refine zMet (by decide) rfl (Nat.le_of_ble_eq_true rfl) (fun p e s m below meth c hx hb hr hts hown hlocks hnm hml hK hns hA hP hD hS ls hl => ?_)
  have hl : lv_has ls 6 [(0, .ref hN), (1, .int (vI ((i : Nat) : Int))), (2, .int (vI ((mo : Nat) : Int))), (3, .int (vI ((far : Nat) : Int)))] := hl
  have hRf : 1 ≤ ({ frames := 1, cells := 0, slots := 0, locals := 24 } : Room).frames := Nat.le_refl _
  have hRl : 24 ≤ ({ frames := 1, cells := 0, slots := 0, locals := 24 } : Room).locals := Nat.le_refl _
  have hRc : 0 ≤ ({ frames := 1, cells := 0, slots := 0, locals := 24 } : Room).cells := Nat.zero_le _
  have hRs : 0 ≤ ({ frames := 1, cells := 0, slots := 0, locals := 24 } : Room).slots := Nat.zero_le _
  refine lv_aload_n hx hb dX2_consider_0 rfl (lv_at hl 0 rfl) ?_
  refine lv_iload_n hx hb dX2_consider_1 rfl (lv_at hl 1 rfl) ?_
  refine lv_iload_n hx hb dX2_consider_2 rfl (lv_at hl 2 rfl) ?_
  refine zw_iadd hx hb dX2_consider_3 ?_
  refine zw_to (z2 := ((i + mo : Nat) : Int)) (by omega) ?_
  have hPc := hP.sub (ws' := [(hN, .inr (2, [.ref hR, .ref hL, .ref hF, .ref aC, .ref aN, .ref aO, .ref aX, .int (vI ((m0 : Nat) : Int))])), ia aX cI (NP) (gx)]) [0, 5] rfl
  have hDc := hD.sub (ws' := [(hN, .inr (2, [.ref hR, .ref hL, .ref hF, .ref aC, .ref aN, .ref aO, .ref aX, .int (vI ((m0 : Nat) : Int))])), ia aX cI (NP) (gx)]) [0, 5] (by decide) rfl
  refine zc_i (wr := [(hL, .inr (4, [.int (vI ((way : Nat) : Int)), .int (vI ((win : Nat) : Int)), .int (vI ((least : Nat) : Int)), .int (vI ((cap : Nat) : Int)), .int (vI ((ga : Nat) : Int)), .int (vI ((gb : Nat) : Int)), .int (vI ((lp : Nat) : Int)), .int (vI ((mp : Nat) : Int))])), ia aC cI (NP) (gc), ia aN cI (NP) (gn), ia aO cI (NP) (go)]) (va_runV (As := [.int (vI ((i + mo : Nat) : Int))]) (rest := []) ⟨hx, hb, hml, hown, hts⟩ (c_X2_cheapestEnd l D cI cB _ hN hR hL hF aC aN aO aX m0 NP gx C ex (i + least) nn (i + mo) (by omega) (hSt) (hX)) ⟨callB_of 1 hts (zg kX2_cheapestEnd) rfl rfl rfl (hts _ aw_5) (hts _ aw_463) (by decide +kernel) ⟨Nat.le_trans (Nat.le_of_ble_eq_true rfl) hRf, Nat.le_trans (Nat.le_of_ble_eq_true rfl) hRl⟩, (hts _ aw_465), (hts _ as_31)⟩ ⟨zPre_blind, va_recv hK hPc (ci := 2) (q0 := 0) rfl rfl, zPre_of hK hns hPc hDc⟩ rfl rfl hl.1 rfl (lv_room (Nat.le_of_ble_eq_true rfl)) dX2_consider_4 ⟨hRc, hRs⟩) hP hD hS hA [0, 5] [1, 2, 3, 4] rfl rfl (by decide) (by decide) (fun r ee H locs hpost hP hD hS => ?_)
  obtain ⟨rfl, hA_4⟩ := hpost
  have hP : va_P D vwCl [(hL, .inr (4, [.int (vI ((way : Nat) : Int)), .int (vI ((win : Nat) : Int)), .int (vI ((least : Nat) : Int)), .int (vI ((cap : Nat) : Int)), .int (vI ((ga : Nat) : Int)), .int (vI ((gb : Nat) : Int)), .int (vI ((lp : Nat) : Int)), .int (vI ((mp : Nat) : Int))])), ia aC cI (NP) (gc), ia aN cI (NP) (gn), ia aO cI (NP) (go), (hN, .inr (2, [.ref hR, .ref hL, .ref hF, .ref aC, .ref aN, .ref aO, .ref aX, .int (vI ((m0 : Nat) : Int))])), ia aX cI (NP) (gx)] H := hP
  have hD : va_D _ [(hL, .inr (4, [.int (vI ((way : Nat) : Int)), .int (vI ((win : Nat) : Int)), .int (vI ((least : Nat) : Int)), .int (vI ((cap : Nat) : Int)), .int (vI ((ga : Nat) : Int)), .int (vI ((gb : Nat) : Int)), .int (vI ((lp : Nat) : Int)), .int (vI ((mp : Nat) : Int))])), ia aC cI (NP) (gc), ia aN cI (NP) (gn), ia aO cI (NP) (go), (hN, .inr (2, [.ref hR, .ref hL, .ref hF, .ref aC, .ref aN, .ref aO, .ref aX, .int (vI ((m0 : Nat) : Int))])), ia aX cI (NP) (gx)] := hD
  have hA1 := hA_4.1
  have hA2 := hA_4.2.1
  have hq2 := hCb ee
  obtain ⟨hv1, hv2, hv3⟩ := hv
  refine lv_istore (lv' := [(4, .int (vI ((ee : Nat) : Int))), (0, .ref hN), (1, .int (vI ((i : Nat) : Int))), (2, .int (vI ((mo : Nat) : Int))), (3, .int (vI ((far : Nat) : Int)))]) hx hb dX2_consider_7 hl (by decide) rfl (fun ls hl => ?_)
  refine lv_aload_n hx hb dX2_consider_9 rfl (lv_at hl 1 rfl) ?_
  refine va_get (D := D) (ci := 2) (v := .ref hL) (C := RX2) (T := TX2) (N := 8) hx hb hts iwX2 hown hK hP 4 rfl rfl 1 (by decide) (hts _ aw_158) (fun _ h9 => h9) rfl dX2_consider_10 ?_
  refine va_getN (D := D) (ci := 4) (v := .int (vI ((mp : Nat) : Int))) (C := RX4) (T := TX4) (N := 8) hx hb hts iwX4 hown hK hP 0 rfl rfl 7 (by decide) (va_Nw.use rfl (hns _ nw_75)) (fun _ h9 => h9) rfl dX2_consider_13 ?_
  refine lv_iload_n hx hb dX2_consider_16 rfl (lv_at hl 4 rfl) ?_
  have hPc := hP.sub (ws' := []) [] rfl
  have hDc := hD.sub (ws' := []) [] (by decide) rfl
  refine zc_i (wr := [(hL, .inr (4, [.int (vI ((way : Nat) : Int)), .int (vI ((win : Nat) : Int)), .int (vI ((least : Nat) : Int)), .int (vI ((cap : Nat) : Int)), .int (vI ((ga : Nat) : Int)), .int (vI ((gb : Nat) : Int)), .int (vI ((lp : Nat) : Int)), .int (vI ((mp : Nat) : Int))])), ia aC cI (NP) (gc), ia aN cI (NP) (gn), ia aO cI (NP) (go), (hN, .inr (2, [.ref hR, .ref hL, .ref hF, .ref aC, .ref aN, .ref aO, .ref aX, .int (vI ((m0 : Nat) : Int))])), ia aX cI (NP) (gx)]) (va_runSN (As := [.int (vI ((far : Nat) : Int))]) (rest := [.int (vI ((mp : Nat) : Int))]) ⟨hx, hb, hml, hown, hts⟩ (c_X5_bitsOf l D cI cB _ far (by omega)) ⟨va_cnB 1 hts (zg kX5_bitsOf) rfl rfl rfl (hns _ nw_467) (hts _ aw_1) (by decide +kernel) ⟨Nat.le_trans (Nat.le_of_ble_eq_true rfl) hRf, Nat.le_trans (Nat.le_of_ble_eq_true rfl) hRl⟩, (hts _ aw_468), trivial⟩ ⟨zPre_blind, zPre_of hK hns hPc hDc⟩ rfl rfl hl.1 rfl (lv_room (Nat.le_of_ble_eq_true rfl)) dX2_consider_17 ⟨hRc, hRs⟩) hP hD hS hA [] [0, 1, 2, 3, 4, 5] rfl rfl (by decide) (by decide) (fun r b_17 H locs hpost hP hD hS => ?_)
  obtain ⟨rfl, hz_17⟩ := hpost
  have hP : va_P D vwCl [(hL, .inr (4, [.int (vI ((way : Nat) : Int)), .int (vI ((win : Nat) : Int)), .int (vI ((least : Nat) : Int)), .int (vI ((cap : Nat) : Int)), .int (vI ((ga : Nat) : Int)), .int (vI ((gb : Nat) : Int)), .int (vI ((lp : Nat) : Int)), .int (vI ((mp : Nat) : Int))])), ia aC cI (NP) (gc), ia aN cI (NP) (gn), ia aO cI (NP) (go), (hN, .inr (2, [.ref hR, .ref hL, .ref hF, .ref aC, .ref aN, .ref aO, .ref aX, .int (vI ((m0 : Nat) : Int))])), ia aX cI (NP) (gx)] H := hP
  have hD : va_D _ [(hL, .inr (4, [.int (vI ((way : Nat) : Int)), .int (vI ((win : Nat) : Int)), .int (vI ((least : Nat) : Int)), .int (vI ((cap : Nat) : Int)), .int (vI ((ga : Nat) : Int)), .int (vI ((gb : Nat) : Int)), .int (vI ((lp : Nat) : Int)), .int (vI ((mp : Nat) : Int))])), ia aC cI (NP) (gc), ia aN cI (NP) (gn), ia aO cI (NP) (go), (hN, .inr (2, [.ref hR, .ref hL, .ref hF, .ref aC, .ref aN, .ref aO, .ref aX, .int (vI ((m0 : Nat) : Int))])), ia aX cI (NP) (gx)] := hD
  refine zw_to (z2 := ((zbits far : Nat) : Int)) (by rw [← zbits_is hz_17]) ?_
  have hb31 : zbits far ≤ 31 := by rw [← zbits_is hz_17]; exact hz_17.2
  refine zw_iadd hx hb dX2_consider_20 ?_
  refine zw_to (z2 := ((mp + (zbits far) : Nat) : Int)) (by omega) ?_
  refine lv_aload_n hx hb dX2_consider_21 rfl (lv_at hl 1 rfl) ?_
  refine va_get (D := D) (ci := 2) (v := .ref aC) (C := RX2) (T := TX2) (N := 8) hx hb hts iwX2 hown hK hP 4 rfl rfl 3 (by decide) (hts _ aw_160) (fun _ h9 => h9) rfl dX2_consider_22 ?_
  refine lv_iload hx hb dX2_consider_25 (lv_at hl 0 rfl) ?_
  refine zw_iald hx hb hK hP 1 0 rfl rfl (ee) (by omega) (by omega) (by omega) dX2_consider_27 ?_
  refine zw_to (z2 := ((C ee : Nat) : Int)) (hC _ (by omega) (by omega)) ?_
  refine zw_iadd hx hb dX2_consider_28 ?_
  refine zw_to (z2 := (((mp + (zbits far)) + (C ee) : Nat) : Int)) (by omega) ?_
  refine lv_istore (lv' := [(5, .int (vI (((mp + (zbits far)) + (C ee) : Nat) : Int))), (4, .int (vI ((ee : Nat) : Int))), (0, .ref hN), (1, .int (vI ((i : Nat) : Int))), (2, .int (vI ((mo : Nat) : Int))), (3, .int (vI ((far : Nat) : Int)))]) hx hb dX2_consider_29 hl (by decide) rfl (fun ls hl => ?_)
  refine lv_iload hx hb dX2_consider_31 (lv_at hl 0 rfl) ?_
  refine lv_aload_n hx hb dX2_consider_33 rfl (lv_at hl 2 rfl) ?_
  refine va_get (D := D) (ci := 2) (v := .ref aC) (C := RX2) (T := TX2) (N := 8) hx hb hts iwX2 hown hK hP 4 rfl rfl 3 (by decide) (hts _ aw_160) (fun _ h9 => h9) rfl dX2_consider_34 ?_
  refine lv_iload_n hx hb dX2_consider_37 rfl (lv_at hl 3 rfl) ?_
  refine zw_iald hx hb hK hP 1 0 rfl rfl (i) (by omega) (by omega) (by omega) dX2_consider_38 ?_
  refine zw_to (z2 := ((cv : Nat) : Int)) (hv1) ?_
  refine zw_icmp_lt (tgt := 66) hx hb dX2_consider_39 (by decide) ⟨by omega, by omega⟩ ⟨by omega, by omega⟩ (fun c_39 => ?_) (fun c_39 => ?_)
  · refine lv_aload_n hx hb dX2_consider_66 rfl (lv_at hl 2 rfl) ?_
    refine va_get (D := D) (ci := 2) (v := .ref aC) (C := RX2) (T := TX2) (N := 8) hx hb hts iwX2 hown hK hP 4 rfl rfl 3 (by decide) (hts _ aw_160) (fun _ h9 => h9) rfl dX2_consider_67 ?_
    refine lv_iload_n hx hb dX2_consider_70 rfl (lv_at hl 3 rfl) ?_
    refine lv_iload hx hb dX2_consider_71 (lv_at hl 0 rfl) ?_
    refine zw_iast hx hb hK hP hD hS 1 0 rfl rfl (i) (by omega) (by omega) (by omega) dX2_consider_73 (fun H locs hP hD hS => ?_)
    have hP : va_P D vwCl [(hL, .inr (4, [.int (vI ((way : Nat) : Int)), .int (vI ((win : Nat) : Int)), .int (vI ((least : Nat) : Int)), .int (vI ((cap : Nat) : Int)), .int (vI ((ga : Nat) : Int)), .int (vI ((gb : Nat) : Int)), .int (vI ((lp : Nat) : Int)), .int (vI ((mp : Nat) : Int))])), ia aC cI (NP) (zU gc i (((mp + (zbits far)) + (C ee) : Nat) : Int)), ia aN cI (NP) (gn), ia aO cI (NP) (go), (hN, .inr (2, [.ref hR, .ref hL, .ref hF, .ref aC, .ref aN, .ref aO, .ref aX, .int (vI ((m0 : Nat) : Int))])), ia aX cI (NP) (gx)] H := hP
    have hD : va_D _ [(hL, .inr (4, [.int (vI ((way : Nat) : Int)), .int (vI ((win : Nat) : Int)), .int (vI ((least : Nat) : Int)), .int (vI ((cap : Nat) : Int)), .int (vI ((ga : Nat) : Int)), .int (vI ((gb : Nat) : Int)), .int (vI ((lp : Nat) : Int)), .int (vI ((mp : Nat) : Int))])), ia aC cI (NP) (zU gc i (((mp + (zbits far)) + (C ee) : Nat) : Int)), ia aN cI (NP) (gn), ia aO cI (NP) (go), (hN, .inr (2, [.ref hR, .ref hL, .ref hF, .ref aC, .ref aN, .ref aO, .ref aX, .int (vI ((m0 : Nat) : Int))])), ia aX cI (NP) (gx)] := hD
    refine lv_aload_n hx hb dX2_consider_74 rfl (lv_at hl 2 rfl) ?_
    refine va_get (D := D) (ci := 2) (v := .ref aN) (C := RX2) (T := TX2) (N := 8) hx hb hts iwX2 hown hK hP 4 rfl rfl 4 (by decide) (hts _ aw_161) (fun _ h9 => h9) rfl dX2_consider_75 ?_
    refine lv_iload_n hx hb dX2_consider_78 rfl (lv_at hl 3 rfl) ?_
    refine lv_iload hx hb dX2_consider_79 (lv_at hl 1 rfl) ?_
    refine lv_iload_n hx hb dX2_consider_81 rfl (lv_at hl 3 rfl) ?_
    refine zw_isub hx hb dX2_consider_82 ?_
    refine zw_to (z2 := ((ee - i : Nat) : Int)) (by omega) ?_
    refine zw_iast hx hb hK hP hD hS 2 0 rfl rfl (i) (by omega) (by omega) (by omega) dX2_consider_83 (fun H locs hP hD hS => ?_)
    have hP : va_P D vwCl [(hL, .inr (4, [.int (vI ((way : Nat) : Int)), .int (vI ((win : Nat) : Int)), .int (vI ((least : Nat) : Int)), .int (vI ((cap : Nat) : Int)), .int (vI ((ga : Nat) : Int)), .int (vI ((gb : Nat) : Int)), .int (vI ((lp : Nat) : Int)), .int (vI ((mp : Nat) : Int))])), ia aC cI (NP) (zU gc i (((mp + (zbits far)) + (C ee) : Nat) : Int)), ia aN cI (NP) (zU gn i ((ee - i : Nat) : Int)), ia aO cI (NP) (go), (hN, .inr (2, [.ref hR, .ref hL, .ref hF, .ref aC, .ref aN, .ref aO, .ref aX, .int (vI ((m0 : Nat) : Int))])), ia aX cI (NP) (gx)] H := hP
    have hD : va_D _ [(hL, .inr (4, [.int (vI ((way : Nat) : Int)), .int (vI ((win : Nat) : Int)), .int (vI ((least : Nat) : Int)), .int (vI ((cap : Nat) : Int)), .int (vI ((ga : Nat) : Int)), .int (vI ((gb : Nat) : Int)), .int (vI ((lp : Nat) : Int)), .int (vI ((mp : Nat) : Int))])), ia aC cI (NP) (zU gc i (((mp + (zbits far)) + (C ee) : Nat) : Int)), ia aN cI (NP) (zU gn i ((ee - i : Nat) : Int)), ia aO cI (NP) (go), (hN, .inr (2, [.ref hR, .ref hL, .ref hF, .ref aC, .ref aN, .ref aO, .ref aX, .int (vI ((m0 : Nat) : Int))])), ia aX cI (NP) (gx)] := hD
    refine lv_aload_n hx hb dX2_consider_84 rfl (lv_at hl 2 rfl) ?_
    refine va_get (D := D) (ci := 2) (v := .ref aO) (C := RX2) (T := TX2) (N := 8) hx hb hts iwX2 hown hK hP 4 rfl rfl 5 (by decide) (hts _ aw_163) (fun _ h9 => h9) rfl dX2_consider_85 ?_
    refine lv_iload_n hx hb dX2_consider_88 rfl (lv_at hl 3 rfl) ?_
    refine lv_iload_n hx hb dX2_consider_89 rfl (lv_at hl 5 rfl) ?_
    refine zw_iast hx hb hK hP hD hS 3 0 rfl rfl (i) (by omega) (by omega) (by omega) dX2_consider_90 (fun H locs hP hD hS => ?_)
    have hP : va_P D vwCl [(hL, .inr (4, [.int (vI ((way : Nat) : Int)), .int (vI ((win : Nat) : Int)), .int (vI ((least : Nat) : Int)), .int (vI ((cap : Nat) : Int)), .int (vI ((ga : Nat) : Int)), .int (vI ((gb : Nat) : Int)), .int (vI ((lp : Nat) : Int)), .int (vI ((mp : Nat) : Int))])), ia aC cI (NP) (zU gc i (((mp + (zbits far)) + (C ee) : Nat) : Int)), ia aN cI (NP) (zU gn i ((ee - i : Nat) : Int)), ia aO cI (NP) (zU go i ((far : Nat) : Int)), (hN, .inr (2, [.ref hR, .ref hL, .ref hF, .ref aC, .ref aN, .ref aO, .ref aX, .int (vI ((m0 : Nat) : Int))])), ia aX cI (NP) (gx)] H := hP
    have hD : va_D _ [(hL, .inr (4, [.int (vI ((way : Nat) : Int)), .int (vI ((win : Nat) : Int)), .int (vI ((least : Nat) : Int)), .int (vI ((cap : Nat) : Int)), .int (vI ((ga : Nat) : Int)), .int (vI ((gb : Nat) : Int)), .int (vI ((lp : Nat) : Int)), .int (vI ((mp : Nat) : Int))])), ia aC cI (NP) (zU gc i (((mp + (zbits far)) + (C ee) : Nat) : Int)), ia aN cI (NP) (zU gn i ((ee - i : Nat) : Int)), ia aO cI (NP) (zU go i ((far : Nat) : Int)), (hN, .inr (2, [.ref hR, .ref hL, .ref hF, .ref aC, .ref aN, .ref aO, .ref aX, .int (vI ((m0 : Nat) : Int))])), ia aX cI (NP) (gx)] := hD
    have hP9 := hP.sub (ws' := [(hN, .inr (2, [.ref hR, .ref hL, .ref hF, .ref aC, .ref aN, .ref aO, .ref aX, .int (vI ((m0 : Nat) : Int))])), (hL, .inr (4, [.int (vI ((way : Nat) : Int)), .int (vI ((win : Nat) : Int)), .int (vI ((least : Nat) : Int)), .int (vI ((cap : Nat) : Int)), .int (vI ((ga : Nat) : Int)), .int (vI ((gb : Nat) : Int)), .int (vI ((lp : Nat) : Int)), .int (vI ((mp : Nat) : Int))])), ia aC cI (NP) ((zU gc i (((mp + zbits far) + C ee : Nat) : Int))), ia aN cI (NP) ((zU gn i ((ee - i : Nat) : Int))), ia aO cI (NP) ((zU go i ((far : Nat) : Int))), ia aX cI (NP) (gx)]) [4, 0, 1, 2, 3, 5] rfl
    have hD9 := hD.sub (ws' := [(hN, .inr (2, [.ref hR, .ref hL, .ref hF, .ref aC, .ref aN, .ref aO, .ref aX, .int (vI ((m0 : Nat) : Int))])), (hL, .inr (4, [.int (vI ((way : Nat) : Int)), .int (vI ((win : Nat) : Int)), .int (vI ((least : Nat) : Int)), .int (vI ((cap : Nat) : Int)), .int (vI ((ga : Nat) : Int)), .int (vI ((gb : Nat) : Int)), .int (vI ((lp : Nat) : Int)), .int (vI ((mp : Nat) : Int))])), ia aC cI (NP) ((zU gc i (((mp + zbits far) + C ee : Nat) : Int))), ia aN cI (NP) ((zU gn i ((ee - i : Nat) : Int))), ia aO cI (NP) ((zU go i ((far : Nat) : Int))), ia aX cI (NP) (gx)]) [4, 0, 1, 2, 3, 5] (by decide) rfl
    exact zr_v hx hb hr hlocks (((zU gc i (((mp + zbits far) + C ee : Nat) : Int)), (zU gn i ((ee - i : Nat) : Int)), (zU go i ((far : Nat) : Int)), (mp + zbits far + C ee), (ee - i), far, ee)) ⟨hA_4, by unfold zbt; rw [if_pos (by omega)], ⟨zup_1, zup_1, zup_1⟩⟩ hP9 hD9 hS dX2_consider_91
  · refine lv_iload hx hb dX2_consider_42 (lv_at hl 0 rfl) ?_
    refine lv_aload_n hx hb dX2_consider_44 rfl (lv_at hl 2 rfl) ?_
    refine va_get (D := D) (ci := 2) (v := .ref aC) (C := RX2) (T := TX2) (N := 8) hx hb hts iwX2 hown hK hP 4 rfl rfl 3 (by decide) (hts _ aw_160) (fun _ h9 => h9) rfl dX2_consider_45 ?_
    refine lv_iload_n hx hb dX2_consider_48 rfl (lv_at hl 3 rfl) ?_
    refine zw_iald hx hb hK hP 1 0 rfl rfl (i) (by omega) (by omega) (by omega) dX2_consider_49 ?_
    refine zw_to (z2 := ((cv : Nat) : Int)) (hv1) ?_
    refine zw_icmp_ne (tgt := 91) hx hb dX2_consider_50 (by decide) ⟨by omega, by omega⟩ ⟨by omega, by omega⟩ (fun c_50 => ?_) (fun c_50 => ?_)
    · have hP9 := hP.sub (ws' := [(hN, .inr (2, [.ref hR, .ref hL, .ref hF, .ref aC, .ref aN, .ref aO, .ref aX, .int (vI ((m0 : Nat) : Int))])), (hL, .inr (4, [.int (vI ((way : Nat) : Int)), .int (vI ((win : Nat) : Int)), .int (vI ((least : Nat) : Int)), .int (vI ((cap : Nat) : Int)), .int (vI ((ga : Nat) : Int)), .int (vI ((gb : Nat) : Int)), .int (vI ((lp : Nat) : Int)), .int (vI ((mp : Nat) : Int))])), ia aC cI (NP) (gc), ia aN cI (NP) (gn), ia aO cI (NP) (go), ia aX cI (NP) (gx)]) [4, 0, 1, 2, 3, 5] rfl
      have hD9 := hD.sub (ws' := [(hN, .inr (2, [.ref hR, .ref hL, .ref hF, .ref aC, .ref aN, .ref aO, .ref aX, .int (vI ((m0 : Nat) : Int))])), (hL, .inr (4, [.int (vI ((way : Nat) : Int)), .int (vI ((win : Nat) : Int)), .int (vI ((least : Nat) : Int)), .int (vI ((cap : Nat) : Int)), .int (vI ((ga : Nat) : Int)), .int (vI ((gb : Nat) : Int)), .int (vI ((lp : Nat) : Int)), .int (vI ((mp : Nat) : Int))])), ia aC cI (NP) (gc), ia aN cI (NP) (gn), ia aO cI (NP) (go), ia aX cI (NP) (gx)]) [4, 0, 1, 2, 3, 5] (by decide) rfl
      exact zr_v hx hb hr hlocks ((gc, gn, go, cv, wv, xv, ee)) ⟨hA_4, by unfold zbt; rw [if_neg (by omega)], ⟨zup_0 hv1, zup_0 hv2, zup_0 hv3⟩⟩ hP9 hD9 hS dX2_consider_91
    · refine lv_iload hx hb dX2_consider_53 (lv_at hl 1 rfl) ?_
      refine lv_iload_n hx hb dX2_consider_55 rfl (lv_at hl 3 rfl) ?_
      refine zw_isub hx hb dX2_consider_56 ?_
      refine zw_to (z2 := ((ee - i : Nat) : Int)) (by omega) ?_
      refine lv_aload_n hx hb dX2_consider_57 rfl (lv_at hl 2 rfl) ?_
      refine va_get (D := D) (ci := 2) (v := .ref aN) (C := RX2) (T := TX2) (N := 8) hx hb hts iwX2 hown hK hP 4 rfl rfl 4 (by decide) (hts _ aw_161) (fun _ h9 => h9) rfl dX2_consider_58 ?_
      refine lv_iload_n hx hb dX2_consider_61 rfl (lv_at hl 3 rfl) ?_
      refine zw_iald hx hb hK hP 2 0 rfl rfl (i) (by omega) (by omega) (by omega) dX2_consider_62 ?_
      refine zw_to (z2 := ((wv : Nat) : Int)) (hv2) ?_
      refine zw_icmp_le (tgt := 91) hx hb dX2_consider_63 (by decide) ⟨by omega, by omega⟩ ⟨by omega, by omega⟩ (fun c_63 => ?_) (fun c_63 => ?_)
      · have hP9 := hP.sub (ws' := [(hN, .inr (2, [.ref hR, .ref hL, .ref hF, .ref aC, .ref aN, .ref aO, .ref aX, .int (vI ((m0 : Nat) : Int))])), (hL, .inr (4, [.int (vI ((way : Nat) : Int)), .int (vI ((win : Nat) : Int)), .int (vI ((least : Nat) : Int)), .int (vI ((cap : Nat) : Int)), .int (vI ((ga : Nat) : Int)), .int (vI ((gb : Nat) : Int)), .int (vI ((lp : Nat) : Int)), .int (vI ((mp : Nat) : Int))])), ia aC cI (NP) (gc), ia aN cI (NP) (gn), ia aO cI (NP) (go), ia aX cI (NP) (gx)]) [4, 0, 1, 2, 3, 5] rfl
        have hD9 := hD.sub (ws' := [(hN, .inr (2, [.ref hR, .ref hL, .ref hF, .ref aC, .ref aN, .ref aO, .ref aX, .int (vI ((m0 : Nat) : Int))])), (hL, .inr (4, [.int (vI ((way : Nat) : Int)), .int (vI ((win : Nat) : Int)), .int (vI ((least : Nat) : Int)), .int (vI ((cap : Nat) : Int)), .int (vI ((ga : Nat) : Int)), .int (vI ((gb : Nat) : Int)), .int (vI ((lp : Nat) : Int)), .int (vI ((mp : Nat) : Int))])), ia aC cI (NP) (gc), ia aN cI (NP) (gn), ia aO cI (NP) (go), ia aX cI (NP) (gx)]) [4, 0, 1, 2, 3, 5] (by decide) rfl
        exact zr_v hx hb hr hlocks ((gc, gn, go, cv, wv, xv, ee)) ⟨hA_4, by unfold zbt; rw [if_neg (by omega)], ⟨zup_0 hv1, zup_0 hv2, zup_0 hv3⟩⟩ hP9 hD9 hS dX2_consider_91
      · refine lv_aload_n hx hb dX2_consider_66 rfl (lv_at hl 2 rfl) ?_
        refine va_get (D := D) (ci := 2) (v := .ref aC) (C := RX2) (T := TX2) (N := 8) hx hb hts iwX2 hown hK hP 4 rfl rfl 3 (by decide) (hts _ aw_160) (fun _ h9 => h9) rfl dX2_consider_67 ?_
        refine lv_iload_n hx hb dX2_consider_70 rfl (lv_at hl 3 rfl) ?_
        refine lv_iload hx hb dX2_consider_71 (lv_at hl 0 rfl) ?_
        refine zw_iast hx hb hK hP hD hS 1 0 rfl rfl (i) (by omega) (by omega) (by omega) dX2_consider_73 (fun H locs hP hD hS => ?_)
        have hP : va_P D vwCl [(hL, .inr (4, [.int (vI ((way : Nat) : Int)), .int (vI ((win : Nat) : Int)), .int (vI ((least : Nat) : Int)), .int (vI ((cap : Nat) : Int)), .int (vI ((ga : Nat) : Int)), .int (vI ((gb : Nat) : Int)), .int (vI ((lp : Nat) : Int)), .int (vI ((mp : Nat) : Int))])), ia aC cI (NP) (zU gc i (((mp + (zbits far)) + (C ee) : Nat) : Int)), ia aN cI (NP) (gn), ia aO cI (NP) (go), (hN, .inr (2, [.ref hR, .ref hL, .ref hF, .ref aC, .ref aN, .ref aO, .ref aX, .int (vI ((m0 : Nat) : Int))])), ia aX cI (NP) (gx)] H := hP
        have hD : va_D _ [(hL, .inr (4, [.int (vI ((way : Nat) : Int)), .int (vI ((win : Nat) : Int)), .int (vI ((least : Nat) : Int)), .int (vI ((cap : Nat) : Int)), .int (vI ((ga : Nat) : Int)), .int (vI ((gb : Nat) : Int)), .int (vI ((lp : Nat) : Int)), .int (vI ((mp : Nat) : Int))])), ia aC cI (NP) (zU gc i (((mp + (zbits far)) + (C ee) : Nat) : Int)), ia aN cI (NP) (gn), ia aO cI (NP) (go), (hN, .inr (2, [.ref hR, .ref hL, .ref hF, .ref aC, .ref aN, .ref aO, .ref aX, .int (vI ((m0 : Nat) : Int))])), ia aX cI (NP) (gx)] := hD
        refine lv_aload_n hx hb dX2_consider_74 rfl (lv_at hl 2 rfl) ?_
        refine va_get (D := D) (ci := 2) (v := .ref aN) (C := RX2) (T := TX2) (N := 8) hx hb hts iwX2 hown hK hP 4 rfl rfl 4 (by decide) (hts _ aw_161) (fun _ h9 => h9) rfl dX2_consider_75 ?_
        refine lv_iload_n hx hb dX2_consider_78 rfl (lv_at hl 3 rfl) ?_
        refine lv_iload hx hb dX2_consider_79 (lv_at hl 1 rfl) ?_
        refine lv_iload_n hx hb dX2_consider_81 rfl (lv_at hl 3 rfl) ?_
        refine zw_isub hx hb dX2_consider_82 ?_
        refine zw_to (z2 := ((ee - i : Nat) : Int)) (by omega) ?_
        refine zw_iast hx hb hK hP hD hS 2 0 rfl rfl (i) (by omega) (by omega) (by omega) dX2_consider_83 (fun H locs hP hD hS => ?_)
        have hP : va_P D vwCl [(hL, .inr (4, [.int (vI ((way : Nat) : Int)), .int (vI ((win : Nat) : Int)), .int (vI ((least : Nat) : Int)), .int (vI ((cap : Nat) : Int)), .int (vI ((ga : Nat) : Int)), .int (vI ((gb : Nat) : Int)), .int (vI ((lp : Nat) : Int)), .int (vI ((mp : Nat) : Int))])), ia aC cI (NP) (zU gc i (((mp + (zbits far)) + (C ee) : Nat) : Int)), ia aN cI (NP) (zU gn i ((ee - i : Nat) : Int)), ia aO cI (NP) (go), (hN, .inr (2, [.ref hR, .ref hL, .ref hF, .ref aC, .ref aN, .ref aO, .ref aX, .int (vI ((m0 : Nat) : Int))])), ia aX cI (NP) (gx)] H := hP
        have hD : va_D _ [(hL, .inr (4, [.int (vI ((way : Nat) : Int)), .int (vI ((win : Nat) : Int)), .int (vI ((least : Nat) : Int)), .int (vI ((cap : Nat) : Int)), .int (vI ((ga : Nat) : Int)), .int (vI ((gb : Nat) : Int)), .int (vI ((lp : Nat) : Int)), .int (vI ((mp : Nat) : Int))])), ia aC cI (NP) (zU gc i (((mp + (zbits far)) + (C ee) : Nat) : Int)), ia aN cI (NP) (zU gn i ((ee - i : Nat) : Int)), ia aO cI (NP) (go), (hN, .inr (2, [.ref hR, .ref hL, .ref hF, .ref aC, .ref aN, .ref aO, .ref aX, .int (vI ((m0 : Nat) : Int))])), ia aX cI (NP) (gx)] := hD
        refine lv_aload_n hx hb dX2_consider_84 rfl (lv_at hl 2 rfl) ?_
        refine va_get (D := D) (ci := 2) (v := .ref aO) (C := RX2) (T := TX2) (N := 8) hx hb hts iwX2 hown hK hP 4 rfl rfl 5 (by decide) (hts _ aw_163) (fun _ h9 => h9) rfl dX2_consider_85 ?_
        refine lv_iload_n hx hb dX2_consider_88 rfl (lv_at hl 3 rfl) ?_
        refine lv_iload_n hx hb dX2_consider_89 rfl (lv_at hl 5 rfl) ?_
        refine zw_iast hx hb hK hP hD hS 3 0 rfl rfl (i) (by omega) (by omega) (by omega) dX2_consider_90 (fun H locs hP hD hS => ?_)
        have hP : va_P D vwCl [(hL, .inr (4, [.int (vI ((way : Nat) : Int)), .int (vI ((win : Nat) : Int)), .int (vI ((least : Nat) : Int)), .int (vI ((cap : Nat) : Int)), .int (vI ((ga : Nat) : Int)), .int (vI ((gb : Nat) : Int)), .int (vI ((lp : Nat) : Int)), .int (vI ((mp : Nat) : Int))])), ia aC cI (NP) (zU gc i (((mp + (zbits far)) + (C ee) : Nat) : Int)), ia aN cI (NP) (zU gn i ((ee - i : Nat) : Int)), ia aO cI (NP) (zU go i ((far : Nat) : Int)), (hN, .inr (2, [.ref hR, .ref hL, .ref hF, .ref aC, .ref aN, .ref aO, .ref aX, .int (vI ((m0 : Nat) : Int))])), ia aX cI (NP) (gx)] H := hP
        have hD : va_D _ [(hL, .inr (4, [.int (vI ((way : Nat) : Int)), .int (vI ((win : Nat) : Int)), .int (vI ((least : Nat) : Int)), .int (vI ((cap : Nat) : Int)), .int (vI ((ga : Nat) : Int)), .int (vI ((gb : Nat) : Int)), .int (vI ((lp : Nat) : Int)), .int (vI ((mp : Nat) : Int))])), ia aC cI (NP) (zU gc i (((mp + (zbits far)) + (C ee) : Nat) : Int)), ia aN cI (NP) (zU gn i ((ee - i : Nat) : Int)), ia aO cI (NP) (zU go i ((far : Nat) : Int)), (hN, .inr (2, [.ref hR, .ref hL, .ref hF, .ref aC, .ref aN, .ref aO, .ref aX, .int (vI ((m0 : Nat) : Int))])), ia aX cI (NP) (gx)] := hD
        have hP9 := hP.sub (ws' := [(hN, .inr (2, [.ref hR, .ref hL, .ref hF, .ref aC, .ref aN, .ref aO, .ref aX, .int (vI ((m0 : Nat) : Int))])), (hL, .inr (4, [.int (vI ((way : Nat) : Int)), .int (vI ((win : Nat) : Int)), .int (vI ((least : Nat) : Int)), .int (vI ((cap : Nat) : Int)), .int (vI ((ga : Nat) : Int)), .int (vI ((gb : Nat) : Int)), .int (vI ((lp : Nat) : Int)), .int (vI ((mp : Nat) : Int))])), ia aC cI (NP) ((zU gc i (((mp + zbits far) + C ee : Nat) : Int))), ia aN cI (NP) ((zU gn i ((ee - i : Nat) : Int))), ia aO cI (NP) ((zU go i ((far : Nat) : Int))), ia aX cI (NP) (gx)]) [4, 0, 1, 2, 3, 5] rfl
        have hD9 := hD.sub (ws' := [(hN, .inr (2, [.ref hR, .ref hL, .ref hF, .ref aC, .ref aN, .ref aO, .ref aX, .int (vI ((m0 : Nat) : Int))])), (hL, .inr (4, [.int (vI ((way : Nat) : Int)), .int (vI ((win : Nat) : Int)), .int (vI ((least : Nat) : Int)), .int (vI ((cap : Nat) : Int)), .int (vI ((ga : Nat) : Int)), .int (vI ((gb : Nat) : Int)), .int (vI ((lp : Nat) : Int)), .int (vI ((mp : Nat) : Int))])), ia aC cI (NP) ((zU gc i (((mp + zbits far) + C ee : Nat) : Int))), ia aN cI (NP) ((zU gn i ((ee - i : Nat) : Int))), ia aO cI (NP) ((zU go i ((far : Nat) : Int))), ia aX cI (NP) (gx)]) [4, 0, 1, 2, 3, 5] (by decide) rfl
        exact zr_v hx hb hr hlocks (((zU gc i (((mp + zbits far) + C ee : Nat) : Int)), (zU gn i ((ee - i : Nat) : Int)), (zU go i ((far : Nat) : Int)), (mp + zbits far + C ee), (ee - i), far, ee)) ⟨hA_4, by unfold zbt; rw [if_pos (by omega)], ⟨zup_1, zup_1, zup_1⟩⟩ hP9 hD9 hS dX2_consider_91
