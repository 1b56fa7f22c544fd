/-- for each distance a stretch of places whose bytes are those that far before -/
def zMemo (d : Nat → Int) (n NS : Nat) (gS gT : Nat → Int) : Prop := ∀ f : Nat, 1 ≤ f → f < NS → 0 ≤ gS f ∧ gS f ≤ gT f ∧ gT f ≤ n ∧ ∀ i : Nat, gS f ≤ i → (i : Int) < gT f → f ≤ i ∧ d i = d (i - f)
theorem zsame_1 {d : Nat → Int} {pp far k : Nat} (h : ∀ j, pp ≤ j → j < k → d j = d (j - far)) (e : d k = d (k - far)) : ∀ j, pp ≤ j → j < k + 1 → d j = d (j - far) := fun j h1 h2 => by
  rcases Nat.lt_or_ge j k with z | z
  · exact h j h1 z
  · rw [show j = k by omega]; exact e
theorem zsame_2 {d : Nat → Int} {pp far k fs ft : Nat} (h : ∀ j, pp ≤ j → j < k → d j = d (j - far)) (e : k = fs) (h3 : ∀ i, fs ≤ i → i < ft → far ≤ i ∧ d i = d (i - far)) : ∀ j, pp ≤ j → j < ft → d j = d (j - far) := fun j h1 h2 => by
  rcases Nat.lt_or_ge j k with z | z
  · exact h j h1 z
  · exact (h3 j (by omega) h2).2
theorem zsame_k {d : Nat → Int} {pp far k fs ft : Nat} (h0 : far ≤ pp ∧ pp < ft) (h3 : ∀ i, fs ≤ i → i < ft → far ≤ i ∧ d i = d (i - far)) (h : ∀ j, pp ≤ j → j < k → d j = d (j - far)) : ∀ i, fs ≤ i → i < k → far ≤ i ∧ d i = d (i - far) := fun i h1 h2 => by
  rcases Nat.lt_or_ge i ft with z | z
  · exact h3 i h1 z
  · exact ⟨by omega, h i (by omega) h2⟩
theorem zsame_run {d : Nat → Int} {pp far k w : Nat} (hf : far ≤ pp) (h1 : pp ≤ k) (h2 : ∀ j, pp ≤ j → j < k → d j = d (j - far)) (h3 : pp + w ≤ k ∨ ¬ d k = d (k - far)) : zrun d w pp (pp - far) = min k (pp + w) - pp := by
  refine zrun_is (by omega) (fun j hj => ?_) ?_
  · have h4 := h2 (pp + j) (by omega) (by omega)
    rw [h4]
    congr 1
    omega
  · by_cases h5 : pp + w ≤ k
    · exact Or.inl (by omega)
    · refine Or.inr ?_
      rw [show pp + (min k (pp + w) - pp) = k by omega, show pp - far + (min k (pp + w) - pp) = k - far by omega]
      rcases h3 with h | h
      · exact absurd h h5
      · exact h
theorem zmemo_set {d : Nat → Int} {n NS : Nat} {gS gT : Nat → Int} {far : Nat} {a b : Int} (h : zMemo d n NS gS gT) (h0 : 0 ≤ a) (h1 : a ≤ b) (h2 : b ≤ n) (h3 : ∀ i : Nat, a ≤ i → (i : Int) < b → far ≤ i ∧ d i = d (i - far)) : zMemo d n NS (zU gS far a) (zU gT far b) := fun f g1 g2 => by
  by_cases e : f = far
  · rw [e, zU_s, zU_s]; exact ⟨h0, h1, h2, h3⟩
  · rw [zU_n e, zU_n e]; exact h f g1 g2
set_option maxRecDepth 100000 in
set_option maxHeartbeats 4000000 in
theorem s_same {p : Program} {l : Launch} {e : Env} {R : Room} {s : State} {m : MethodId} {args : Array Value} {below : List Frame} {meth : Method} {c : Code} {Q : State → Prop} {A : Nat → Prop} {H0 : Heap} {D : va_G} {cI cB : ClassId} {cells slots : Nat} (hx : p.tables.exec = Jvm.exec) (hb : c.code = cX0_sameBytes) (hts : ∀ w ∈ zALL, w.before args s = true) (hown : s.vm.findClass RX0 = some m.cls) (hml : c.maxLocals = 10) (hK : va_K D vwCl [(cI, .int), (cB, .byte)] s) (hns : zNs s) (hA : ∀ q, H0.size ≤ q → A q) (hRf : 0 ≤ R.frames) (hRl : 0 ≤ R.locals) (hRc : cells ≤ R.cells) (hRs : slots ≤ R.slots) (hF : Nat) (hR : Nat) (hL : Nat) (aL : Nat) (aK : Nat) (aS : Nat) (aT : Nat) (aB : Nat) (lk : Nat) (ll : Nat) (n : Nat) (pa : Nat) (NB : Nat) (NS : Nat) (d : Nat → Int) (plc : Int) (cand : Int) (low : Int) (lim : Int) (beat : Int) (ln : Int) (dist : Int) (gS : Nat → Int) (gT : Nat → Int) (pp : Nat) (far : Nat) (w : Nat) (fs : Nat) (ft : Nat) (kn : Int) (h1 : 1 ≤ far ∧ far ≤ pp ∧ pp + w ≤ n ∧ n ≤ NB ∧ NB ≤ 32768) (h2 : fs ≤ ft ∧ ft ≤ n) (h3 : ∀ i, fs ≤ i → i < ft → far ≤ i ∧ d i = d (i - far)) (hby : ∀ j, -128 ≤ d j ∧ d j < 128)
    (K1 : ∀ (k : Nat) (H : Heap) (locs : List Loc) (ls : Array Slot), (pp ≤ k ∧ k ≤ n) → (∀ j, pp ≤ j → j < k → d j = d (j - far)) → (pp + w ≤ k ∨ ¬ d k = d (k - far)) → va_P D vwCl [(hF, .inr (0, [.ref hR, .ref hL, .ref aL, .ref aK, .int (vI ((lk : Nat) : Int)), .int (vI ((ll : Nat) : Int)), .ref aS, .ref aT, .int (vI (plc)), .int (vI (cand)), .int (vI (low)), .int (vI (lim)), .int (vI (beat)), .int (vI (ln)), .int (vI (dist))])), (hR, .inr (3, [.ref aB, .int (vI ((n : Nat) : Int)), .int (vI ((pa : Nat) : Int))])), ia aB cB (NB) (d), ia aS cI (NS) (gS), ia aT cI (NS) (gT)] H → va_D A [(hF, .inr (0, [.ref hR, .ref hL, .ref aL, .ref aK, .int (vI ((lk : Nat) : Int)), .int (vI ((ll : Nat) : Int)), .ref aS, .ref aT, .int (vI (plc)), .int (vI (cand)), .int (vI (low)), .int (vI (lim)), .int (vI (beat)), .int (vI (ln)), .int (vI (dist))])), (hR, .inr (3, [.ref aB, .int (vI ((n : Nat) : Int)), .int (vI ((pa : Nat) : Int))])), ia aB cB (NB) (d), ia aS cI (NS) (gS), ia aT cI (NS) (gT)] → va_S A H0 H locs → lv_has ls 10 [(0, .ref hF), (1, .int (vI ((pp : Nat) : Int))), (2, .int (vI ((far : Nat) : Int))), (3, .int (vI ((w : Nat) : Int))), (4, .ref aB), (5, .int (vI ((pp + w : Nat) : Int))), (6, .int (vI ((fs : Nat) : Int))), (7, .int (vI ((ft : Nat) : Int))), (8, .int (vI (kn))), (9, .int (vI ((k : Nat) : Int)))] → W p l e R s m args below meth c H locs cells slots Q (F0 m 101 ls []))
    : ∀ (fuel : Nat), ∀ (k : Nat) (_ : pp + w - k < fuel) (H : Heap) (locs : List Loc) (ls : Array Slot), (pp ≤ k ∧ k ≤ n) → (∀ j, pp ≤ j → j < k → d j = d (j - far)) → va_P D vwCl [(hF, .inr (0, [.ref hR, .ref hL, .ref aL, .ref aK, .int (vI ((lk : Nat) : Int)), .int (vI ((ll : Nat) : Int)), .ref aS, .ref aT, .int (vI (plc)), .int (vI (cand)), .int (vI (low)), .int (vI (lim)), .int (vI (beat)), .int (vI (ln)), .int (vI (dist))])), (hR, .inr (3, [.ref aB, .int (vI ((n : Nat) : Int)), .int (vI ((pa : Nat) : Int))])), ia aB cB (NB) (d), ia aS cI (NS) (gS), ia aT cI (NS) (gT)] H → va_D A [(hF, .inr (0, [.ref hR, .ref hL, .ref aL, .ref aK, .int (vI ((lk : Nat) : Int)), .int (vI ((ll : Nat) : Int)), .ref aS, .ref aT, .int (vI (plc)), .int (vI (cand)), .int (vI (low)), .int (vI (lim)), .int (vI (beat)), .int (vI (ln)), .int (vI (dist))])), (hR, .inr (3, [.ref aB, .int (vI ((n : Nat) : Int)), .int (vI ((pa : Nat) : Int))])), ia aB cB (NB) (d), ia aS cI (NS) (gS), ia aT cI (NS) (gT)] → va_S A H0 H locs → lv_has ls 10 [(0, .ref hF), (1, .int (vI ((pp : Nat) : Int))), (2, .int (vI ((far : Nat) : Int))), (3, .int (vI ((w : Nat) : Int))), (4, .ref aB), (5, .int (vI ((pp + w : Nat) : Int))), (6, .int (vI ((fs : Nat) : Int))), (7, .int (vI ((ft : Nat) : Int))), (8, .int (vI (kn))), (9, .int (vI ((k : Nat) : Int)))] → W p l e R s m args below meth c H locs cells slots Q (F0 m 62 ls []) := by
  intro fuel
  induction fuel with
  | zero =>
    intro k hfuel
    exact absurd hfuel (Nat.not_lt_zero _)
  | succ fuel ih =>
    intro k hfuel H locs ls hk hd hP hD hS hl
    refine lv_iload hx hb dX0_sameBytes_62 (lv_at hl 9 rfl) ?_
    refine lv_iload hx hb dX0_sameBytes_64 (lv_at hl 5 rfl) ?_
    refine zw_icmp_ge (tgt := 101) hx hb dX0_sameBytes_66 (by decide) ⟨by omega, by omega⟩ ⟨by omega, by omega⟩ (fun c_66 => ?_) (fun c_66 => ?_)
    · exact K1 k _ _ _ (by omega) (hd) (Or.inl (by omega)) (hP.sub [0, 1, 2, 3, 4] rfl) (hD.sub [0, 1, 2, 3, 4] (by decide) rfl) hS (lv_sub hl [0, 1, 2, 3, 4, 5, 6, 7, 8, 9] rfl)
    · refine lv_aload hx hb dX0_sameBytes_69 (lv_at hl 4 rfl) ?_
      refine lv_iload hx hb dX0_sameBytes_71 (lv_at hl 9 rfl) ?_
      refine zw_bald hx hb hK hP 2 1 rfl rfl (k) (by omega) (by omega) (by omega) dX0_sameBytes_73 ?_
      refine lv_aload hx hb dX0_sameBytes_74 (lv_at hl 4 rfl) ?_
      refine lv_iload hx hb dX0_sameBytes_76 (lv_at hl 9 rfl) ?_
      refine lv_iload_n hx hb dX0_sameBytes_78 rfl (lv_at hl 2 rfl) ?_
      refine zw_isub hx hb dX0_sameBytes_79 ?_
      refine zw_to (z2 := ((k - far : Nat) : Int)) (by omega) ?_
      refine zw_bald hx hb hK hP 2 1 rfl rfl (k - far) (by omega) (by omega) (by omega) dX0_sameBytes_80 ?_
      have hq1 := hby k
      have hq2 := hby (k - far)
      refine zw_icmp_ne (tgt := 101) hx hb dX0_sameBytes_81 (by decide) ⟨by omega, by omega⟩ ⟨by omega, by omega⟩ (fun c_81 => ?_) (fun c_81 => ?_)
      · exact K1 k _ _ _ (by omega) (hd) (Or.inr c_81) (hP.sub [0, 1, 2, 3, 4] rfl) (hD.sub [0, 1, 2, 3, 4] (by decide) rfl) hS (lv_sub hl [0, 1, 2, 3, 4, 5, 6, 7, 8, 9] rfl)
      · refine lv_iinc (v := vI ((k + 1 : Nat) : Int)) (lv' := [(9, .int (vI ((k + 1 : Nat) : Int))), (0, .ref hF), (1, .int (vI ((pp : Nat) : Int))), (2, .int (vI ((far : Nat) : Int))), (3, .int (vI ((w : Nat) : Int))), (4, .ref aB), (5, .int (vI ((pp + w : Nat) : Int))), (6, .int (vI ((fs : Nat) : Int))), (7, .int (vI ((ft : Nat) : Int))), (8, .int (vI (kn)))]) hx hb dX0_sameBytes_84 hl (k := 9) rfl ((vI_add _ _).trans (congrArg vI (by omega))) (by decide) rfl (fun ls hl => ?_)
        refine lv_iload hx hb dX0_sameBytes_87 (lv_at hl 0 rfl) ?_
        refine lv_iload hx hb dX0_sameBytes_89 (lv_at hl 7 rfl) ?_
        refine zw_icmp_ne (tgt := 62) hx hb dX0_sameBytes_91 (by decide) ⟨by omega, by omega⟩ ⟨by omega, by omega⟩ (fun c_91 => ?_) (fun c_91 => ?_)
        · exact ih (k + 1) (by omega) _ _ _ (by omega) (zsame_1 hd c_81) (hP.sub [0, 1, 2, 3, 4] rfl) (hD.sub [0, 1, 2, 3, 4] (by decide) rfl) hS (lv_sub hl [1, 2, 3, 4, 5, 6, 7, 8, 9, 0] rfl)
        · refine lv_iload hx hb dX0_sameBytes_94 (lv_at hl 8 rfl) ?_
          refine lv_istore (lv' := [(9, .int (vI ((ft : Nat) : Int))), (0, .ref hF), (1, .int (vI ((pp : Nat) : Int))), (2, .int (vI ((far : Nat) : Int))), (3, .int (vI ((w : Nat) : Int))), (4, .ref aB), (5, .int (vI ((pp + w : Nat) : Int))), (6, .int (vI ((fs : Nat) : Int))), (7, .int (vI ((ft : Nat) : Int))), (8, .int (vI (kn)))]) hx hb dX0_sameBytes_96 hl (by decide) rfl (fun ls hl => ?_)
          refine lv_goto (tgt := 62) hx hb dX0_sameBytes_98 (by decide) ?_
          exact ih ft (by omega) _ _ _ (by omega) (zsame_2 (zsame_1 hd c_81) (by omega) h3) (hP.sub [0, 1, 2, 3, 4] rfl) (hD.sub [0, 1, 2, 3, 4] (by decide) rfl) hS (lv_sub hl [1, 2, 3, 4, 5, 6, 7, 8, 9, 0] rfl)

set_option maxRecDepth 100000 in
set_option maxHeartbeats 4000000 in
theorem c_X0_sameBytes (l : Launch) (D : va_G) (cI cB : ClassId) (sz : Nat) (hF : Nat) (hR : Nat) (hL : Nat) (aL : Nat) (aK : Nat) (aS : Nat) (aT : Nat) (aB : Nat) (lk : Nat) (ll : Nat) (n : Nat) (pa : Nat) (NB : Nat) (NS : Nat) (d : Nat → Int) (plc : Int) (cand : Int) (low : Int) (lim : Int) (beat : Int) (ln : Int) (dist : Int) (gS : Nat → Int) (gT : Nat → Int) (pp : Nat) (far : Nat) (w : Nat) (h1 : 1 ≤ far ∧ far ≤ pp ∧ pp + w ≤ n ∧ far < NS ∧ n ≤ NB ∧ NB ≤ 32768 ∧ n ≤ NS ∧ NS ≤ 32768) (hM : zMemo d n NS gS gT) (hby : ∀ j, -128 ≤ d j ∧ d j < 128) : Met l yX0_sameBytes wsX0_sameBytes ({ frames := 1, cells := 0, slots := 0, locals := 21 } : Room) (va_Pc [.ref hF, .int (vI ((pp : Nat) : Int)), .int (vI ((far : Nat) : Int)), .int (vI ((w : Nat) : Int))] (zPre D vwCl [(cI, .int), (cB, .byte)] [(hF, .inr (0, [.ref hR, .ref hL, .ref aL, .ref aK, .int (vI ((lk : Nat) : Int)), .int (vI ((ll : Nat) : Int)), .ref aS, .ref aT, .int (vI (plc)), .int (vI (cand)), .int (vI (low)), .int (vI (lim)), .int (vI (beat)), .int (vI (ln)), .int (vI (dist))])), (hR, .inr (3, [.ref aB, .int (vI ((n : Nat) : Int)), .int (vI ((pa : Nat) : Int))])), ia aB cB (NB) (d), ia aS cI (NS) (gS), ia aT cI (NS) (gT)] sz)) (va_Qi (S := (Nat → Int) × (Nat → Int)) (fun (r : Int32) => fun u => match u with | (gS2, gT2) => (r = vI ((zrun d w pp (pp - far) : Nat) : Int)) ∧ (zMemo d n NS gS2 gT2)) (fun (u : (Nat → Int) × (Nat → Int)) t => zB D vwCl (va_A [(hF, .inr (0, [.ref hR, .ref hL, .ref aL, .ref aK, .int (vI ((lk : Nat) : Int)), .int (vI ((ll : Nat) : Int)), .ref aS, .ref aT, .int (vI (plc)), .int (vI (cand)), .int (vI (low)), .int (vI (lim)), .int (vI (beat)), .int (vI (ln)), .int (vI (dist))])), (hR, .inr (3, [.ref aB, .int (vI ((n : Nat) : Int)), .int (vI ((pa : Nat) : Int))])), ia aB cB (NB) (d), ia aS cI (NS) (gS), ia aT cI (NS) (gT)] sz) ((fun u => match u with | (gS2, gT2) => [(hF, .inr (0, [.ref hR, .ref hL, .ref aL, .ref aK, .int (vI ((lk : Nat) : Int)), .int (vI ((ll : Nat) : Int)), .ref aS, .ref aT, .int (vI (plc)), .int (vI (cand)), .int (vI (low)), .int (vI (lim)), .int (vI (beat)), .int (vI (ln)), .int (vI (dist))])), (hR, .inr (3, [.ref aB, .int (vI ((n : Nat) : Int)), .int (vI ((pa : Nat) : Int))])), ia aB cB (NB) (d), ia aS cI (NS) (gS2), ia aT cI (NS) (gT2)] : (Nat → Int) × (Nat → Int) → va_W) u) t) (va_A [(hF, .inr (0, [.ref hR, .ref hL, .ref aL, .ref aK, .int (vI ((lk : Nat) : Int)), .int (vI ((ll : Nat) : Int)), .ref aS, .ref aT, .int (vI (plc)), .int (vI (cand)), .int (vI (low)), .int (vI (lim)), .int (vI (beat)), .int (vI (ln)), .int (vI (dist))])), (hR, .inr (3, [.ref aB, .int (vI ((n : Nat) : Int)), .int (vI ((pa : Nat) : Int))])), ia aB cB (NB) (d), ia aS cI (NS) (gS), ia aT cI (NS) (gT)] sz)) (0) (0) (va_A [(hF, .inr (0, [.ref hR, .ref hL, .ref aL, .ref aK, .int (vI ((lk : Nat) : Int)), .int (vI ((ll : Nat) : Int)), .ref aS, .ref aT, .int (vI (plc)), .int (vI (cand)), .int (vI (low)), .int (vI (lim)), .int (vI (beat)), .int (vI (ln)), .int (vI (dist))])), (hR, .inr (3, [.ref aB, .int (vI ((n : Nat) : Int)), .int (vI ((pa : Nat) : Int))])), ia aB cB (NB) (d), ia aS cI (NS) (gS), ia aT cI (NS) (gT)] sz) := by
  refine zMet (by decide) rfl (Nat.le_of_ble_eq_true rfl) (fun p e s m below meth c hx hb hr hts hown hlocks hnm hml hK hns hA hP hD hS ls hl => ?_)
  have hl : lv_has ls 10 [(0, .ref hF), (1, .int (vI ((pp : Nat) : Int))), (2, .int (vI ((far : Nat) : Int))), (3, .int (vI ((w : Nat) : Int)))] := hl
  have hRf : 1 ≤ ({ frames := 1, cells := 0, slots := 0, locals := 21 } : Room).frames := Nat.le_refl _
  have hRl : 21 ≤ ({ frames := 1, cells := 0, slots := 0, locals := 21 } : Room).locals := Nat.le_refl _
  have hRc : 0 ≤ ({ frames := 1, cells := 0, slots := 0, locals := 21 } : Room).cells := Nat.zero_le _
  have hRs : 0 ≤ ({ frames := 1, cells := 0, slots := 0, locals := 21 } : Room).slots := Nat.zero_le _
  obtain ⟨m1, m2, m3, m4⟩ := hM far (by omega) (by omega)
  obtain ⟨fs, hfs⟩ : ∃ k : Nat, gS far = (k : Int) := ⟨(gS far).toNat, by omega⟩
  obtain ⟨ft, hft⟩ : ∃ k : Nat, gT far = (k : Int) := ⟨(gT far).toNat, by omega⟩
  have m5 : ∀ i, fs ≤ i → i < ft → far ≤ i ∧ d i = d (i - far) := fun i a1 a2 => m4 i (by omega) (by omega)
  refine lv_aload_n hx hb dX0_sameBytes_0 rfl (lv_at hl 0 rfl) ?_
  refine va_get (D := D) (ci := 0) (v := .ref hR) (C := RX0) (T := TX0) (N := 15) hx hb hts iwX0 hown hK hP 0 rfl rfl 0 (by decide) (hts _ aw_100) (fun _ h9 => h9) rfl dX0_sameBytes_1 ?_
  refine va_getN (D := D) (ci := 3) (v := .ref aB) (C := RX3) (T := TX3) (N := 3) hx hb hts iwX3 hown hK hP 1 rfl rfl 0 (by decide) (va_Nw.use rfl (hns _ nw_27)) (fun _ h9 => h9) rfl dX0_sameBytes_4 ?_
  refine lv_astore (lv' := [(4, .ref aB), (0, .ref hF), (1, .int (vI ((pp : Nat) : Int))), (2, .int (vI ((far : Nat) : Int))), (3, .int (vI ((w : Nat) : Int)))]) hx hb dX0_sameBytes_7 hl (by decide) rfl (fun ls hl => ?_)
  refine lv_iload_n hx hb dX0_sameBytes_9 rfl (lv_at hl 2 rfl) ?_
  refine lv_iload_n hx hb dX0_sameBytes_10 rfl (lv_at hl 4 rfl) ?_
  refine zw_iadd hx hb dX0_sameBytes_11 ?_
  refine zw_to (z2 := ((pp + w : Nat) : Int)) (by omega) ?_
  refine lv_istore (lv' := [(5, .int (vI ((pp + w : Nat) : Int))), (4, .ref aB), (0, .ref hF), (1, .int (vI ((pp : Nat) : Int))), (2, .int (vI ((far : Nat) : Int))), (3, .int (vI ((w : Nat) : Int)))]) hx hb dX0_sameBytes_12 hl (by decide) rfl (fun ls hl => ?_)
  refine lv_aload_n hx hb dX0_sameBytes_14 rfl (lv_at hl 2 rfl) ?_
  refine va_get (D := D) (ci := 0) (v := .ref aS) (C := RX0) (T := TX0) (N := 15) hx hb hts iwX0 hown hK hP 0 rfl rfl 6 (by decide) (hts _ aw_106) (fun _ h9 => h9) rfl dX0_sameBytes_15 ?_
  refine lv_iload_n hx hb dX0_sameBytes_18 rfl (lv_at hl 4 rfl) ?_
  refine zw_iald hx hb hK hP 3 0 rfl rfl (far) (by omega) (by omega) (by omega) dX0_sameBytes_19 ?_
  refine zw_to (z2 := ((fs : Nat) : Int)) (hfs) ?_
  refine lv_istore (lv' := [(6, .int (vI ((fs : Nat) : Int))), (5, .int (vI ((pp + w : Nat) : Int))), (4, .ref aB), (0, .ref hF), (1, .int (vI ((pp : Nat) : Int))), (2, .int (vI ((far : Nat) : Int))), (3, .int (vI ((w : Nat) : Int)))]) hx hb dX0_sameBytes_20 hl (by decide) rfl (fun ls hl => ?_)
  refine lv_aload_n hx hb dX0_sameBytes_22 rfl (lv_at hl 3 rfl) ?_
  refine va_get (D := D) (ci := 0) (v := .ref aT) (C := RX0) (T := TX0) (N := 15) hx hb hts iwX0 hown hK hP 0 rfl rfl 7 (by decide) (hts _ aw_107) (fun _ h9 => h9) rfl dX0_sameBytes_23 ?_
  refine lv_iload_n hx hb dX0_sameBytes_26 rfl (lv_at hl 5 rfl) ?_
  refine zw_iald hx hb hK hP 4 0 rfl rfl (far) (by omega) (by omega) (by omega) dX0_sameBytes_27 ?_
  refine zw_to (z2 := ((ft : Nat) : Int)) (hft) ?_
  refine lv_istore (lv' := [(7, .int (vI ((ft : Nat) : Int))), (6, .int (vI ((fs : Nat) : Int))), (5, .int (vI ((pp + w : Nat) : Int))), (4, .ref aB), (0, .ref hF), (1, .int (vI ((pp : Nat) : Int))), (2, .int (vI ((far : Nat) : Int))), (3, .int (vI ((w : Nat) : Int)))]) hx hb dX0_sameBytes_28 hl (by decide) rfl (fun ls hl => ?_)
  refine lv_iload hx hb dX0_sameBytes_30 (lv_at hl 1 rfl) ?_
  refine lv_iload_n hx hb dX0_sameBytes_32 rfl (lv_at hl 5 rfl) ?_
  refine zw_icmp_gt (tgt := 46) hx hb dX0_sameBytes_33 (by decide) ⟨by omega, by omega⟩ ⟨by omega, by omega⟩ (fun c_33 => ?_) (fun c_33 => ?_)
  · refine zw_iconst hx hb dX0_sameBytes_46 ?_
    refine lv_istore (lv' := [(8, .int (vI (0))), (7, .int (vI ((ft : Nat) : Int))), (6, .int (vI ((fs : Nat) : Int))), (5, .int (vI ((pp + w : Nat) : Int))), (4, .ref aB), (0, .ref hF), (1, .int (vI ((pp : Nat) : Int))), (2, .int (vI ((far : Nat) : Int))), (3, .int (vI ((w : Nat) : Int)))]) hx hb dX0_sameBytes_47 hl (by decide) rfl (fun ls hl => ?_)
    refine lv_iload hx hb dX0_sameBytes_49 (lv_at hl 0 rfl) ?_
    refine zw_if_eq (tgt := 59) hx hb dX0_sameBytes_51 (by decide) ⟨by omega, by omega⟩ (fun c_51 => ?_) (fun c_51 => False.elim (by omega))
    refine lv_iload_n hx hb dX0_sameBytes_59 rfl (lv_at hl 6 rfl) ?_
    refine lv_istore (lv' := [(9, .int (vI ((pp : Nat) : Int))), (8, .int (vI (0))), (7, .int (vI ((ft : Nat) : Int))), (6, .int (vI ((fs : Nat) : Int))), (5, .int (vI ((pp + w : Nat) : Int))), (4, .ref aB), (0, .ref hF), (1, .int (vI ((pp : Nat) : Int))), (2, .int (vI ((far : Nat) : Int))), (3, .int (vI ((w : Nat) : Int)))]) hx hb dX0_sameBytes_60 hl (by decide) rfl (fun ls hl => ?_)
    refine s_same hx hb hts hown hml hK hns hA (Nat.le_trans (Nat.le_of_ble_eq_true rfl) hRf) (Nat.le_trans (Nat.le_of_ble_eq_true rfl) hRl) hRc hRs hF hR hL aL aK aS aT aB lk ll n pa NB NS d plc cand low lim beat ln dist gS gT pp far w fs ft 0 (by omega) (by omega) (m5) (hby) (fun k H locs ls hk hd he hP hD hS hl => ?_) (pp + w - pp + 1) pp (Nat.lt_succ_self _) _ _ _ (by omega) (fun j a1 a2 => (m5 j (by omega) (by omega)).2) (hP.sub [0, 1, 2, 3, 4] rfl) (hD.sub [0, 1, 2, 3, 4] (by decide) rfl) hS (lv_sub hl [6, 7, 8, 9, 5, 4, 3, 2, 1, 0] rfl)
    refine lv_aload_n hx hb dX0_sameBytes_101 rfl (lv_at hl 0 rfl) ?_
    refine va_get (D := D) (ci := 0) (v := .ref aS) (C := RX0) (T := TX0) (N := 15) hx hb hts iwX0 hown hK hP 0 rfl rfl 6 (by decide) (hts _ aw_106) (fun _ h9 => h9) rfl dX0_sameBytes_102 ?_
    refine lv_iload_n hx hb dX0_sameBytes_105 rfl (lv_at hl 2 rfl) ?_
    refine lv_iload hx hb dX0_sameBytes_106 (lv_at hl 8 rfl) ?_
    refine zw_if_eq (tgt := 116) hx hb dX0_sameBytes_108 (by decide) ⟨by omega, by omega⟩ (fun c_108 => ?_) (fun c_108 => False.elim (by omega))
    refine lv_iload_n hx hb dX0_sameBytes_116 rfl (lv_at hl 1 rfl) ?_
    refine zw_iast hx hb hK hP hD hS 3 0 rfl rfl (far) (by omega) (by omega) (by omega) dX0_sameBytes_117 (fun H locs hP hD hS => ?_)
    have hP : va_P D vwCl [(hF, .inr (0, [.ref hR, .ref hL, .ref aL, .ref aK, .int (vI ((lk : Nat) : Int)), .int (vI ((ll : Nat) : Int)), .ref aS, .ref aT, .int (vI (plc)), .int (vI (cand)), .int (vI (low)), .int (vI (lim)), .int (vI (beat)), .int (vI (ln)), .int (vI (dist))])), (hR, .inr (3, [.ref aB, .int (vI ((n : Nat) : Int)), .int (vI ((pa : Nat) : Int))])), ia aB cB (NB) (d), ia aS cI (NS) (zU gS far ((pp : Nat) : Int)), ia aT cI (NS) (gT)] H := hP
    have hD : va_D _ [(hF, .inr (0, [.ref hR, .ref hL, .ref aL, .ref aK, .int (vI ((lk : Nat) : Int)), .int (vI ((ll : Nat) : Int)), .ref aS, .ref aT, .int (vI (plc)), .int (vI (cand)), .int (vI (low)), .int (vI (lim)), .int (vI (beat)), .int (vI (ln)), .int (vI (dist))])), (hR, .inr (3, [.ref aB, .int (vI ((n : Nat) : Int)), .int (vI ((pa : Nat) : Int))])), ia aB cB (NB) (d), ia aS cI (NS) (zU gS far ((pp : Nat) : Int)), ia aT cI (NS) (gT)] := hD
    refine lv_aload_n hx hb dX0_sameBytes_118 rfl (lv_at hl 0 rfl) ?_
    refine va_get (D := D) (ci := 0) (v := .ref aT) (C := RX0) (T := TX0) (N := 15) hx hb hts iwX0 hown hK hP 0 rfl rfl 7 (by decide) (hts _ aw_107) (fun _ h9 => h9) rfl dX0_sameBytes_119 ?_
    refine lv_iload_n hx hb dX0_sameBytes_122 rfl (lv_at hl 2 rfl) ?_
    refine lv_iload hx hb dX0_sameBytes_123 (lv_at hl 9 rfl) ?_
    refine zw_iast hx hb hK hP hD hS 4 0 rfl rfl (far) (by omega) (by omega) (by omega) dX0_sameBytes_125 (fun H locs hP hD hS => ?_)
    have hP : va_P D vwCl [(hF, .inr (0, [.ref hR, .ref hL, .ref aL, .ref aK, .int (vI ((lk : Nat) : Int)), .int (vI ((ll : Nat) : Int)), .ref aS, .ref aT, .int (vI (plc)), .int (vI (cand)), .int (vI (low)), .int (vI (lim)), .int (vI (beat)), .int (vI (ln)), .int (vI (dist))])), (hR, .inr (3, [.ref aB, .int (vI ((n : Nat) : Int)), .int (vI ((pa : Nat) : Int))])), ia aB cB (NB) (d), ia aS cI (NS) (zU gS far ((pp : Nat) : Int)), ia aT cI (NS) (zU gT far ((k : Nat) : Int))] H := hP
    have hD : va_D _ [(hF, .inr (0, [.ref hR, .ref hL, .ref aL, .ref aK, .int (vI ((lk : Nat) : Int)), .int (vI ((ll : Nat) : Int)), .ref aS, .ref aT, .int (vI (plc)), .int (vI (cand)), .int (vI (low)), .int (vI (lim)), .int (vI (beat)), .int (vI (ln)), .int (vI (dist))])), (hR, .inr (3, [.ref aB, .int (vI ((n : Nat) : Int)), .int (vI ((pa : Nat) : Int))])), ia aB cB (NB) (d), ia aS cI (NS) (zU gS far ((pp : Nat) : Int)), ia aT cI (NS) (zU gT far ((k : Nat) : Int))] := hD
    refine lv_iload hx hb dX0_sameBytes_126 (lv_at hl 9 rfl) ?_
    refine lv_iload hx hb dX0_sameBytes_128 (lv_at hl 5 rfl) ?_
    refine va_mmin hx hb (hml.trans hl.1.symm) hown (hts _ aw_385) (hts _ aw_316) (hts _ aw_9) (hts _ aw_317) (Nat.le_trans (Nat.le_of_ble_eq_true rfl) hRf) (Nat.le_trans (Nat.le_of_ble_eq_true rfl) hRl) hRc hRs dX0_sameBytes_130 ?_
    refine zw_as (vI_min ⟨by omega, by omega⟩ ⟨by omega, by omega⟩) ?_
    refine lv_iload_n hx hb dX0_sameBytes_133 rfl (lv_at hl 1 rfl) ?_
    refine zw_isub hx hb dX0_sameBytes_134 ?_
    refine zw_to (z2 := ((zrun d w pp (pp - far) : Nat) : Int)) (by rw [zsame_run (by omega) hk.1 hd he]; omega) ?_
    exact zr_i hx hb hr hlocks ((zU gS far ((pp : Nat) : Int), zU gT far ((k : Nat) : Int))) ⟨rfl, zmemo_set hM (by omega) (by omega) (by omega) (fun i a1 a2 => ⟨by omega, hd i (by omega) (by omega)⟩)⟩ hP hD hS dX0_sameBytes_135
  · refine lv_iload_n hx hb dX0_sameBytes_36 rfl (lv_at hl 5 rfl) ?_
    refine lv_iload hx hb dX0_sameBytes_37 (lv_at hl 0 rfl) ?_
    refine zw_icmp_ge (tgt := 46) hx hb dX0_sameBytes_39 (by decide) ⟨by omega, by omega⟩ ⟨by omega, by omega⟩ (fun c_39 => ?_) (fun c_39 => ?_)
    · refine zw_iconst hx hb dX0_sameBytes_46 ?_
      refine lv_istore (lv' := [(8, .int (vI (0))), (7, .int (vI ((ft : Nat) : Int))), (6, .int (vI ((fs : Nat) : Int))), (5, .int (vI ((pp + w : Nat) : Int))), (4, .ref aB), (0, .ref hF), (1, .int (vI ((pp : Nat) : Int))), (2, .int (vI ((far : Nat) : Int))), (3, .int (vI ((w : Nat) : Int)))]) hx hb dX0_sameBytes_47 hl (by decide) rfl (fun ls hl => ?_)
      refine lv_iload hx hb dX0_sameBytes_49 (lv_at hl 0 rfl) ?_
      refine zw_if_eq (tgt := 59) hx hb dX0_sameBytes_51 (by decide) ⟨by omega, by omega⟩ (fun c_51 => ?_) (fun c_51 => False.elim (by omega))
      refine lv_iload_n hx hb dX0_sameBytes_59 rfl (lv_at hl 6 rfl) ?_
      refine lv_istore (lv' := [(9, .int (vI ((pp : Nat) : Int))), (8, .int (vI (0))), (7, .int (vI ((ft : Nat) : Int))), (6, .int (vI ((fs : Nat) : Int))), (5, .int (vI ((pp + w : Nat) : Int))), (4, .ref aB), (0, .ref hF), (1, .int (vI ((pp : Nat) : Int))), (2, .int (vI ((far : Nat) : Int))), (3, .int (vI ((w : Nat) : Int)))]) hx hb dX0_sameBytes_60 hl (by decide) rfl (fun ls hl => ?_)
      refine s_same hx hb hts hown hml hK hns hA (Nat.le_trans (Nat.le_of_ble_eq_true rfl) hRf) (Nat.le_trans (Nat.le_of_ble_eq_true rfl) hRl) hRc hRs hF hR hL aL aK aS aT aB lk ll n pa NB NS d plc cand low lim beat ln dist gS gT pp far w fs ft 0 (by omega) (by omega) (m5) (hby) (fun k H locs ls hk hd he hP hD hS hl => ?_) (pp + w - pp + 1) pp (Nat.lt_succ_self _) _ _ _ (by omega) (fun j a1 a2 => (m5 j (by omega) (by omega)).2) (hP.sub [0, 1, 2, 3, 4] rfl) (hD.sub [0, 1, 2, 3, 4] (by decide) rfl) hS (lv_sub hl [6, 7, 8, 9, 5, 4, 3, 2, 1, 0] rfl)
      refine lv_aload_n hx hb dX0_sameBytes_101 rfl (lv_at hl 0 rfl) ?_
      refine va_get (D := D) (ci := 0) (v := .ref aS) (C := RX0) (T := TX0) (N := 15) hx hb hts iwX0 hown hK hP 0 rfl rfl 6 (by decide) (hts _ aw_106) (fun _ h9 => h9) rfl dX0_sameBytes_102 ?_
      refine lv_iload_n hx hb dX0_sameBytes_105 rfl (lv_at hl 2 rfl) ?_
      refine lv_iload hx hb dX0_sameBytes_106 (lv_at hl 8 rfl) ?_
      refine zw_if_eq (tgt := 116) hx hb dX0_sameBytes_108 (by decide) ⟨by omega, by omega⟩ (fun c_108 => ?_) (fun c_108 => False.elim (by omega))
      refine lv_iload_n hx hb dX0_sameBytes_116 rfl (lv_at hl 1 rfl) ?_
      refine zw_iast hx hb hK hP hD hS 3 0 rfl rfl (far) (by omega) (by omega) (by omega) dX0_sameBytes_117 (fun H locs hP hD hS => ?_)
      have hP : va_P D vwCl [(hF, .inr (0, [.ref hR, .ref hL, .ref aL, .ref aK, .int (vI ((lk : Nat) : Int)), .int (vI ((ll : Nat) : Int)), .ref aS, .ref aT, .int (vI (plc)), .int (vI (cand)), .int (vI (low)), .int (vI (lim)), .int (vI (beat)), .int (vI (ln)), .int (vI (dist))])), (hR, .inr (3, [.ref aB, .int (vI ((n : Nat) : Int)), .int (vI ((pa : Nat) : Int))])), ia aB cB (NB) (d), ia aS cI (NS) (zU gS far ((pp : Nat) : Int)), ia aT cI (NS) (gT)] H := hP
      have hD : va_D _ [(hF, .inr (0, [.ref hR, .ref hL, .ref aL, .ref aK, .int (vI ((lk : Nat) : Int)), .int (vI ((ll : Nat) : Int)), .ref aS, .ref aT, .int (vI (plc)), .int (vI (cand)), .int (vI (low)), .int (vI (lim)), .int (vI (beat)), .int (vI (ln)), .int (vI (dist))])), (hR, .inr (3, [.ref aB, .int (vI ((n : Nat) : Int)), .int (vI ((pa : Nat) : Int))])), ia aB cB (NB) (d), ia aS cI (NS) (zU gS far ((pp : Nat) : Int)), ia aT cI (NS) (gT)] := hD
      refine lv_aload_n hx hb dX0_sameBytes_118 rfl (lv_at hl 0 rfl) ?_
      refine va_get (D := D) (ci := 0) (v := .ref aT) (C := RX0) (T := TX0) (N := 15) hx hb hts iwX0 hown hK hP 0 rfl rfl 7 (by decide) (hts _ aw_107) (fun _ h9 => h9) rfl dX0_sameBytes_119 ?_
      refine lv_iload_n hx hb dX0_sameBytes_122 rfl (lv_at hl 2 rfl) ?_
      refine lv_iload hx hb dX0_sameBytes_123 (lv_at hl 9 rfl) ?_
      refine zw_iast hx hb hK hP hD hS 4 0 rfl rfl (far) (by omega) (by omega) (by omega) dX0_sameBytes_125 (fun H locs hP hD hS => ?_)
      have hP : va_P D vwCl [(hF, .inr (0, [.ref hR, .ref hL, .ref aL, .ref aK, .int (vI ((lk : Nat) : Int)), .int (vI ((ll : Nat) : Int)), .ref aS, .ref aT, .int (vI (plc)), .int (vI (cand)), .int (vI (low)), .int (vI (lim)), .int (vI (beat)), .int (vI (ln)), .int (vI (dist))])), (hR, .inr (3, [.ref aB, .int (vI ((n : Nat) : Int)), .int (vI ((pa : Nat) : Int))])), ia aB cB (NB) (d), ia aS cI (NS) (zU gS far ((pp : Nat) : Int)), ia aT cI (NS) (zU gT far ((k : Nat) : Int))] H := hP
      have hD : va_D _ [(hF, .inr (0, [.ref hR, .ref hL, .ref aL, .ref aK, .int (vI ((lk : Nat) : Int)), .int (vI ((ll : Nat) : Int)), .ref aS, .ref aT, .int (vI (plc)), .int (vI (cand)), .int (vI (low)), .int (vI (lim)), .int (vI (beat)), .int (vI (ln)), .int (vI (dist))])), (hR, .inr (3, [.ref aB, .int (vI ((n : Nat) : Int)), .int (vI ((pa : Nat) : Int))])), ia aB cB (NB) (d), ia aS cI (NS) (zU gS far ((pp : Nat) : Int)), ia aT cI (NS) (zU gT far ((k : Nat) : Int))] := hD
      refine lv_iload hx hb dX0_sameBytes_126 (lv_at hl 9 rfl) ?_
      refine lv_iload hx hb dX0_sameBytes_128 (lv_at hl 5 rfl) ?_
      refine va_mmin hx hb (hml.trans hl.1.symm) hown (hts _ aw_385) (hts _ aw_316) (hts _ aw_9) (hts _ aw_317) (Nat.le_trans (Nat.le_of_ble_eq_true rfl) hRf) (Nat.le_trans (Nat.le_of_ble_eq_true rfl) hRl) hRc hRs dX0_sameBytes_130 ?_
      refine zw_as (vI_min ⟨by omega, by omega⟩ ⟨by omega, by omega⟩) ?_
      refine lv_iload_n hx hb dX0_sameBytes_133 rfl (lv_at hl 1 rfl) ?_
      refine zw_isub hx hb dX0_sameBytes_134 ?_
      refine zw_to (z2 := ((zrun d w pp (pp - far) : Nat) : Int)) (by rw [zsame_run (by omega) hk.1 hd he]; omega) ?_
      exact zr_i hx hb hr hlocks ((zU gS far ((pp : Nat) : Int), zU gT far ((k : Nat) : Int))) ⟨rfl, zmemo_set hM (by omega) (by omega) (by omega) (fun i a1 a2 => ⟨by omega, hd i (by omega) (by omega)⟩)⟩ hP hD hS dX0_sameBytes_135
    · refine zw_iconst hx hb dX0_sameBytes_42 ?_
      refine lv_goto (tgt := 47) hx hb dX0_sameBytes_43 (by decide) ?_
      refine lv_istore (lv' := [(8, .int (vI (1))), (7, .int (vI ((ft : Nat) : Int))), (6, .int (vI ((fs : Nat) : Int))), (5, .int (vI ((pp + w : Nat) : Int))), (4, .ref aB), (0, .ref hF), (1, .int (vI ((pp : Nat) : Int))), (2, .int (vI ((far : Nat) : Int))), (3, .int (vI ((w : Nat) : Int)))]) hx hb dX0_sameBytes_47 hl (by decide) rfl (fun ls hl => ?_)
      refine lv_iload hx hb dX0_sameBytes_49 (lv_at hl 0 rfl) ?_
      refine zw_if_eq (tgt := 59) hx hb dX0_sameBytes_51 (by decide) ⟨by omega, by omega⟩ (fun c_51 => False.elim (by omega)) (fun c_51 => ?_)
      refine lv_iload hx hb dX0_sameBytes_54 (lv_at hl 1 rfl) ?_
      refine lv_goto (tgt := 60) hx hb dX0_sameBytes_56 (by decide) ?_
      refine lv_istore (lv' := [(9, .int (vI ((ft : Nat) : Int))), (8, .int (vI (1))), (7, .int (vI ((ft : Nat) : Int))), (6, .int (vI ((fs : Nat) : Int))), (5, .int (vI ((pp + w : Nat) : Int))), (4, .ref aB), (0, .ref hF), (1, .int (vI ((pp : Nat) : Int))), (2, .int (vI ((far : Nat) : Int))), (3, .int (vI ((w : Nat) : Int)))]) hx hb dX0_sameBytes_60 hl (by decide) rfl (fun ls hl => ?_)
      refine s_same hx hb hts hown hml hK hns hA (Nat.le_trans (Nat.le_of_ble_eq_true rfl) hRf) (Nat.le_trans (Nat.le_of_ble_eq_true rfl) hRl) hRc hRs hF hR hL aL aK aS aT aB lk ll n pa NB NS d plc cand low lim beat ln dist gS gT pp far w fs ft 1 (by omega) (by omega) (m5) (hby) (fun k H locs ls hk hd he hP hD hS hl => ?_) (pp + w - ft + 1) ft (Nat.lt_succ_self _) _ _ _ (by omega) (fun j a1 a2 => (m5 j (by omega) (by omega)).2) (hP.sub [0, 1, 2, 3, 4] rfl) (hD.sub [0, 1, 2, 3, 4] (by decide) rfl) hS (lv_sub hl [6, 7, 8, 9, 5, 4, 3, 2, 1, 0] rfl)
      refine lv_aload_n hx hb dX0_sameBytes_101 rfl (lv_at hl 0 rfl) ?_
      refine va_get (D := D) (ci := 0) (v := .ref aS) (C := RX0) (T := TX0) (N := 15) hx hb hts iwX0 hown hK hP 0 rfl rfl 6 (by decide) (hts _ aw_106) (fun _ h9 => h9) rfl dX0_sameBytes_102 ?_
      refine lv_iload_n hx hb dX0_sameBytes_105 rfl (lv_at hl 2 rfl) ?_
      refine lv_iload hx hb dX0_sameBytes_106 (lv_at hl 8 rfl) ?_
      refine zw_if_eq (tgt := 116) hx hb dX0_sameBytes_108 (by decide) ⟨by omega, by omega⟩ (fun c_108 => False.elim (by omega)) (fun c_108 => ?_)
      refine lv_iload hx hb dX0_sameBytes_111 (lv_at hl 6 rfl) ?_
      refine lv_goto (tgt := 117) hx hb dX0_sameBytes_113 (by decide) ?_
      refine zw_iast hx hb hK hP hD hS 3 0 rfl rfl (far) (by omega) (by omega) (by omega) dX0_sameBytes_117 (fun H locs hP hD hS => ?_)
      have hP : va_P D vwCl [(hF, .inr (0, [.ref hR, .ref hL, .ref aL, .ref aK, .int (vI ((lk : Nat) : Int)), .int (vI ((ll : Nat) : Int)), .ref aS, .ref aT, .int (vI (plc)), .int (vI (cand)), .int (vI (low)), .int (vI (lim)), .int (vI (beat)), .int (vI (ln)), .int (vI (dist))])), (hR, .inr (3, [.ref aB, .int (vI ((n : Nat) : Int)), .int (vI ((pa : Nat) : Int))])), ia aB cB (NB) (d), ia aS cI (NS) (zU gS far ((fs : Nat) : Int)), ia aT cI (NS) (gT)] H := hP
      have hD : va_D _ [(hF, .inr (0, [.ref hR, .ref hL, .ref aL, .ref aK, .int (vI ((lk : Nat) : Int)), .int (vI ((ll : Nat) : Int)), .ref aS, .ref aT, .int (vI (plc)), .int (vI (cand)), .int (vI (low)), .int (vI (lim)), .int (vI (beat)), .int (vI (ln)), .int (vI (dist))])), (hR, .inr (3, [.ref aB, .int (vI ((n : Nat) : Int)), .int (vI ((pa : Nat) : Int))])), ia aB cB (NB) (d), ia aS cI (NS) (zU gS far ((fs : Nat) : Int)), ia aT cI (NS) (gT)] := hD
      refine lv_aload_n hx hb dX0_sameBytes_118 rfl (lv_at hl 0 rfl) ?_
      refine va_get (D := D) (ci := 0) (v := .ref aT) (C := RX0) (T := TX0) (N := 15) hx hb hts iwX0 hown hK hP 0 rfl rfl 7 (by decide) (hts _ aw_107) (fun _ h9 => h9) rfl dX0_sameBytes_119 ?_
      refine lv_iload_n hx hb dX0_sameBytes_122 rfl (lv_at hl 2 rfl) ?_
      refine lv_iload hx hb dX0_sameBytes_123 (lv_at hl 9 rfl) ?_
      refine zw_iast hx hb hK hP hD hS 4 0 rfl rfl (far) (by omega) (by omega) (by omega) dX0_sameBytes_125 (fun H locs hP hD hS => ?_)
      have hP : va_P D vwCl [(hF, .inr (0, [.ref hR, .ref hL, .ref aL, .ref aK, .int (vI ((lk : Nat) : Int)), .int (vI ((ll : Nat) : Int)), .ref aS, .ref aT, .int (vI (plc)), .int (vI (cand)), .int (vI (low)), .int (vI (lim)), .int (vI (beat)), .int (vI (ln)), .int (vI (dist))])), (hR, .inr (3, [.ref aB, .int (vI ((n : Nat) : Int)), .int (vI ((pa : Nat) : Int))])), ia aB cB (NB) (d), ia aS cI (NS) (zU gS far ((fs : Nat) : Int)), ia aT cI (NS) (zU gT far ((k : Nat) : Int))] H := hP
      have hD : va_D _ [(hF, .inr (0, [.ref hR, .ref hL, .ref aL, .ref aK, .int (vI ((lk : Nat) : Int)), .int (vI ((ll : Nat) : Int)), .ref aS, .ref aT, .int (vI (plc)), .int (vI (cand)), .int (vI (low)), .int (vI (lim)), .int (vI (beat)), .int (vI (ln)), .int (vI (dist))])), (hR, .inr (3, [.ref aB, .int (vI ((n : Nat) : Int)), .int (vI ((pa : Nat) : Int))])), ia aB cB (NB) (d), ia aS cI (NS) (zU gS far ((fs : Nat) : Int)), ia aT cI (NS) (zU gT far ((k : Nat) : Int))] := hD
      refine lv_iload hx hb dX0_sameBytes_126 (lv_at hl 9 rfl) ?_
      refine lv_iload hx hb dX0_sameBytes_128 (lv_at hl 5 rfl) ?_
      refine va_mmin hx hb (hml.trans hl.1.symm) hown (hts _ aw_385) (hts _ aw_316) (hts _ aw_9) (hts _ aw_317) (Nat.le_trans (Nat.le_of_ble_eq_true rfl) hRf) (Nat.le_trans (Nat.le_of_ble_eq_true rfl) hRl) hRc hRs dX0_sameBytes_130 ?_
      refine zw_as (vI_min ⟨by omega, by omega⟩ ⟨by omega, by omega⟩) ?_
      refine lv_iload_n hx hb dX0_sameBytes_133 rfl (lv_at hl 1 rfl) ?_
      refine zw_isub hx hb dX0_sameBytes_134 ?_
      refine zw_to (z2 := ((zrun d w pp (pp - far) : Nat) : Int)) (by rw [zsame_run (by omega) hk.1 hd he]; omega) ?_
      exact zr_i hx hb hr hlocks ((zU gS far ((fs : Nat) : Int), zU gT far ((k : Nat) : Int))) ⟨rfl, zmemo_set hM (by omega) (by omega) (by omega) (fun i a1 a2 => zsame_k (by omega) m5 hd i (by omega) (by omega))⟩ hP hD hS dX0_sameBytes_135
