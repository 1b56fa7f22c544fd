/-! THE CLAIM OUT OF ONE WALK OF THE LAW'S BODY. Your part is whole_start (and what it stands on); all else here is the same for every law, but numbers. -/
def R_law : String := "MatchSeekerLaw"
def lw_P (b : Addr) (xs : List Int32) (args : Array Value) (s : State) : Prop := args = #[.ref b] ∧ s.IntsAt b xs ∧ xs.length ≤ 2560 ∧ (Jvm.Cond.and given_1 narrow_1).before args s = true
def lw_Q (_ : Array Value) (s : State) (o : Outcome) (t : State) : Prop := o = .returned (some (.int 1)) ∧ Framed s o t [] 600000 7302250
def lw_Z (below : List Frame) (a : Array Value) (s : State) : State → Prop := fun t => ∃ o, t.status = .running ∧ Ended t below o ∧ lw_Q a s o t
/-- the law's own end, with 1 on the stack, nothing written that was there before, its room as the claim has it -/
theorem lw_ret {p : Program} {l : Launch} {e : Env} {s : State} {m : MethodId} {below : List Frame} {meth : Method} {c : Code} {b : Nat} (hx : p.tables.exec = Jvm.exec) (hb : c.code = code) (hr : meth.sig.returnType = ret) (hlocks : meth.locks = false) {pc : Nat} {H : Heap} {ls : Array Slot} (hdg : decode code pc = .ok (.ireturn, 1)) : W p l e room_1 s m #[Value.ref b] below meth c H [] 600000 7302250 (lw_Z below #[Value.ref b] s) (F0 m pc ls [.int 1]) := by
  intro T hT X
  obtain ⟨fs, hret, hrun, hended, hW, hframe⟩ := X.leave (v := some (.int 1)) (hlocks := hlocks) (fun h => by rw [hr] at h; cases h)
  have hmeth' : T.vm.method? m = some meth := X.method'
  refine ⟨T.setFrames fs, ?_, .returned (some (.int 1)), hrun, hended, rfl, ⟨_, rfl⟩, hW, hframe⟩
  jvm_step X.here [X.here.top, hx, hb, hdg, hmeth', hr, ret, narrow_b1]
  (try refine ⟨rfl, ?_⟩); (try refine ⟨rfl, ?_⟩)
  first | (intro acts; rw [hret _ acts rfl rfl rfl]) | rw [hret _ _ rfl rfl rfl]
  exact Steps.refl _
/-- what holds at the law's entry: the machine, the code, the tables' words (any of lw_tbl by 'hts w (by decide +kernel)'), the script of L ints xs at the cell b, what the Statement gives of the start (any of its parts by flat_of_before) -/
def lw_At (p : Program) (s : State) (m : MethodId) (meth : Method) (c : Code) (b L : Nat) (xs : Nat → Int32) : Prop :=
  p.tables.exec = Jvm.exec ∧ c.code = code ∧ meth.sig.returnType = ret ∧ c.maxLocals = 4 ∧ s.vm.findClass R_law = some m.cls ∧ (∀ w ∈ lw_tbl, w.before #[Value.ref b] s = true) ∧ va_X b L xs s s.heap ∧ b < s.heap.size ∧ meth.locks = false ∧ (Jvm.Cond.and given_1 narrow_1).before #[Value.ref b] s = true
set_option maxRecDepth 100000 in
set_option maxHeartbeats 4000000 in
theorem whole_start {p : Program} {e : Env} {s : State} {m : MethodId} {below : List Frame} {meth : Method} {c : Code} (l : Launch) {b L : Nat} {xs : Nat → Int32} (hL : L ≤ 2560) (C0 : lw_At p s m meth c b L xs) : W p l e room_1 s m #[Value.ref b] below meth c s.heap [] 0 0 (lw_Z below #[Value.ref b] s) (entryFrame m ([Value.ref b] : List Value).toArray 4) := by
  have hL9 := hL
  obtain ⟨hx, hb, hr, hml, hown, hts0, hX0, hbl, hlocks, hgv⟩ := C0
  have hts : ∀ w ∈ zALL, w.before #[Value.ref b] s = true := fun w h => hts0 w (zALL_tbl w h)
  have hns : zNs s := fun w h => by
    have h1 := nwL_is w h
    have h2 := hts0 w (nwL_tbl w h)
    cases w <;> first | exact va_Nw.of rfl h2 | (exact absurd h1 (by simp [zIsN]))
  have hown : s.vm.findClass RL = some m.cls := hown
  obtain ⟨cc0, iS0, hKn0⟩ := u_known (C := RX0) (T := TX0) (N := 15) (n := 15) hts iwX0 (hts _ aw_95)
  obtain ⟨cc1, iS1, hKn1⟩ := u_known (C := RX1) (T := TX1) (N := 14) (n := 14) hts iwX1 (hts _ aw_185)
  obtain ⟨cc2, iS2, hKn2⟩ := u_known (C := RX2) (T := TX2) (N := 8) (n := 8) hts iwX2 (hts _ aw_152)
  obtain ⟨cc3, iS3, hKn3⟩ := u_known (C := RX3) (T := TX3) (N := 3) (n := 3) hts iwX3 (hts _ aw_20)
  obtain ⟨cc4, iS4, hKn4⟩ := u_known (C := RX4) (T := TX4) (N := 8) (n := 8) hts iwX4 (hts _ aw_46)
  obtain ⟨cc5, iS5, hKn5⟩ := u_known (C := RX5) (T := TX5) (N := 5) (n := 5) hts iwX5 (hts _ aw_12)
  obtain ⟨cc6, iS6, hKn6⟩ := u_known (C := RX6) (T := TX6) (N := 26) (n := 26) hts iwX6 (hts _ aw_515)
  obtain ⟨dC, dI, hKc⟩ : ∃ (dC : Nat → ClassId) (dI : Nat → Nat → Nat), ∀ (k : Nat) (q : vw_C), vwCl[k]? = some q → u_Kn s q.1 q.2.1 q.2.2 (dC k) (dI k) := by
    refine ⟨fun k => if k = 0 then cc0 else if k = 1 then cc1 else if k = 2 then cc2 else if k = 3 then cc3 else if k = 4 then cc4 else if k = 5 then cc5 else cc6, fun k => if k = 0 then iS0 else if k = 1 then iS1 else if k = 2 then iS2 else if k = 3 then iS3 else if k = 4 then iS4 else if k = 5 then iS5 else iS6, ?_⟩
    intro k q hq
    match k, hq with
    | 0, hq => cases hq; exact hKn0
    | 1, hq => cases hq; exact hKn1
    | 2, hq => cases hq; exact hKn2
    | 3, hq => cases hq; exact hKn3
    | 4, hq => cases hq; exact hKn4
    | 5, hq => cases hq; exact hKn5
    | 6, hq => cases hq; exact hKn6
    | k + 7, hq => simp [vwCl] at hq
  obtain ⟨cI, kI, pI, eI1, eI2, eI3⟩ := Cond.arrayClass_spec (hts _ aw_150)
  obtain ⟨cB, kB, pB, eB1, eB2, eB3⟩ := Cond.arrayClass_spec (hts _ aw_44)
  have hK : va_K (dC, dI) vwCl [(cI, .int), (cB, .byte)] s := by
    refine ⟨hKc, fun k q hq => ?_⟩
    match k, hq with
    | 0, hq => cases hq; exact ⟨fun n z => ⟨fun k h => (by cases h), kI, eI2, pI, eI3⟩, eI1⟩
    | 1, hq => cases hq; exact ⟨fun n z => ⟨fun k h => (by cases h), kB, eB2, pB, eB3⟩, eB1⟩
    | k + 2, hq => simp at hq
  have hA : ∀ q : Nat, s.heap.size ≤ q → (fun q : Nat => s.heap.size ≤ q) q := fun _ h => h
  have hbA : ¬ (fun q : Nat => s.heap.size ≤ q) b := Nat.not_le.mpr hbl
  have hS : va_S (fun q : Nat => s.heap.size ≤ q) s.heap s.heap [] := va_S.rf
  have hP : va_P (dC, dI) vwCl [] s.heap := fun k q h => by simp at h
  have hD : va_D (fun q : Nat => s.heap.size ≤ q) [] := ⟨fun i j p q h => by simp at h, fun k q h => by simp at h⟩
  have hX9 : va_X b L (fun j => vI ((xs j).toInt)) s s.heap := by
    have e9 : (fun j => vI ((xs j).toInt)) = xs := funext (fun j => (vI_of (xs j)).symm)
    rw [e9]; exact hX0
  have hl := lv_entry ([.ref b]) (n := 4) (Nat.le_of_ble_eq_true rfl)
  rw [lg_entry_eq]
  generalize (lg_sl ([.ref b]) ++ List.replicate (4 - (lg_sl ([.ref b])).length) Slot.unset).toArray = ls at hl ⊢
  have hl : lv_has ls 4 [(0, .ref b)] := hl
  generalize hDD : (dC, dI) = D at hP hK
  have hRf : 10 ≤ room_1.frames := Nat.le_of_ble_eq_true rfl
  have hRl : 368 ≤ room_1.locals := Nat.le_of_ble_eq_true rfl
  have hRc : 0 ≤ room_1.cells := Nat.zero_le _
  have hRs : 0 ≤ room_1.slots := Nat.zero_le _
  refine va_new (ci := 5) (fs := [.null, .null, .null, .null, .null]) (C := RX5) (T := TX5) (N := 5) hx hb hts iwX5 tyX5 tyX5_ok hown (hts _ aw_11) (hts _ aw_12) (hts _ aw_1) hK hP hD hS hA rfl (fun j hj => by rcases (show j = 0 ∨ j = 1 ∨ j = 2 ∨ j = 3 ∨ j = 4 by omega) with rfl | rfl | rfl | rfl | rfl <;> rfl) (by show 0 + 1 ≤ 600000; omega) (by show 0 + 5 ≤ 7302250; omega) dL_law_0 (fun hM0 H hP hD hS => ?_)
  have hP : va_P D vwCl [(hM0, .inr (5, [.null, .null, .null, .null, .null]))] H := hP
  have hD : va_D _ [(hM0, .inr (5, [.null, .null, .null, .null, .null]))] := hD
  have hRc : 0 + 1 ≤ ({ frames := 10, cells := 600000, slots := 7302250, locals := 368 } : Room).cells := by show 0 + 1 ≤ 600000; omega
  have hRs : 0 + 5 ≤ ({ frames := 10, cells := 600000, slots := 7302250, locals := 368 } : Room).slots := by show 0 + 5 ≤ 7302250; omega
  refine lv_dup hx hb dL_law_3 rfl ?_
  have hPc := hP.sub (ws' := [(hM0, .inr (5, [.null, .null, .null, .null, .null]))]) [0] rfl
  have hDc := hD.sub (ws' := [(hM0, .inr (5, [.null, .null, .null, .null, .null]))]) [0] (by decide) rfl
  refine zc_v (wr := []) (va_runI (As := []) (rest := [.ref hM0]) ⟨hx, hb, hml, hown, hts⟩ (c_X5_init l D cI cB _ hM0 ) ⟨callB_of 0 hts (zg kX5_init) rfl rfl rfl (hts _ aw_1) (hts _ aw_13) (by decide +kernel) ⟨Nat.le_trans (Nat.le_of_ble_eq_true rfl) hRf, Nat.le_trans (Nat.le_of_ble_eq_true rfl) hRl⟩, rfl, (hts _ aw_14)⟩ ⟨zPre_blind, zPre_of hK hns hPc hDc⟩ rfl rfl hl.1 rfl (lv_room (Nat.le_of_ble_eq_true rfl)) dL_law_4 ⟨by show 0 + 1 + 18 ≤ 600000; omega, by show 0 + 5 + 4656 ≤ 7302250; omega⟩) hP hD hS hA [0] [] rfl rfl (by decide) (by decide) (fun u H locs hpost hP hD hS => ?_)
  obtain ⟨hR, hL, hF, hN, hO, aB, aL, aK, aS, aT, aC, aN, aO, aX, aA, aE, aD, aQ⟩ := u
  have hRc : 0 + 1 + 18 ≤ ({ frames := 10, cells := 600000, slots := 7302250, locals := 368 } : Room).cells := by show 0 + 1 + 18 ≤ 600000; omega
  have hRs : 0 + 5 + 4656 ≤ ({ frames := 10, cells := 600000, slots := 7302250, locals := 368 } : Room).slots := by show 0 + 5 + 4656 ≤ 7302250; omega
  have hP : va_P D vwCl [(hM0, .inr (5, [.ref hR, .ref hL, .ref hF, .ref hN, .ref hO])), (hR, .inr (3, [.ref aB, .int (vI (0)), .int (vI (0))])), ia aB cB (512) (fun _ => 0), (hL, .inr (4, [.int (vI (2)), .int (vI (65536)), .int (vI (4)), .int (vI (131072)), .int (vI (0)), .int (vI (0)), .int (vI (8)), .int (vI (16))])), (hF, .inr (0, [.ref hR, .ref hL, .ref aL, .ref aK, .int (vI (0)), .int (vI (0)), .ref aS, .ref aT, .int (vI (0)), .int (vI (-1)), .int (vI (0)), .int (vI (0)), .int (vI (0)), .int (vI (0)), .int (vI (0))])), ia aL cI (512) (fun _ => 0), ia aK cI (512) (fun _ => 0), ia aS cI (512) (fun _ => 0), ia aT cI (512) (fun _ => 0), (hN, .inr (2, [.ref hR, .ref hL, .ref hF, .ref aC, .ref aN, .ref aO, .ref aX, .int (vI (0))])), ia aC cI (512) (fun _ => 0), ia aN cI (512) (fun _ => 0), ia aO cI (512) (fun _ => 0), ia aX cI (512) (fun _ => 0), (hO, .inr (1, [.ref hR, .ref hL, .ref aA, .ref aE, .ref aD, .int (vI (0)), .int (vI (0)), .int (vI (0)), .int (vI (0)), .int (vI (0)), .int (vI (0)), .int (vI (0)), .int (vI (0)), .ref aQ])), ia aA cI (0) (fun _ => 0), ia aE cI (0) (fun _ => 0), ia aD cI (0) (fun _ => 0), ia aQ cB (0) (fun _ => 0)] H := hP
  have hD : va_D _ [(hM0, .inr (5, [.ref hR, .ref hL, .ref hF, .ref hN, .ref hO])), (hR, .inr (3, [.ref aB, .int (vI (0)), .int (vI (0))])), ia aB cB (512) (fun _ => 0), (hL, .inr (4, [.int (vI (2)), .int (vI (65536)), .int (vI (4)), .int (vI (131072)), .int (vI (0)), .int (vI (0)), .int (vI (8)), .int (vI (16))])), (hF, .inr (0, [.ref hR, .ref hL, .ref aL, .ref aK, .int (vI (0)), .int (vI (0)), .ref aS, .ref aT, .int (vI (0)), .int (vI (-1)), .int (vI (0)), .int (vI (0)), .int (vI (0)), .int (vI (0)), .int (vI (0))])), ia aL cI (512) (fun _ => 0), ia aK cI (512) (fun _ => 0), ia aS cI (512) (fun _ => 0), ia aT cI (512) (fun _ => 0), (hN, .inr (2, [.ref hR, .ref hL, .ref hF, .ref aC, .ref aN, .ref aO, .ref aX, .int (vI (0))])), ia aC cI (512) (fun _ => 0), ia aN cI (512) (fun _ => 0), ia aO cI (512) (fun _ => 0), ia aX cI (512) (fun _ => 0), (hO, .inr (1, [.ref hR, .ref hL, .ref aA, .ref aE, .ref aD, .int (vI (0)), .int (vI (0)), .int (vI (0)), .int (vI (0)), .int (vI (0)), .int (vI (0)), .int (vI (0)), .int (vI (0)), .ref aQ])), ia aA cI (0) (fun _ => 0), ia aE cI (0) (fun _ => 0), ia aD cI (0) (fun _ => 0), ia aQ cB (0) (fun _ => 0)] := hD
  refine lv_astore_n (lv' := [(1, .ref hM0), (0, .ref b)]) hx hb dL_law_7 rfl hl (by decide) rfl (fun ls hl => ?_)
  refine va_new (ci := 6) (fs := [.null, .int (vI (0)), .int (vI (0)), .int (vI (0)), .int (vI (0)), .int (vI (0)), .int (vI (0)), .int (vI (0)), .int (vI (0)), .int (vI (0)), .int (vI (0)), .null, .null, .null, .int (vI (0)), .int (vI (0)), .int (vI (0)), .int (vI (0)), .int (vI (0)), .int (vI (0)), .null, .null, .null, .null, .int (vI (0)), .int (vI (0))]) (C := RX6) (T := TX6) (N := 26) hx hb hts iwX6 tyX6 tyX6_ok hown (hts _ aw_514) (hts _ aw_515) (hts _ aw_7) hK hP hD hS hA rfl (fun j hj => by rcases (show j = 0 ∨ j = 1 ∨ j = 2 ∨ j = 3 ∨ j = 4 ∨ j = 5 ∨ j = 6 ∨ j = 7 ∨ j = 8 ∨ j = 9 ∨ j = 10 ∨ j = 11 ∨ j = 12 ∨ j = 13 ∨ j = 14 ∨ j = 15 ∨ j = 16 ∨ j = 17 ∨ j = 18 ∨ j = 19 ∨ j = 20 ∨ j = 21 ∨ j = 22 ∨ j = 23 ∨ j = 24 ∨ j = 25 by omega) with rfl | rfl | rfl | rfl | rfl | rfl | rfl | rfl | rfl | rfl | rfl | rfl | rfl | rfl | rfl | rfl | rfl | rfl | rfl | rfl | rfl | rfl | rfl | rfl | rfl | rfl <;> rfl) (by show 0 + 1 + 18 + 1 ≤ 600000; omega) (by show 0 + 5 + 4656 + 26 ≤ 7302250; omega) dL_law_8 (fun hX H hP hD hS => ?_)
  have hP : va_P D vwCl [(hM0, .inr (5, [.ref hR, .ref hL, .ref hF, .ref hN, .ref hO])), (hR, .inr (3, [.ref aB, .int (vI (0)), .int (vI (0))])), ia aB cB (512) (fun _ => 0), (hL, .inr (4, [.int (vI (2)), .int (vI (65536)), .int (vI (4)), .int (vI (131072)), .int (vI (0)), .int (vI (0)), .int (vI (8)), .int (vI (16))])), (hF, .inr (0, [.ref hR, .ref hL, .ref aL, .ref aK, .int (vI (0)), .int (vI (0)), .ref aS, .ref aT, .int (vI (0)), .int (vI (-1)), .int (vI (0)), .int (vI (0)), .int (vI (0)), .int (vI (0)), .int (vI (0))])), ia aL cI (512) (fun _ => 0), ia aK cI (512) (fun _ => 0), ia aS cI (512) (fun _ => 0), ia aT cI (512) (fun _ => 0), (hN, .inr (2, [.ref hR, .ref hL, .ref hF, .ref aC, .ref aN, .ref aO, .ref aX, .int (vI (0))])), ia aC cI (512) (fun _ => 0), ia aN cI (512) (fun _ => 0), ia aO cI (512) (fun _ => 0), ia aX cI (512) (fun _ => 0), (hO, .inr (1, [.ref hR, .ref hL, .ref aA, .ref aE, .ref aD, .int (vI (0)), .int (vI (0)), .int (vI (0)), .int (vI (0)), .int (vI (0)), .int (vI (0)), .int (vI (0)), .int (vI (0)), .ref aQ])), ia aA cI (0) (fun _ => 0), ia aE cI (0) (fun _ => 0), ia aD cI (0) (fun _ => 0), ia aQ cB (0) (fun _ => 0), (hX, .inr (6, [.null, .int (vI (0)), .int (vI (0)), .int (vI (0)), .int (vI (0)), .int (vI (0)), .int (vI (0)), .int (vI (0)), .int (vI (0)), .int (vI (0)), .int (vI (0)), .null, .null, .null, .int (vI (0)), .int (vI (0)), .int (vI (0)), .int (vI (0)), .int (vI (0)), .int (vI (0)), .null, .null, .null, .null, .int (vI (0)), .int (vI (0))]))] H := hP
  have hD : va_D _ [(hM0, .inr (5, [.ref hR, .ref hL, .ref hF, .ref hN, .ref hO])), (hR, .inr (3, [.ref aB, .int (vI (0)), .int (vI (0))])), ia aB cB (512) (fun _ => 0), (hL, .inr (4, [.int (vI (2)), .int (vI (65536)), .int (vI (4)), .int (vI (131072)), .int (vI (0)), .int (vI (0)), .int (vI (8)), .int (vI (16))])), (hF, .inr (0, [.ref hR, .ref hL, .ref aL, .ref aK, .int (vI (0)), .int (vI (0)), .ref aS, .ref aT, .int (vI (0)), .int (vI (-1)), .int (vI (0)), .int (vI (0)), .int (vI (0)), .int (vI (0)), .int (vI (0))])), ia aL cI (512) (fun _ => 0), ia aK cI (512) (fun _ => 0), ia aS cI (512) (fun _ => 0), ia aT cI (512) (fun _ => 0), (hN, .inr (2, [.ref hR, .ref hL, .ref hF, .ref aC, .ref aN, .ref aO, .ref aX, .int (vI (0))])), ia aC cI (512) (fun _ => 0), ia aN cI (512) (fun _ => 0), ia aO cI (512) (fun _ => 0), ia aX cI (512) (fun _ => 0), (hO, .inr (1, [.ref hR, .ref hL, .ref aA, .ref aE, .ref aD, .int (vI (0)), .int (vI (0)), .int (vI (0)), .int (vI (0)), .int (vI (0)), .int (vI (0)), .int (vI (0)), .int (vI (0)), .ref aQ])), ia aA cI (0) (fun _ => 0), ia aE cI (0) (fun _ => 0), ia aD cI (0) (fun _ => 0), ia aQ cB (0) (fun _ => 0), (hX, .inr (6, [.null, .int (vI (0)), .int (vI (0)), .int (vI (0)), .int (vI (0)), .int (vI (0)), .int (vI (0)), .int (vI (0)), .int (vI (0)), .int (vI (0)), .int (vI (0)), .null, .null, .null, .int (vI (0)), .int (vI (0)), .int (vI (0)), .int (vI (0)), .int (vI (0)), .int (vI (0)), .null, .null, .null, .null, .int (vI (0)), .int (vI (0))]))] := hD
  have hRc : 0 + 1 + 18 + 1 ≤ ({ frames := 10, cells := 600000, slots := 7302250, locals := 368 } : Room).cells := by show 0 + 1 + 18 + 1 ≤ 600000; omega
  have hRs : 0 + 5 + 4656 + 26 ≤ ({ frames := 10, cells := 600000, slots := 7302250, locals := 368 } : Room).slots := by show 0 + 5 + 4656 + 26 ≤ 7302250; omega
  refine lv_dup hx hb dL_law_11 rfl ?_
  have hPc := hP.sub (ws' := [(hX, .inr (6, [.null, .int (vI (0)), .int (vI (0)), .int (vI (0)), .int (vI (0)), .int (vI (0)), .int (vI (0)), .int (vI (0)), .int (vI (0)), .int (vI (0)), .int (vI (0)), .null, .null, .null, .int (vI (0)), .int (vI (0)), .int (vI (0)), .int (vI (0)), .int (vI (0)), .int (vI (0)), .null, .null, .null, .null, .int (vI (0)), .int (vI (0))]))]) [19] rfl
  have hDc := hD.sub (ws' := [(hX, .inr (6, [.null, .int (vI (0)), .int (vI (0)), .int (vI (0)), .int (vI (0)), .int (vI (0)), .int (vI (0)), .int (vI (0)), .int (vI (0)), .int (vI (0)), .int (vI (0)), .null, .null, .null, .int (vI (0)), .int (vI (0)), .int (vI (0)), .int (vI (0)), .int (vI (0)), .int (vI (0)), .null, .null, .null, .null, .int (vI (0)), .int (vI (0))]))]) [19] (by decide) rfl
  refine zc_v (wr := [(hM0, .inr (5, [.ref hR, .ref hL, .ref hF, .ref hN, .ref hO])), (hR, .inr (3, [.ref aB, .int (vI (0)), .int (vI (0))])), ia aB cB (512) (fun _ => 0), (hL, .inr (4, [.int (vI (2)), .int (vI (65536)), .int (vI (4)), .int (vI (131072)), .int (vI (0)), .int (vI (0)), .int (vI (8)), .int (vI (16))])), (hF, .inr (0, [.ref hR, .ref hL, .ref aL, .ref aK, .int (vI (0)), .int (vI (0)), .ref aS, .ref aT, .int (vI (0)), .int (vI (-1)), .int (vI (0)), .int (vI (0)), .int (vI (0)), .int (vI (0)), .int (vI (0))])), ia aL cI (512) (fun _ => 0), ia aK cI (512) (fun _ => 0), ia aS cI (512) (fun _ => 0), ia aT cI (512) (fun _ => 0), (hN, .inr (2, [.ref hR, .ref hL, .ref hF, .ref aC, .ref aN, .ref aO, .ref aX, .int (vI (0))])), ia aC cI (512) (fun _ => 0), ia aN cI (512) (fun _ => 0), ia aO cI (512) (fun _ => 0), ia aX cI (512) (fun _ => 0), (hO, .inr (1, [.ref hR, .ref hL, .ref aA, .ref aE, .ref aD, .int (vI (0)), .int (vI (0)), .int (vI (0)), .int (vI (0)), .int (vI (0)), .int (vI (0)), .int (vI (0)), .int (vI (0)), .ref aQ])), ia aA cI (0) (fun _ => 0), ia aE cI (0) (fun _ => 0), ia aD cI (0) (fun _ => 0), ia aQ cB (0) (fun _ => 0)]) (va_runI (As := []) (rest := [.ref hX]) ⟨hx, hb, hml, hown, hts⟩ (c_X6_init l D cI cB _ hX ) ⟨callB_of 0 hts (zg kX6_init) rfl rfl rfl (hts _ aw_7) (hts _ aw_516) (by decide +kernel) ⟨Nat.le_trans (Nat.le_of_ble_eq_true rfl) hRf, Nat.le_trans (Nat.le_of_ble_eq_true rfl) hRl⟩, rfl, (hts _ aw_517)⟩ ⟨zPre_blind, zPre_of hK hns hPc hDc⟩ rfl rfl hl.1 rfl (lv_room (Nat.le_of_ble_eq_true rfl)) dL_law_12 ⟨by show 0 + 1 + 18 + 1 + 8 ≤ 600000; omega, by show 0 + 5 + 4656 + 26 + 123115 ≤ 7302250; omega⟩) hP hD hS hA [19] [0, 1, 2, 3, 4, 5, 6, 7, 8, 9, 10, 11, 12, 13, 14, 15, 16, 17, 18] rfl rfl (by decide) (by decide) (fun u H locs hpost hP hD hS => ?_)
  obtain ⟨yB, yA, yE, yD, yQ, yC, yN, yO⟩ := u
  have hRc : 0 + 1 + 18 + 1 + 8 ≤ ({ frames := 10, cells := 600000, slots := 7302250, locals := 368 } : Room).cells := by show 0 + 1 + 18 + 1 + 8 ≤ 600000; omega
  have hRs : 0 + 5 + 4656 + 26 + 123115 ≤ ({ frames := 10, cells := 600000, slots := 7302250, locals := 368 } : Room).slots := by show 0 + 5 + 4656 + 26 + 123115 ≤ 7302250; omega
  have hP : va_P D vwCl [(hM0, .inr (5, [.ref hR, .ref hL, .ref hF, .ref hN, .ref hO])), (hR, .inr (3, [.ref aB, .int (vI (0)), .int (vI (0))])), ia aB cB (512) (fun _ => 0), (hL, .inr (4, [.int (vI (2)), .int (vI (65536)), .int (vI (4)), .int (vI (131072)), .int (vI (0)), .int (vI (0)), .int (vI (8)), .int (vI (16))])), (hF, .inr (0, [.ref hR, .ref hL, .ref aL, .ref aK, .int (vI (0)), .int (vI (0)), .ref aS, .ref aT, .int (vI (0)), .int (vI (-1)), .int (vI (0)), .int (vI (0)), .int (vI (0)), .int (vI (0)), .int (vI (0))])), ia aL cI (512) (fun _ => 0), ia aK cI (512) (fun _ => 0), ia aS cI (512) (fun _ => 0), ia aT cI (512) (fun _ => 0), (hN, .inr (2, [.ref hR, .ref hL, .ref hF, .ref aC, .ref aN, .ref aO, .ref aX, .int (vI (0))])), ia aC cI (512) (fun _ => 0), ia aN cI (512) (fun _ => 0), ia aO cI (512) (fun _ => 0), ia aX cI (512) (fun _ => 0), (hO, .inr (1, [.ref hR, .ref hL, .ref aA, .ref aE, .ref aD, .int (vI (0)), .int (vI (0)), .int (vI (0)), .int (vI (0)), .int (vI (0)), .int (vI (0)), .int (vI (0)), .int (vI (0)), .ref aQ])), ia aA cI (0) (fun _ => 0), ia aE cI (0) (fun _ => 0), ia aD cI (0) (fun _ => 0), ia aQ cB (0) (fun _ => 0), (hX, .inr (6, [.ref yB, .int (vI (0)), .int (vI (0)), .int (vI (2)), .int (vI (65536)), .int (vI (4)), .int (vI (131072)), .int (vI (0)), .int (vI (0)), .int (vI (8)), .int (vI (16)), .ref yA, .ref yE, .ref yD, .int (vI (0)), .int (vI (0)), .int (vI (0)), .int (vI (0)), .int (vI (0)), .int (vI (0)), .ref yQ, .ref yC, .ref yN, .ref yO, .int (vI (0)), .int (vI (0))])), ia yB cB (32768) (fun _ => 0), ia yA cI (11000) (fun _ => 0), ia yE cI (11000) (fun _ => 0), ia yD cI (11000) (fun _ => 0), ia yQ cB (32768) (fun _ => 0), ia yC cI (8193) (fun _ => 0), ia yN cI (8193) (fun _ => 0), ia yO cI (8193) (fun _ => 0)] H := hP
  have hD : va_D _ [(hM0, .inr (5, [.ref hR, .ref hL, .ref hF, .ref hN, .ref hO])), (hR, .inr (3, [.ref aB, .int (vI (0)), .int (vI (0))])), ia aB cB (512) (fun _ => 0), (hL, .inr (4, [.int (vI (2)), .int (vI (65536)), .int (vI (4)), .int (vI (131072)), .int (vI (0)), .int (vI (0)), .int (vI (8)), .int (vI (16))])), (hF, .inr (0, [.ref hR, .ref hL, .ref aL, .ref aK, .int (vI (0)), .int (vI (0)), .ref aS, .ref aT, .int (vI (0)), .int (vI (-1)), .int (vI (0)), .int (vI (0)), .int (vI (0)), .int (vI (0)), .int (vI (0))])), ia aL cI (512) (fun _ => 0), ia aK cI (512) (fun _ => 0), ia aS cI (512) (fun _ => 0), ia aT cI (512) (fun _ => 0), (hN, .inr (2, [.ref hR, .ref hL, .ref hF, .ref aC, .ref aN, .ref aO, .ref aX, .int (vI (0))])), ia aC cI (512) (fun _ => 0), ia aN cI (512) (fun _ => 0), ia aO cI (512) (fun _ => 0), ia aX cI (512) (fun _ => 0), (hO, .inr (1, [.ref hR, .ref hL, .ref aA, .ref aE, .ref aD, .int (vI (0)), .int (vI (0)), .int (vI (0)), .int (vI (0)), .int (vI (0)), .int (vI (0)), .int (vI (0)), .int (vI (0)), .ref aQ])), ia aA cI (0) (fun _ => 0), ia aE cI (0) (fun _ => 0), ia aD cI (0) (fun _ => 0), ia aQ cB (0) (fun _ => 0), (hX, .inr (6, [.ref yB, .int (vI (0)), .int (vI (0)), .int (vI (2)), .int (vI (65536)), .int (vI (4)), .int (vI (131072)), .int (vI (0)), .int (vI (0)), .int (vI (8)), .int (vI (16)), .ref yA, .ref yE, .ref yD, .int (vI (0)), .int (vI (0)), .int (vI (0)), .int (vI (0)), .int (vI (0)), .int (vI (0)), .ref yQ, .ref yC, .ref yN, .ref yO, .int (vI (0)), .int (vI (0))])), ia yB cB (32768) (fun _ => 0), ia yA cI (11000) (fun _ => 0), ia yE cI (11000) (fun _ => 0), ia yD cI (11000) (fun _ => 0), ia yQ cB (32768) (fun _ => 0), ia yC cI (8193) (fun _ => 0), ia yN cI (8193) (fun _ => 0), ia yO cI (8193) (fun _ => 0)] := hD
  refine lv_astore_n (lv' := [(2, .ref hX), (1, .ref hM0), (0, .ref b)]) hx hb dL_law_15 rfl hl (by decide) rfl (fun ls hl => ?_)
  refine zw_iconst hx hb dL_law_16 ?_
  refine lv_istore_n (lv' := [(3, .int (vI (0))), (2, .ref hX), (1, .ref hM0), (0, .ref b)]) hx hb dL_law_17 rfl hl (by decide) rfl (fun ls hl => ?_)
  refine s_law hx hb hts hown hml hK hns hA b L (fun j => (xs j).toInt) hM0 hR hL hF hN hO hX yB yA yE yD yQ yC yN yO hX9 hbl hbA hL9 (fun j => ⟨by have := (xs j).le_toInt; omega, by have := (xs j).toInt_lt; omega⟩) ?_ (L + 1) 0 (0 + 1 + 18 + 1 + 8) (0 + 5 + 4656 + 26 + 123115) aB aL aK aS aT aC aN aO aX aA aE aD aQ 0 0 2 65536 4 131072 0 0 8 16 512 512 512 0 0 0 0 0 0 0 0 0 0 0 0 0 0 0 0 (-1) 0 0 0 0 0 (fun _ => 0) (fun _ => 0) (fun _ => 0) (fun _ => 0) (fun _ => 0) (fun _ => 0) (fun _ => 0) (fun _ => 0) (fun _ => 0) (fun _ => 0) (fun _ => 0) (fun _ => 0) (fun _ => 0) (fun _ => 0) (fun _ => 0) (fun _ => 0) (fun _ => 0) (fun _ => 0) (fun _ => 0) (fun _ => 0) (fun _ => 0) (fun _ => 0) (fun _ => 0) (fun _ => 0) (by omega) _ _ _ (by omega) (by omega) (Or.inl rfl) (Or.inl rfl) (Or.inl rfl) (Or.inl rfl) (Or.inl rfl) (by omega) (Or.inl ⟨rfl, rfl⟩) (zmemo_c (fun _ _ => rfl) (fun _ _ => rfl)) (fun _ => ⟨by decide, by decide⟩) (fun _ => ⟨by decide, by decide⟩) (fun j hj => absurd hj (Nat.not_lt_zero j)) (⟨by omega, by omega, by omega, by omega, by omega, by omega, rfl⟩) (fun j hj => absurd hj (Nat.not_lt_zero j)) (fun j hj => absurd hj (Nat.not_lt_zero j)) (fun j hj => absurd hj (Nat.not_lt_zero j)) (⟨rfl, rfl⟩) (fun _ => ⟨by decide, by decide⟩) (fun _ => ⟨by decide, by decide⟩) (hP.sub [0, 4, 1, 2, 3, 5, 6, 7, 8, 9, 10, 11, 12, 13, 14, 15, 16, 17, 18, 19, 20, 21, 22, 23, 24, 25, 26, 27] rfl) (hD.sub [0, 4, 1, 2, 3, 5, 6, 7, 8, 9, 10, 11, 12, 13, 14, 15, 16, 17, 18, 19, 20, 21, 22, 23, 24, 25, 26, 27] (by decide) rfl) hS (lv_sub hl [3, 2, 1, 0] rfl)
  intro cells slots H locs ls hc9 hs9 hS
  refine lv_iconst (v := 1) hx hb dL_law_503 (by decide) ?_
  refine va_forget (fun q hq => hS.2.2 q hq) ?_
  refine W.widen (k := 600000) (n := 7302250) hc9 hs9 ?_
  exact lw_ret hx hb hr hlocks dL_law_504
set_option maxHeartbeats 4000000 in
theorem lw_walk (l : Launch) (b : Addr) (xs : List Int32) : MetFree l x (headSpec (Jvm.Cond.code x code maxLocals ret :: tables_1) room_1) (lw_P b xs) (fun _ _ _ _ _ => True) lw_Q := by
  refine MetFree.of_bodyS (code := code) (maxLocals := maxLocals) (ret := ret) (by decide) ?_ ?_
  · intro args s m h hn
    obtain ⟨meth, c, h1, h2, h3, h4, h5, h6, -, -⟩ := Cond.code_spec hn (atoms_spec (ws := Jvm.Cond.code x code maxLocals ret :: tables_1) h _ List.mem_cons_self)
    exact ⟨meth, c, h1, h2, h3, h4, h5, h6⟩
  · intro p e s m args below meth c s₁ B hml0 hP _
    obtain ⟨rfl, hx, hbd, hgv⟩ := hP
    obtain ⟨scr, harrAt, hlist, hof, hsmall⟩ := hx
    obtain ⟨hcb, hkn, -, -⟩ := State.arrayAt?_spec harrAt
    have hown : s.vm.findClass R_law = some m.cls := findClass_of_methodNamed B.named
    have hts0 : ∀ c ∈ (Jvm.Cond.code x code maxLocals ret :: tables_1), c.before #[Value.ref b] s = true := atoms_spec (ws := Jvm.Cond.code x code maxLocals ret :: tables_1) B.pre
    have hts : ∀ w ∈ lw_tbl, w.before #[Value.ref b] s = true := k2_hts_sels lw_privs (fun w hw => hts0 w (List.mem_cons_of_mem _ hw)) lw_privs_ok
    have hml : c.maxLocals = 4 := B.maxLocals_eq (hts0 _ List.mem_cons_self)
    have X₀ : Stand p l e room_1 s m #[Value.ref b] below meth c s₁ [] 0 0 := Stand.of_body B
    have hh0 : s₁.heap = s.heap := by rw [B.state]; rfl
    have hsz : scr.slots.size = xs.length := by rw [← Array.length_toList, hlist, List.length_map]
    have hval : ∀ j : Nat, j < xs.length → scr.slots[j]? = some (.int (xs.getD j 0)) := fun j hj => by
      rw [← Array.getElem?_toList, hlist]
      simp [hj]
    have hbl : b < s.heap.size := (Array.getElem?_eq_some_iff.mp hcb).1
    have hX : va_X b xs.length (fun j => xs.getD j 0) s s.heap := ⟨scr, hcb, hof, hkn, hsz, hval⟩
    have K : W p l e room_1 s m #[Value.ref b] below meth c s₁.heap [] 0 0 (lw_Z below #[Value.ref b] s) (entryFrame m ([Value.ref b] : List Value).toArray 4) := by
      rw [hh0]
      exact whole_start l hbd ⟨B.exec, B.bytes, B.returns, hml, hown, hts, hX, hbl, B.notSynchronized, hgv⟩
    obtain ⟨t, a1, o, b1, b2, b3⟩ := K s₁ rfl X₀
    exact ⟨t, o, a1, b1, b2, b3⟩
theorem lw_pre_spec {args : Array Value} {s : State} (h : (Jvm.Cond.and given_1 narrow_1).before args s = true) (hr : rest_1_c.before args s = true) : ∃ (b : Addr) (xs : List Int32), lw_P b xs args s := by
  have hs := flat_of_before _ h
  have hq := flat_of_before _ hr
  have hc : (Cond.count 1).before args s = true := hs _ (by decide +kernel)
  have harr : (Cond.arrayOf (.arg 0) .int).before args s = true := hs _ (by decide +kernel)
  have hle : (Cond.le (.length (.arg 0)) (.int 2560)).before args s = true := hs _ (by decide +kernel)
  have hlen : (Cond.isInt (.length (.arg 0))).before args s = true := hq _ (by decide +kernel)
  have hall : (Cond.all (.arg 0) (.isInt (.elem (.arg 0) (.index 0)))).before args s = true := hq _ (by decide +kernel)
  obtain ⟨b, xs, hb, hx⟩ := State.ints_of_pre rfl harr hlen hall
  have hsm : xs.length < 2 ^ 31 := hx.choose_spec.2.2.2
  have hev : (Term.length (.arg 0)).eval args s none [] s = some (.int xs.length.toInt32) := hx.length_eval hb
  have hv := Cond.le_ints hev (show (Term.int 2560).eval args s none [] s = some (.int 2560) from rfl)
  have hd : xs.length.toInt32 ≤ 2560 := by
    simpa [Cond.before, Cond.holds, hv] using hle
  have hN : xs.length ≤ 2560 := (Int32.ofNat_le_ofNat hsm (by decide)).mp (show Int32.ofNat xs.length ≤ Int32.ofNat 2560 from hd)
  exact ⟨b, xs, Cond.one_arg hc (show args[0]? = some (.ref b) from hb), hx, hN, h⟩
theorem lw_comes (l : Launch) : Comes l x (Jvm.Cond.code x code maxLocals ret :: tables_1) room_1 (fun tb e args s => Calls_1 tb e args s ∧ rest_1 tb e args s ∧ Pre_1 tb e args s)
    (fun _ _ args s o t => lw_Q args s o t) := by
  intro p e ha hc hk s m args below hf hfit hheap happ hpre
  obtain ⟨b, xs, hP⟩ := lw_pre_spec hpre.2.2 hpre.2.1
  obtain ⟨k, o, h1, h2, h3, hQ⟩ := lw_walk l b xs p e ha hc hk s m args below hf ((Spec.applies_iff_loose hf).mp happ).1 hP trivial
  exact ⟨k, o, h1, h2, h3, hQ⟩
theorem lw_frame {s t : State} {o : Outcome} {args : Array Value} (h : Framed s o t [] 600000 7302250) :
    Framed s o t (fieldLocs frame_1_writes args s ++ arrayLocs frame_1_arrays args s ++ staticLocs frame_1_statics s) 600000 7302250 := h
theorem lw_limb (L : Cond) (hL : ∀ (args : Array Value) (s t : State), L.after args s (.returned (some (.int 1))) t = true) :
    ArmFor flags0 classFile x code maxLocals ret World_1 tables_1 room_1 Calls_1 rest_1 Pre_1
      (fun tb e a s o t => postC L tb e a s o t ∧ Framed s o t (fieldLocs frame_1_writes a s ++ arrayLocs frame_1_arrays a s ++ staticLocs frame_1_statics s) 600000 7302250) := by
  intro l _ _ _ p e ha hc hk s m args below hf hfit hheap happ hpre
  obtain ⟨k, o, h1, h2, h3, rfl, hF⟩ := lw_comes l p e ha hc hk s m args below hf hfit hheap happ hpre
  exact ⟨k, _, h1, h2, h3, hL args s _, lw_frame hF⟩
theorem i_vc : Claimed_1_1 ∧ Claimed_1_2 := ⟨lw_limb limb_1_1 (fun args s t => by simp [limb_1_1, Cond.after, Cond.holds, Cond.value]), lw_limb limb_1_2 (fun args s t => Cond.after_iff.mpr (by
  first | (rw [show limb_1_2 = Cond.eq .result (.int 1) from rfl, Cond.eq_ints (x := 1) (y := 1) rfl rfl]; simp; done) | (simp [limb_1_2, Cond.value, Term.eval]; done)))⟩
