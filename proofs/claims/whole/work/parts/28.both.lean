section ZL
variable {p : Program} {l : Launch} {e : Env} {R : Room} {s : State} {m : MethodId} {args : Array Value} {below : List Frame} {meth : Method} {c : Code} {H : Heap} {locs : List Loc} {cells slots : Nat} {Q : State → Prop} {cc : ByteArray} {pc : Nat} {ls : Array Slot} {rest : List Value} {A : Nat → Prop} {H0 : Heap}
theorem zw_sld (hx : p.tables.exec = Jvm.exec) (hb : c.code = cc) {b LL : Nat} {xz : Nat → Int} (hX : va_X b LL (fun j => vI (xz j)) s H0) (hbl : b < H0.size) (hbA : ¬ A b) (hS : va_S A H0 H locs) {z : Int} (k : Nat) (hz : z = (k : Int)) (hk : k < LL) (hn : LL ≤ 2560) (hdg : decode cc pc = .ok (.iaload, 1))
    (kk : W p l e R s m args below meth c H locs cells slots Q (F0 m (pc + 1) ls (.int (vI (xz k)) :: rest))) : W p l e R s m args below meth c H locs cells slots Q (F0 m pc ls (.int (vI z) :: .ref b :: rest)) := by
  subst hz
  refine va_sld hx hb hX hbl hbA hS (vI_in hk (by omega)) hdg ?_
  rw [vI_cl (by omega)]
  exact kk
theorem zw_slen (hx : p.tables.exec = Jvm.exec) (hb : c.code = cc) {b LL : Nat} {xs : Nat → Int32} (hX : va_X b LL xs s H0) (hbl : b < H0.size) (hbA : ¬ A b) (hS : va_S A H0 H locs) (hdg : decode cc pc = .ok (.arraylength, 1))
    (kk : W p l e R s m args below meth c H locs cells slots Q (F0 m (pc + 1) ls (.int (vI ((LL : Nat) : Int)) :: rest))) : W p l e R s m args below meth c H locs cells slots Q (F0 m pc ls (.ref b :: rest)) := by
  refine va_slen hx hb hX hbl hbA hS hdg ?_
  rw [vI_nat]
  exact kk
end ZL
theorem zwr {v : Int64} {w : Int} {n n2 n3 NB NB2 : Nat} {d d2 dm dm2 : Nat → Int} {b b2 : Int} (hS : zS3 NB) (hn : n ≤ NB ∧ NB ≤ 32768) (hdd : ∀ j, j < n → dm j = d j) (hw5 : (b = 1 ∧ (1 ≤ w ∧ w ≤ 8 ∧ (n : Int) + w ≤ 32768) ∧ n2 = n + w.toNat ∧ NB2 = zNB NB (n + w.toNat) ∧ (∀ j, j < n → d2 j = d j) ∧ ∀ j, j < w.toNat → d2 (n + j) = zbyte v j) ∨ (b = 0 ∧ ¬ (1 ≤ w ∧ w ≤ 8 ∧ (n : Int) + w ≤ 32768) ∧ n2 = n ∧ NB2 = NB ∧ d2 = d)) (hw6 : (b2 = 1 ∧ (1 ≤ w ∧ w ≤ 8 ∧ (n : Int) + w ≤ 32768) ∧ n3 = n + w.toNat ∧ (∀ j, j < n → dm2 j = dm j) ∧ ∀ j, j < w.toNat → dm2 (n + j) = zbyte v j) ∨ (b2 = 0 ∧ ¬ (1 ≤ w ∧ w ≤ 8 ∧ (n : Int) + w ≤ 32768) ∧ n3 = n ∧ dm2 = dm)) : b = b2 ∧ n2 = n3 ∧ n ≤ n2 ∧ (∀ j, j < n → d2 j = d j) ∧ (∀ j, j < n2 → dm2 j = d2 j) ∧ zif (decide (1 ≤ w ∧ w ≤ 8 ∧ (n : Int) + w ≤ 32768)) (zmc NB (n + w.toNat)) + NB ≤ NB2 ∧ zif (decide (1 ≤ w ∧ w ≤ 8 ∧ (n : Int) + w ≤ 32768)) (zms NB (n + w.toNat)) + 2 * NB ≤ 2 * NB2 ∧ NB2 ≤ 32768 ∧ zS3 NB2 ∧ n2 ≤ NB2 := by
  rcases hw5 with ⟨a1, a2, a3, a4, a5, a6⟩ | ⟨a1, a2, a3, a4, a5⟩ <;> rcases hw6 with ⟨c1, c2, c3, c5, c6⟩ | ⟨c1, c2, c3, c5⟩
  · refine ⟨by omega, by omega, by omega, a5, fun j hj => ?_, zap_room hS hn (Or.inl ⟨a2, by omega, a3, a4⟩)⟩
    rcases Nat.lt_or_ge j n with z | z
    · rw [c5 j z, a5 j z, hdd j z]
    · have e1 := c6 (j - n) (by omega)
      have e2 := a6 (j - n) (by omega)
      rw [show n + (j - n) = j by omega] at e1 e2
      rw [e1, e2]
  · exact absurd a2 c2
  · exact absurd c2 a2
  · subst a5; subst c5
    exact ⟨by omega, by omega, by omega, fun _ _ => rfl, fun j hj => hdd j (by omega), zap_room hS hn (Or.inr ⟨a2, a3, a4⟩)⟩
theorem zag {mm tt : Int} {n n2 n3 NB NB2 : Nat} {d d2 dm dm2 : Nat → Int} {b b2 : Int} (hS : zS3 NB) (hn : n ≤ NB ∧ NB ≤ 32768) (hdd : ∀ j, j < n → dm j = d j) (hw5 : (b = 1 ∧ ((1 ≤ mm ∧ mm ≤ n) ∧ 0 ≤ tt ∧ (n : Int) + mm * tt ≤ 32768) ∧ n2 = n + (mm * tt).toNat ∧ NB2 = zNB NB (n + (mm * tt).toNat) ∧ (∀ j, j < n → d2 j = d j) ∧ ∀ j, n ≤ j → j < n + (mm * tt).toNat → d2 j = d2 (j - mm.toNat)) ∨ (b = 0 ∧ ¬ ((1 ≤ mm ∧ mm ≤ n) ∧ 0 ≤ tt ∧ (n : Int) + mm * tt ≤ 32768) ∧ n2 = n ∧ NB2 = NB ∧ d2 = d)) (hw6 : (b2 = 1 ∧ ((1 ≤ mm ∧ mm ≤ n) ∧ 0 ≤ tt ∧ (n : Int) + mm * tt ≤ 32768) ∧ n3 = n + (mm * tt).toNat ∧ (∀ j, j < n → dm2 j = dm j) ∧ ∀ j, n ≤ j → j < n + (mm * tt).toNat → dm2 j = dm2 (j - mm.toNat)) ∨ (b2 = 0 ∧ ¬ ((1 ≤ mm ∧ mm ≤ n) ∧ 0 ≤ tt ∧ (n : Int) + mm * tt ≤ 32768) ∧ n3 = n ∧ dm2 = dm)) : b = b2 ∧ n2 = n3 ∧ n ≤ n2 ∧ (∀ j, j < n → d2 j = d j) ∧ (∀ j, j < n2 → dm2 j = d2 j) ∧ zif (decide ((1 ≤ mm ∧ mm ≤ n) ∧ 0 ≤ tt ∧ (n : Int) + mm * tt ≤ 32768)) (zmc NB (n + (mm * tt).toNat)) + NB ≤ NB2 ∧ zif (decide ((1 ≤ mm ∧ mm ≤ n) ∧ 0 ≤ tt ∧ (n : Int) + mm * tt ≤ 32768)) (zms NB (n + (mm * tt).toNat)) + 2 * NB ≤ 2 * NB2 ∧ NB2 ≤ 32768 ∧ zS3 NB2 ∧ n2 ≤ NB2 := by
  rcases hw5 with ⟨a1, a2, a3, a4, a5, a6⟩ | ⟨a1, a2, a3, a4, a5⟩ <;> rcases hw6 with ⟨c1, c2, c3, c5, c6⟩ | ⟨c1, c2, c3, c5⟩
  · have hp9 : 0 ≤ mm * tt := Int.mul_nonneg (by omega) (by omega)
    refine ⟨by omega, by omega, by omega, a5, fun j hj => ?_, zap_room hS hn (Or.inl ⟨a2, by omega, a3, a4⟩)⟩
    exact zag_d (t := n + (mm * tt).toNat) (mm := mm.toNat) (by omega) a5 a6 c5 c6 hdd (by omega) (j + 1) j (by omega) (by omega)
  · exact absurd a2 c2
  · exact absurd c2 a2
  · subst a5; subst c5
    exact ⟨by omega, by omega, by omega, fun _ _ => rfl, fun j hj => hdd j (by omega), zap_room hS hn (Or.inr ⟨a2, a3, a4⟩)⟩
theorem zgo_both {n win cap ga gb least lp mp pa way st tl li co gl gd bt pt NE st2 tl2 li2 co2 gl2 gd2 bt2 pt2 NE2 st3 tl3 li3 co3 bt3 pt3 : Nat} {r5 r6 : Int} {d dm lb le di lb2 le2 di2 lbm lem dim lbm2 lem2 dim2 : Nat → Int} {LB LE LD : Nat → Nat} {g5 g6 : zG} (hl : 1 ≤ least) (hn : pa ≤ n ∧ n ≤ 32768) (hE : zSE NE ∧ NE ≤ 10922) (hdd : ∀ j, j < n → dm j = d j)
    (hbd : st ≤ NE ∧ 3 * st ≤ bt ∧ tl ≤ bt ∧ li ≤ bt ∧ co ≤ 286 * bt ∧ bt ≤ n ∧ zpos pt LB LE st + tl = bt) (hAr : ∀ j, j < st → lb j = ((LB j : Nat) : Int) ∧ le j = ((LE j : Nat) : Int) ∧ di j = ((LD j : Nat) : Int)) (hAm : ∀ j, j < st → lbm j = ((LB j : Nat) : Int) ∧ lem j = ((LE j : Nat) : Int) ∧ dim j = ((LD j : Nat) : Int)) (hV : zVal d pt LB LE LD st) (hx1 : (gl : Int) = zmx le st ∧ (gd : Int) = zmx di st)
    (hr5 : (r5 = -1 ∧ (way = 4 ∧ 8192 < n - pa) ∧ st2 = st ∧ tl2 = tl ∧ li2 = li ∧ co2 = co ∧ gl2 = gl ∧ gd2 = gd ∧ bt2 = bt ∧ pt2 = pt ∧ NE2 = NE ∧ lb2 = lb ∧ le2 = le ∧ di2 = di) ∨ (r5 = ((st2 : Nat) : Int) ∧ ¬ (way = 4 ∧ 8192 < n - pa) ∧ zGoes d n win cap ga gb least lp mp pa way g5 ∧ (zRep g5 st2 tl2 li2 co2 lb2 le2 di2) ∧ ((gl2 : Int) = zmx le2 st2 ∧ (gd2 : Int) = zmx di2 st2) ∧ (3 * st2 ≤ n - pa ∧ tl2 ≤ n - pa ∧ li2 ≤ n - pa ∧ co2 ≤ 286 * (n - pa) ∧ gl2 ≤ 32768 ∧ gd2 ≤ 32768) ∧ (zGV d pa g5 n) ∧ bt2 = n ∧ pt2 = pa ∧ NE2 = zNE NE n)) (hr6 : (r6 = -1 ∧ (way = 4 ∧ 8192 < n - pa) ∧ st3 = st ∧ tl3 = tl ∧ li3 = li ∧ co3 = co ∧ bt3 = bt ∧ pt3 = pt ∧ lbm2 = lbm ∧ lem2 = lem ∧ dim2 = dim) ∨ (r6 = ((st3 : Nat) : Int) ∧ ¬ (way = 4 ∧ 8192 < n - pa) ∧ zGoes dm n win cap ga gb least lp mp pa way g6 ∧ zRep g6 st3 tl3 li3 co3 lbm2 lem2 dim2 ∧ zGV dm pa g6 n ∧ (3 * st3 ≤ n ∧ tl3 ≤ n ∧ li3 ≤ n ∧ co3 ≤ 286 * (n)) ∧ bt3 = n ∧ pt3 = pa)) : (r5 = r6 ∧ st2 = st3 ∧ tl2 = tl3 ∧ li2 = li3 ∧ co2 = co3 ∧ bt2 = bt3 ∧ pt2 = pt3) ∧ ((gl2 : Int) = zmx le2 st2 ∧ (gd2 : Int) = zmx di2 st2) ∧ (zif (decide (¬ (way = 4 ∧ 8192 < n - pa))) (zmc3 NE n) + NE ≤ NE2 ∧ zif (decide (¬ (way = 4 ∧ 8192 < n - pa))) (zms3 NE n) + 6 * NE ≤ 6 * NE2 ∧ NE2 ≤ 10922) ∧ zSE NE2 ∧ ∃ LB2 LE2 LD2 : Nat → Nat, (st2 ≤ NE2 ∧ 3 * st2 ≤ bt2 ∧ tl2 ≤ bt2 ∧ li2 ≤ bt2 ∧ co2 ≤ 286 * bt2 ∧ bt2 ≤ n ∧ zpos pt2 LB2 LE2 st2 + tl2 = bt2) ∧ (∀ j, j < st2 → lb2 j = ((LB2 j : Nat) : Int) ∧ le2 j = ((LE2 j : Nat) : Int) ∧ di2 j = ((LD2 j : Nat) : Int)) ∧ (∀ j, j < st2 → lbm2 j = ((LB2 j : Nat) : Int) ∧ lem2 j = ((LE2 j : Nat) : Int) ∧ dim2 j = ((LD2 j : Nat) : Int)) ∧ zVal d pt2 LB2 LE2 LD2 st2 := by
  rcases hr5 with ⟨a0, a1, a2, a3, a4, a5, a6, a7, a8, a9, a10, a11, a12, a13⟩ | ⟨a0, a1, a2, a3, a4, a5, a6, a7, a8, a9⟩ <;> rcases hr6 with ⟨c0, c1, c2, c3, c4, c5, c6, c7, c8, c9, c10⟩ | ⟨c0, c1, c2, c3, c4, c5, c6, c7⟩
  · subst a2; subst a3; subst a4; subst a5; subst a6; subst a7; subst a8; subst a9; subst a10; subst a11; subst a12; subst a13
    subst c2; subst c3; subst c4; subst c5; subst c6; subst c7; subst c8; subst c9; subst c10
    rw [zif_f (fun z => z a1), zif_f (fun z => z a1)]
    exact ⟨⟨by omega, rfl, rfl, rfl, rfl, rfl, rfl⟩, hx1, ⟨by omega, by omega, hE.2⟩, hE.1, LB, LE, LD, hbd, hAr, hAm, hV⟩
  · exact absurd a1 c1
  · exact absurd c1 a1
  · have e := zgoes_uniq hl hdd a2 c2
    subst e
    obtain ⟨u1, u2, u3, u4, u5⟩ := a3
    obtain ⟨w1, w2, w3, w4, w5⟩ := c3
    have hr := zNE_room hE.1 hn.2
    obtain ⟨g1, g2⟩ := a6
    subst a7; subst a8
    rw [zif_t a1, zif_t a1, a9]
    refine ⟨⟨by omega, by omega, by omega, by omega, by omega, by omega, by omega⟩, a4, ⟨hr.1, hr.2.1, hr.2.2.2.1⟩, hr.2.2.1, g5.2.2.2.2.1, g5.2.2.2.2.2.1, g5.2.2.2.2.2.2, ⟨by omega, by omega, by omega, by omega, by omega, by omega, ?_⟩, u5, fun j hj => w5 j (by omega), ?_⟩
    · rw [u1, u2]; exact g2
    · rw [u1]; exact g1
