theorem zrun_congr {d d2 : Nat → Int} : ∀ k p q, (∀ j, j < k → d2 (p + j) = d (p + j) ∧ d2 (q + j) = d (q + j)) → zrun d2 k p q = zrun d k p q := by
  intro k
  induction k with
  | zero => intro p q _; rfl
  | succ k ih =>
    intro p q h
    have h0 := h 0 (by omega)
    rw [Nat.add_zero, Nat.add_zero] at h0
    rw [zrun, zrun, h0.1, h0.2, ih (p + 1) (q + 1) (fun j hj => by
      have := h (j + 1) (by omega)
      rw [show p + 1 + j = p + (j + 1) by omega, show q + 1 + j = q + (j + 1) by omega]
      exact this)]
theorem zrunK {d d2 : Nat → Int} {n cap gb pp q : Nat} (h : ∀ j, j < n → d2 j = d j) (hq : q < pp) : zrun d2 (zlm cap gb n pp).toNat pp q = zrun d (zlm cap gb n pp).toNat pp q := by
  have hl := zlm_in cap gb n pp
  exact zrun_congr _ _ _ (fun j hj => ⟨h _ (by omega), h _ (by omega)⟩)
theorem zbest_congr {f g : Nat → Nat} {lo : Nat} : ∀ (c : Nat) (u : Nat × Nat), (∀ q, q < c → f q = g q) → zbest f lo c u = zbest g lo c u := by
  intro c
  induction c with
  | zero => intro u _; rfl
  | succ c ih =>
    intro u h
    rw [zbest, zbest, h c (by omega), ih _ (fun q hq => h q (by omega))]
theorem zcnt_congr {f g : Nat → Nat} {lo t : Nat} : ∀ (c : Nat), (∀ q, q < c → f q = g q) → zcnt f lo t c = zcnt g lo t c := by
  intro c
  induction c with
  | zero => intro _; rfl
  | succ c ih =>
    intro h
    rw [zcnt, zcnt, h c (by omega), ih (fun q hq => h q (by omega))]
theorem znr_congr {d d2 : Nat → Int} {n win cap ga gb al pp : Nat} (h : ∀ j, j < n → d2 j = d j) : znr d2 n win cap ga gb al pp = znr d n win cap ga gb al pp := by
  have hz := zs_le n ga al pp (zlm cap gb n pp)
  have e : zfnd (zrun d2 (zlm cap gb n pp).toNat pp) (pp - win) (al - 1) (zs n ga al pp (zlm cap gb n pp)) = zfnd (zrun d (zlm cap gb n pp).toNat pp) (pp - win) (al - 1) (zs n ga al pp (zlm cap gb n pp)) := zfnd_congr _ (fun q a1 _ => zrunK h (by omega))
  unfold znr
  rw [e]
  cases f : zfnd (zrun d (zlm cap gb n pp).toNat pp) (pp - win) (al - 1) (zs n ga al pp (zlm cap gb n pp)) with
  | none => rfl
  | some q =>
    have := (zfnd_some _ _ f).1
    show (zrun d2 (zlm cap gb n pp).toNat pp q, pp - q) = (zrun d (zlm cap gb n pp).toNat pp q, pp - q)
    rw [zrunK h (show q < pp by omega)]
theorem zlg_congr {d d2 : Nat → Int} {n win cap ga gb least pp : Nat} (h : ∀ j, j < n → d2 j = d j) : zlg d2 n win cap ga gb least pp = zlg d n win cap ga gb least pp := by
  have hz := zs_le n ga least pp (zlm cap gb n pp)
  unfold zlg
  rw [zbest_congr (zs n ga least pp (zlm cap gb n pp)) _ (fun q a1 => zrunK (cap := cap) (gb := gb) h (show q < pp by omega))]
theorem zat_congr {d d2 : Nat → Int} {n win cap ga gb least way pp : Nat} (h : ∀ j, j < n → d2 j = d j) : zat d2 n win cap ga gb least way pp = zat d n win cap ga gb least way pp := by
  unfold zat zl3
  rw [znr_congr h, znr_congr h, zlg_congr h, znr_congr h]
theorem zct_congr {d d2 : Nat → Int} {n win cap ga gb least pp : Nat} (h : ∀ j, j < n → d2 j = d j) : zct d2 n win cap ga gb least pp = zct d n win cap ga gb least pp := by
  have hz := zs_le n ga least pp (zlm cap gb n pp)
  unfold zct
  exact zcnt_congr (zs n ga least pp (zlm cap gb n pp)) (fun q a1 => zrunK (cap := cap) (gb := gb) h (show q < pp by omega))
theorem zatr_congr {d d2 : Nat → Int} {n win cap ga gb least : Nat} {v wy what : Int} (h : ∀ j, j < n → d2 j = d j) : zatr d2 n win cap ga gb least v wy what = zatr d n win cap ga gb least v wy what := by
  unfold zatr
  rw [zat_congr h]
theorem zctr_congr {d d2 : Nat → Int} {n win cap ga gb least : Nat} {v : Int} (h : ∀ j, j < n → d2 j = d j) : zctr d2 n win cap ga gb least v = zctr d n win cap ga gb least v := by
  unfold zctr
  rw [zct_congr h]
theorem zvo_congr {d d2 : Nat → Int} {n win cap ga gb least : Nat} (h : ∀ j, j < n → d2 j = d j) : zvo d2 n win cap ga gb least = zvo d n win cap ga gb least := by
  funext P w q
  have hz := zs_le n ga least P (zlm cap gb n P)
  unfold zvo
  by_cases e : q < zs n ga least P (zlm cap gb n P)
  · rw [zrunK h (show q < P by omega)]
  · exact propext ⟨fun z => absurd z.1 e, fun z => absurd z.1 e⟩
theorem zplan_congr {d d2 : Nat → Int} {n win cap ga gb least lp mp hh : Nat} {C Wf Xf : Nat → Nat} (h : ∀ j, j < n → d2 j = d j) (h2 : zPlan d2 n win cap ga gb least lp mp hh C Wf Xf) : zPlan d n win cap ga gb least lp mp hh C Wf Xf := by
  unfold zPlan zopf at h2 ⊢
  rw [zvo_congr h] at h2
  exact h2
theorem zgo_congr {lp mp n hh : Nat} {tk tk2 : Nat → Nat × Nat} (h : ∀ p, hh ≤ p → p < n → tk p = tk2 p) : ∀ (f p : Nat) (g : zG), hh ≤ p → zgo lp mp tk n f p g = zgo lp mp tk2 n f p g := by
  intro f
  induction f with
  | zero => intro p g _; rfl
  | succ f ih =>
    intro p g hp
    rw [zgo, zgo]
    by_cases e : p < n
    · rw [if_pos e, if_pos e, h p hp e]
      exact ih _ _ (by omega)
    · rw [if_neg e, if_neg e]
theorem zgoes_uniq {d d2 : Nat → Int} {n win cap ga gb least lp mp hh way : Nat} {g g2 : zG} (hl : 1 ≤ least) (h : ∀ j, j < n → d2 j = d j) (h1 : zGoes d n win cap ga gb least lp mp hh way g) (h2 : zGoes d2 n win cap ga gb least lp mp hh way g2) : g = g2 := by
  rcases h1 with ⟨a1, C, Wf, Xf, a2, a3⟩ | ⟨a1, a3⟩ <;> rcases h2 with ⟨b1, C2, Wf2, Xf2, b2, b3⟩ | ⟨b1, b3⟩
  · have b2 := zplan_congr h b2
    rw [a3, b3]
    refine zgo_congr (hh := hh) (fun p p1 p2 => ?_) _ _ _ (Nat.le_refl _)
    have := (zplan_uniq hl a2 b2 (n - (hh + (p - hh))) (p - hh) (by omega) (Nat.le_refl _)).2 (by omega)
    show (Wf (p - hh), Xf (p - hh)) = (Wf2 (p - hh), Xf2 (p - hh))
    rw [this.1, this.2]
  · exact absurd a1 b1
  · exact absurd b1 a1
  · rw [a3, b3]
    exact zgo_congr (hh := hh) (fun p _ _ => (zat_congr h).symm) _ _ _ (Nat.le_refl _)
/-- the three sizes of a row -/
def zS3 (N : Nat) : Prop := N = 512 ∨ N = 4096 ∨ N = 32768
def zSE (N : Nat) : Prop := N = 0 ∨ N = 170 ∨ N = 1365 ∨ N = 10922
def zSP (N : Nat) : Prop := N = 512 ∨ N = 4096 ∨ N = 8193
def zSQ (N : Nat) : Prop := N = 0 ∨ N = 512 ∨ N = 4096 ∨ N = 32768
theorem zif_le {b : Bool} {k K : Nat} (h : k ≤ K) : zif b k ≤ K := by
  cases b
  · exact Nat.zero_le _
  · exact h
theorem zroom_le (t : Nat) : zroom t ≤ 32768 := by
  unfold zroom
  (repeat' split) <;> omega
theorem zmc_le (NB t : Nat) : zmc NB t ≤ 1 := by
  unfold zmc
  split <;> omega
theorem zms_le (NB t : Nat) : zms NB t ≤ 32768 := by
  unfold zms
  split
  · exact zroom_le t
  · omega
theorem zmc4_le (NS n : Nat) : zmc4 NS n ≤ 4 := by
  unfold zmc4
  split <;> omega
theorem zms4_le (NS n : Nat) : zms4 NS n ≤ 131072 := by
  have := zroom_le n
  unfold zms4
  split <;> omega
theorem zmc3_le (NE n : Nat) : zmc3 NE n ≤ 3 := by
  unfold zmc3
  split <;> omega
theorem zms3_le (NE n : Nat) : zms3 NE n ≤ 32768 := by
  have := zroom_le n
  unfold zms3
  split <;> omega
theorem zmcP_le (NP t : Nat) : zmcP NP t ≤ 4 := by
  unfold zmcP
  split <;> omega
theorem zmsP_le (NP t : Nat) : zmsP NP t ≤ 32772 := by
  unfold zmsP
  split <;> omega
theorem zNB_room {NB t : Nat} (h : zS3 NB) (ht : t ≤ 32768) : zmc NB t + NB ≤ zNB NB t ∧ zms NB t + 2 * NB ≤ 2 * zNB NB t ∧ zS3 (zNB NB t) ∧ zNB NB t ≤ 32768 ∧ t ≤ zNB NB t := by
  unfold zS3 at h ⊢
  unfold zmc zms zNB zroom
  (repeat' split) <;> omega
theorem zNQ_room {NB t : Nat} (h : zSQ NB) (ht : t ≤ 32768) : zmc NB t + NB ≤ zNB NB t ∧ zms NB t + 2 * NB ≤ 2 * zNB NB t ∧ zSQ (zNB NB t) ∧ zNB NB t ≤ 32768 := by
  unfold zSQ at h ⊢
  unfold zmc zms zNB zroom
  (repeat' split) <;> omega
theorem zNS_room {NS t : Nat} (h : zS3 NS) (ht : t ≤ 32768) : zmc4 NS t + NS ≤ zNB NS t ∧ zms4 NS t + 8 * NS ≤ 8 * zNB NS t ∧ zNB NS t ≤ 32768 := by
  unfold zS3 at h
  unfold zmc4 zms4 zNB zroom
  (repeat' split) <;> omega
theorem zNE_room {NE t : Nat} (h : zSE NE) (ht : t ≤ 32768) : zmc3 NE t + NE ≤ zNE NE t ∧ zms3 NE t + 6 * NE ≤ 6 * zNE NE t ∧ zSE (zNE NE t) ∧ zNE NE t ≤ 10922 ∧ t / 3 ≤ zNE NE t := by
  unfold zSE at h ⊢
  unfold zmc3 zms3 zNE zroom
  (repeat' split) <;> omega
theorem zNP_room {NP t : Nat} (h : zSP NP) (ht : t ≤ 8193) : zmcP NP t + NP ≤ zNP NP t ∧ zmsP NP t + 8 * NP ≤ 8 * zNP NP t ∧ zSP (zNP NP t) ∧ zNP NP t ≤ 8193 := by
  unfold zSP at h ⊢
  unfold zmcP zmsP zNP zroom
  (repeat' split) <;> omega
theorem zfin_room {P : Prop} {i : Decidable P} {NS n NS2 : Nat} (h : zS3 NS) (hn : n ≤ 32768) (e : NS2 = zifN (@decide P i) (zNB NS n) NS) (hle : NS ≤ 32768) : zif (@decide P i) (zmc4 NS n) + NS ≤ NS2 ∧ zif (@decide P i) (zms4 NS n) + 8 * NS ≤ 8 * NS2 ∧ NS2 ≤ 32768 := by
  have hr := zNS_room h hn
  by_cases q : P
  · rw [e, zif_t q, zif_t q, zifN_t q]; exact hr
  · rw [e, zif_f q, zif_f q, zifN_f q]; omega
theorem zpln_room {P : Prop} {i : Decidable P} {NP t NP2 : Nat} (h : zSP NP) (hn : P → t ≤ 8193) (e : NP2 = zifN (@decide P i) (zNP NP t) NP) (hle : NP ≤ 8193) : zif (@decide P i) (zmcP NP t) + NP ≤ NP2 ∧ zif (@decide P i) (zmsP NP t) + 8 * NP ≤ 8 * NP2 ∧ NP2 ≤ 8193 ∧ zSP NP2 := by
  by_cases q : P
  · have hr := zNP_room h (hn q)
    rw [e, zif_t q, zif_t q, zifN_t q]; exact ⟨hr.1, hr.2.1, hr.2.2.2, hr.2.2.1⟩
  · rw [e, zif_f q, zif_f q, zifN_f q]; exact ⟨by omega, by omega, hle, h⟩
/-- what both are after something was put behind the DATA -/
theorem zap_room {P : Prop} {i : Decidable P} {NB t n n2 NB2 : Nat} (h : zS3 NB) (hn : n ≤ NB ∧ NB ≤ 32768) (e : (P ∧ t ≤ 32768 ∧ n2 = t ∧ NB2 = zNB NB t) ∨ (¬ P ∧ n2 = n ∧ NB2 = NB)) : zif (@decide P i) (zmc NB t) + NB ≤ NB2 ∧ zif (@decide P i) (zms NB t) + 2 * NB ≤ 2 * NB2 ∧ NB2 ≤ 32768 ∧ zS3 NB2 ∧ n2 ≤ NB2 := by
  rcases e with ⟨q, h1, h2, h3⟩ | ⟨q, h2, h3⟩
  · have hr := zNB_room h h1
    rw [h3, h2, zif_t q, zif_t q]; exact ⟨hr.1, hr.2.1, hr.2.2.2.1, hr.2.2.1, hr.2.2.2.2⟩
  · rw [h3, h2, zif_f q, zif_f q]; exact ⟨by omega, by omega, hn.2, h, hn.1⟩
theorem zhash_congr {d d2 : Nat → Int} {pp : Nat} : ∀ k, (∀ j, j < k → d2 (pp + j) = d (pp + j)) → zhash d2 pp k = zhash d pp k := by
  intro k
  induction k with
  | zero => intro _; rfl
  | succ k ih =>
    intro h
    rw [zhash, zhash, ih (fun j hj => h j (by omega)), h k (by omega)]
theorem zslot_congr {d d2 : Nat → Int} {ll NS pp : Nat} (h : ∀ j, j < ll → d2 (pp + j) = d (pp + j)) : zslot d2 ll NS pp = zslot d ll NS pp := by
  unfold zslot zslotI
  rw [zhash_congr ll h]
theorem zprev_congr {sl sl2 : Nat → Nat} {s : Nat} : ∀ c, (∀ q, q < c → sl2 q = sl q) → zprev sl2 s c = zprev sl s c := by
  intro c
  induction c with
  | zero => intro _; rfl
  | succ c ih =>
    intro h
    rw [zprev, zprev, h c (by omega), ih (fun q hq => h q (by omega))]
theorem zfi_app {d d2 : Nat → Int} {n n2 ll lk NS : Nat} {gL gK : Nat → Int} (h : zFI d n ll lk NS gL gK) (hn : n ≤ n2) (hd : ∀ j, j < n → d2 j = d j) : zFI d2 n2 ll lk NS gL gK := by
  rcases h with h | ⟨h1, h2, h3, h4, h5, h6⟩
  · exact Or.inl h
  · have key : ∀ q, q < lk → zslot d2 ll NS q = zslot d ll NS q := fun q hq => zslot_congr (fun j hj => hd _ (by omega))
    refine Or.inr ⟨h1, h2, by omega, by omega, fun s hs => ?_, fun q hq => ?_⟩
    · rw [h5 s hs, zprev_congr lk key]
    · rw [h6 q hq, key q hq, zprev_congr q (fun r hr => key r (by omega))]
theorem zfi_0 {d : Nat → Int} {least NS : Nat} {gL gK : Nat → Int} (h : 3 ≤ least ∧ least ≤ 8) (hg : ∀ j, j < NS → gL j = -1) : zFI d 0 least 0 NS gL gK := Or.inr ⟨h.1, h.2, Nat.le_refl _, Or.inl rfl, fun s hs => hg s hs, fun q hq => absurd hq (Nat.not_lt_zero q)⟩
theorem zmemo_app {d d2 : Nat → Int} {n n2 NS : Nat} {gS gT : Nat → Int} (h : zMemo d n NS gS gT) (hn : n ≤ n2) (hd : ∀ j, j < n → d2 j = d j) : zMemo d2 n2 NS gS gT := by
  intro f h1 h2
  obtain ⟨a1, a2, a3, a4⟩ := h f h1 h2
  refine ⟨a1, a2, by omega, fun i b1 b2 => ?_⟩
  obtain ⟨c1, c2⟩ := a4 i b1 b2
  exact ⟨c1, by rw [hd i (by omega), hd (i - f) (by omega)]; exact c2⟩
theorem zmemo_c {d : Nat → Int} {n NS : Nat} {gS gT : Nat → Int} (h1 : ∀ j, j < NS → gS j = 0) (h2 : ∀ j, j < NS → gT j = 0) : zMemo d n NS gS gT := by
  intro f _ hf
  rw [h1 f hf, h2 f hf]
  exact ⟨by omega, by omega, by omega, fun i a1 a2 => by omega⟩
theorem zval_app {d d2 : Nat → Int} {n pt st tl bt : Nat} {LB LE LD : Nat → Nat} (h : zVal d pt LB LE LD st) (hb : zpos pt LB LE st + tl = bt) (hn : bt ≤ n) (hd : ∀ j, j < n → d2 j = d j) : zVal d2 pt LB LE LD st := by
  intro k hk
  obtain ⟨a1, a2, a3⟩ := h k hk
  have hp := zpos_le pt LB LE (show k + 1 ≤ st by omega)
  have he : zpos pt LB LE (k + 1) = zpos pt LB LE k + LB k + LE k := rfl
  refine ⟨a1, a2, fun x b1 b2 => ?_⟩
  rw [hd x (by omega), hd (x - LD k) (by omega)]
  exact a3 x b1 b2
theorem zag_d {d d2 dm dm2 : Nat → Int} {n t mm : Nat} (hm : 1 ≤ mm) (h0 : ∀ j, j < n → d2 j = d j) (h1 : ∀ j, n ≤ j → j < t → d2 j = d2 (j - mm)) (g0 : ∀ j, j < n → dm2 j = dm j) (g1 : ∀ j, n ≤ j → j < t → dm2 j = dm2 (j - mm)) (hd : ∀ j, j < n → dm j = d j) (hmn : mm ≤ n) : ∀ k j, j < k → j < t → dm2 j = d2 j := by
  intro k
  induction k with
  | zero => intro j hj; exact absurd hj (Nat.not_lt_zero j)
  | succ k ih =>
    intro j hj ht
    rcases Nat.lt_or_ge j n with z | z
    · rw [g0 j z, h0 j z, hd j z]
    · rw [g1 j z ht, h1 j z ht]
      exact ih _ (by omega) (by omega)
theorem zmx_congr {g g2 : Nat → Int} : ∀ k, (∀ j, j < k → g2 j = g j) → zmx g2 k = zmx g k := by
  intro k
  induction k with
  | zero => intro _; rfl
  | succ k ih => intro h; rw [zmx, zmx, ih (fun j hj => h j (by omega)), h k (by omega)]
theorem zsr_congr {st : Nat} {lb le di lb2 le2 di2 : Nat → Int} {LB LE LD : Nat → Nat} {v what : Int} (h : ∀ j, j < st → lb j = ((LB j : Nat) : Int) ∧ le j = ((LE j : Nat) : Int) ∧ di j = ((LD j : Nat) : Int)) (h2 : ∀ j, j < st → lb2 j = ((LB j : Nat) : Int) ∧ le2 j = ((LE j : Nat) : Int) ∧ di2 j = ((LD j : Nat) : Int)) : zsr st lb2 le2 di2 v what = zsr st lb le di v what := by
  unfold zsr
  by_cases e : 0 ≤ v ∧ v < st
  · obtain ⟨a1, a2, a3⟩ := h v.toNat (by omega)
    obtain ⟨b1, b2, b3⟩ := h2 v.toNat (by omega)
    rw [a1, a2, a3, b1, b2, b3]
  · rw [if_neg e, if_neg e]
theorem zin_of {d : Nat → Int} {pt st tl bt : Nat} {le di : Nat → Int} {LB LE LD : Nat → Nat} (h : zVal d pt LB LE LD st) (hb : zpos pt LB LE st + tl = bt) (hn : bt ≤ 32768) (h2 : ∀ j, j < st → le j = ((LE j : Nat) : Int) ∧ di j = ((LD j : Nat) : Int)) : ∀ j, j < st → (0 ≤ le j ∧ le j ≤ 40000) ∧ (0 ≤ di j ∧ di j ≤ 40000) := fun k hk => by
  obtain ⟨a1, a2, a3⟩ := h k hk
  have hp := zpos_le pt LB LE (show k + 1 ≤ st by omega)
  have he : zpos pt LB LE (k + 1) = zpos pt LB LE k + LB k + LE k := rfl
  obtain ⟨b1, b2⟩ := h2 k hk
  omega
