theorem zbits_mono {a b : Nat} (h : a ≤ b) : zbits a ≤ zbits b := by
  obtain ⟨a1, a2⟩ := zbits_ok a
  obtain ⟨b1, b2⟩ := zbits_ok b
  rcases Nat.lt_or_ge (zbits b) (zbits a) with z | z
  · have h1 : 2 ^ zbits b ≤ 2 ^ (zbits a - 1) := Nat.pow_le_pow_right (by omega) (by omega)
    omega
  · exact z
theorem zfnd_congr {f g : Nat → Nat} {lo b : Nat} : ∀ c, (∀ q, q < c → lo ≤ q → f q = g q) → zfnd f lo b c = zfnd g lo b c := by
  intro c
  induction c with
  | zero => intro _; rfl
  | succ c ih =>
    intro h
    rw [zfnd, zfnd, ih (fun q a1 a2 => h q (by omega) a2)]
    by_cases e : lo ≤ c
    · rw [h c (by omega) e]
    · rw [if_neg (fun z => e z.1), if_neg (fun z => e z.1)]
/-- of the ends from lo to F the cheapest, of several the furthest -/
def zArg (C : Nat → Nat) (lo F e : Nat) : Prop := lo ≤ e ∧ e ≤ F ∧ ∀ e2, lo ≤ e2 → e2 ≤ F → C e < C e2 ∨ (C e = C e2 ∧ e2 ≤ e)
/-- the ends, the furthest first, without those that a further one beats -/
def zStk (C : Nat → Nat) (ex : Nat → Nat) (m lo hi : Nat) : Prop :=
  (∀ a, a < m → lo ≤ ex a ∧ ex a ≤ hi) ∧ (∀ a b, a < b → b < m → ex b < ex a) ∧ (∀ a b, a < b → b < m → C (ex a) ≤ C (ex b)) ∧
  (∀ e a, lo ≤ e → e ≤ hi → a < m → ex a ≤ e → (∀ b, b < a → e < ex b) → ex a = e ∨ C (ex a) < C e) ∧ (lo ≤ hi → 0 < m ∧ ex (m - 1) = lo)
theorem zstk_first {C ex : Nat → Nat} {m lo hi F : Nat} (h : zStk C ex m lo hi) (h1 : lo ≤ F) (h2 : lo ≤ hi) : ∃ a, a < m ∧ ex a ≤ F ∧ ∀ b, b < a → F < ex b := by
  obtain ⟨g1, g2⟩ := h.2.2.2.2 h2
  obtain ⟨a, a1, a2⟩ := pk_least (fun a => a < m ∧ ex a ≤ F) ⟨m - 1, by omega, by omega⟩
  refine ⟨a, a1.1, a1.2, fun b hb => ?_⟩
  rcases Nat.lt_or_ge F (ex b) with z | z
  · exact z
  · exact absurd ⟨by omega, z⟩ (a2 b hb)
theorem zstk_arg {C ex : Nat → Nat} {m lo hi F a : Nat} (h : zStk C ex m lo hi) (hF : F ≤ hi) (h1 : a < m) (h2 : ex a ≤ F) (h3 : ∀ b, b < a → F < ex b) : zArg C lo F (ex a) := by
  obtain ⟨s1, s2, s3, s4, s5⟩ := h
  have r1 := s1 a h1
  refine ⟨r1.1, h2, fun e g1 g2 => ?_⟩
  rcases Nat.lt_trichotomy e (ex a) with z | z | z
  · obtain ⟨b, b1, b2, b3⟩ := zstk_first (F := e) ⟨s1, s2, s3, s4, s5⟩ g1 (by omega)
    have hab : a < b := by
      rcases Nat.lt_trichotomy a b with y | y | y
      · exact y
      · subst y; omega
      · have := s2 b a y h1; omega
    have c1 := s3 a b hab b1
    rcases s4 e b g1 (by omega) b1 b2 b3 with y | y
    · rw [y] at c1
      omega
    · omega
  · rw [z]; exact Or.inr ⟨rfl, Nat.le_refl _⟩
  · rcases s4 e a g1 (by omega) h1 (by omega) (fun b hb => by have := h3 b hb; omega) with y | y
    · omega
    · exact Or.inl y
theorem zstk_push {C ex : Nat → Nat} {m m2 lo hi en : Nat} (h : zStk C ex m lo hi) (he : en + 1 = lo) (hh : en ≤ hi) (hm : m2 ≤ m) (h1 : ∀ a, m2 ≤ a → a < m → C en < C (ex a)) (h2 : m2 = 0 ∨ C (ex (m2 - 1)) ≤ C en) : zStk C (zUn ex m2 en) (m2 + 1) en hi := by
  obtain ⟨s1, s2, s3, s4, s5⟩ := h
  have eo : ∀ a, a < m2 → zUn ex m2 en a = ex a := fun a ha => by simp only [zUn, if_neg (show ¬ a = m2 by omega)]
  have en1 : zUn ex m2 en m2 = en := by simp [zUn]
  have cle : ∀ a, a < m2 → C (ex a) ≤ C en := fun a ha => by
    rcases h2 with z | z
    · omega
    · rcases Nat.eq_or_lt_of_le (show a ≤ m2 - 1 by omega) with y | y
      · rw [y]; exact z
      · have := s3 a (m2 - 1) y (by omega); omega
  refine ⟨fun a ha => ?_, fun a b hab hb => ?_, fun a b hab hb => ?_, fun e a g1 g2 g3 g4 g5 => ?_, fun _ => ⟨by omega, by rw [Nat.add_sub_cancel]; exact en1⟩⟩
  · rcases Nat.lt_or_ge a m2 with z | z
    · rw [eo a z]; have := s1 a (by omega); omega
    · rw [show a = m2 by omega, en1]; omega
  · rcases Nat.lt_or_ge b m2 with z | z
    · rw [eo a (by omega), eo b z]; exact s2 a b hab (by omega)
    · rw [show b = m2 by omega, en1, eo a (by omega)]; have := s1 a (by omega); omega
  · rcases Nat.lt_or_ge b m2 with z | z
    · rw [eo a (by omega), eo b z]; exact s3 a b hab (by omega)
    · rw [show b = m2 by omega, en1, eo a (by omega)]; exact cle a (by omega)
  · rcases Nat.lt_or_ge a m2 with z | z
    · rw [eo a z] at g4 ⊢
      have := s1 a (by omega)
      exact s4 e a (by omega) g2 (by omega) g4 (fun b hb => by have := g5 b hb; rw [eo b (by omega)] at this; exact this)
    · have ea : a = m2 := by omega
      subst ea
      rw [en1] at g4 ⊢
      rcases Nat.eq_or_lt_of_le g1 with y | y
      · exact Or.inl y
      · refine Or.inr ?_
        obtain ⟨b, b1, b2, b3⟩ := zstk_first (F := e) ⟨s1, s2, s3, s4, s5⟩ (by omega) (by omega)
        have hb : a ≤ b := by
          rcases Nat.lt_or_ge b a with w | w
          · have := g5 b w; rw [eo b w] at this; omega
          · exact w
        have c1 := h1 b hb b1
        rcases s4 e b (by omega) g2 b1 b2 b3 with w | w
        · rw [w] at c1; exact c1
        · omega
theorem zstk_congr {C C2 ex : Nat → Nat} {m lo hi : Nat} (h : zStk C ex m lo hi) (e : ∀ j, lo ≤ j → j ≤ hi → C2 j = C j) : zStk C2 ex m lo hi := by
  obtain ⟨s1, s2, s3, s4, s5⟩ := h
  refine ⟨s1, s2, fun a b hab hb => ?_, fun x a g1 g2 g3 g4 g5 => ?_, s5⟩
  · have r1 := s1 a (by omega)
    have r2 := s1 b hb
    rw [e _ r1.1 r1.2, e _ r2.1 r2.2]; exact s3 a b hab hb
  · have r1 := s1 a g3
    rw [e _ r1.1 r1.2, e x g1 g2]; exact s4 x a g1 g2 g3 g4 g5
/-- a MATCH at P with the length w, of the place q -/
def zvo (d : Nat → Int) (n win cap ga gb least P w q : Nat) : Prop := q < zs n ga least P (zlm cap gb n P) ∧ P - win ≤ q ∧ least ≤ w ∧ w ≤ zrun d (zlm cap gb n P).toNat P q
def zle (c w x c2 w2 x2 : Nat) : Prop := c < c2 ∨ (c = c2 ∧ (w2 < w ∨ (w2 = w ∧ x ≤ x2)))
/-- what is best at the place h + i, of all MATCHES whose places are not below cc -/
def zopf (d : Nat → Int) (n win cap ga gb least lp mp h : Nat) (C : Nat → Nat) (i cc c w x : Nat) : Prop :=
  ((w = 0 ∧ x = 0 ∧ c = lp + C (i + 1)) ∨ (c ≤ lp + C (i + 1) ∧ ∃ q, cc ≤ q ∧ zvo d n win cap ga gb least (h + i) w q ∧ x = h + i - q ∧ c = mp + zbits x + C (i + w))) ∧
  ∀ w2 q2, zvo d n win cap ga gb least (h + i) w2 q2 → cc ≤ q2 → zle c w x (mp + zbits (h + i - q2) + C (i + w2)) w2 (h + i - q2)
theorem zop_lit (d : Nat → Int) (n win cap ga gb least lp mp h : Nat) (C : Nat → Nat) (i : Nat) : zopf d n win cap ga gb least lp mp h C i (zs n ga least (h + i) (zlm cap gb n (h + i))) (lp + C (i + 1)) 0 0 :=
  ⟨Or.inl ⟨rfl, rfl, rfl⟩, fun w2 q2 h1 h2 => by have := h1.1; omega⟩
def zrec (f : Nat → Nat) (lo c0 least b cc : Nat) : Prop := b + 1 = least ∨ (least ≤ b ∧ ∃ q, cc ≤ q ∧ q < c0 ∧ lo ≤ q ∧ f q = b)
theorem zop_skip {d : Nat → Int} {n win cap ga gb least lp mp h : Nat} {C : Nat → Nat} {i cc c2 c w x b : Nat} (hc : c2 ≤ cc) (h1 : zopf d n win cap ga gb least lp mp h C i cc c w x) (h2 : zrec (zrun d (zlm cap gb n (h + i)).toNat (h + i)) (h + i - win) (zs n ga least (h + i) (zlm cap gb n (h + i))) least b cc)
    (h3 : ∀ r, c2 ≤ r → r < cc → h + i - win ≤ r → zrun d (zlm cap gb n (h + i)).toNat (h + i) r ≤ b) : zopf d n win cap ga gb least lp mp h C i c2 c w x := by
  refine ⟨h1.1.imp id (fun z => ⟨z.1, z.2.choose, by have := z.2.choose_spec.1; omega, z.2.choose_spec.2⟩), fun w2 q2 g1 g2 => ?_⟩
  rcases Nat.lt_or_ge q2 cc with z | z
  · have r1 := h3 q2 g2 z g1.2.1
    obtain ⟨k1, k2, k3, k4⟩ := g1
    rcases h2 with y | ⟨y, q, q1, q3, q4, q5⟩
    · omega
    · have o1 := h1.2 w2 q ⟨q3, q4, k3, by omega⟩ q1
      have m1 := zbits_mono (show h + i - q ≤ h + i - q2 by omega)
      unfold zle at o1 ⊢
      omega
  · exact h1.2 w2 q2 g1 z
/-- the better of two -/
def zbt (c w x c2 w2 x2 : Nat) : Nat × Nat × Nat := if c2 < c ∨ (c2 = c ∧ w < w2) then (c2, w2, x2) else (c, w, x)
theorem zop_step {d : Nat → Int} {n win cap ga gb least lp mp h : Nat} {C : Nat → Nat} {i q c w x e c3 w3 x3 : Nat} (hl : 1 ≤ least) (h1 : zopf d n win cap ga gb least lp mp h C i (q + 1) c w x) (h2 : q < zs n ga least (h + i) (zlm cap gb n (h + i))) (h3 : h + i - win ≤ q) (h4 : q < h + i)
    (h5 : zArg C (i + least) (i + zrun d (zlm cap gb n (h + i)).toNat (h + i) q) e) (h6 : (c3, w3, x3) = zbt c w x (mp + zbits (h + i - q) + C e) (e - i) (h + i - q)) : zopf d n win cap ga gb least lp mp h C i q c3 w3 x3 := by
  obtain ⟨e1, e2, e3⟩ := h5
  have hie : i + (e - i) = e := by omega
  have vo : zvo d n win cap ga gb least (h + i) (e - i) q := ⟨h2, h3, by omega, by omega⟩
  have key : ∀ w2, zvo d n win cap ga gb least (h + i) w2 q → zle (mp + zbits (h + i - q) + C e) (e - i) (h + i - q) (mp + zbits (h + i - q) + C (i + w2)) w2 (h + i - q) := fun w2 g => by
    have := e3 (i + w2) (by have := g.2.2.1; omega) (by have := g.2.2.2; omega)
    unfold zle
    omega
  unfold zbt at h6
  split at h6
  · rename_i t
    simp only [Prod.mk.injEq] at h6
    obtain ⟨rfl, rfl, rfl⟩ := h6
    refine ⟨Or.inr ⟨?_, q, Nat.le_refl q, vo, rfl, by rw [hie]⟩, fun w2 q2 g1 g2 => ?_⟩
    · rcases h1.1 with ⟨_, _, y⟩ | ⟨y, _⟩ <;> omega
    · rcases Nat.eq_or_lt_of_le g2 with y | y
      · rw [← y] at g1 ⊢; exact key w2 g1
      · have := h1.2 w2 q2 g1 y
        unfold zle at this ⊢
        omega
  · rename_i t
    simp only [Prod.mk.injEq] at h6
    obtain ⟨rfl, rfl, rfl⟩ := h6
    refine ⟨h1.1.imp id (fun z => ⟨z.1, z.2.choose, by have := z.2.choose_spec.1; omega, z.2.choose_spec.2⟩), fun w2 q2 g1 g2 => ?_⟩
    rcases Nat.eq_or_lt_of_le g2 with y | y
    · rw [← y] at g1 ⊢
      have k1 := key w2 g1
      rcases h1.1 with ⟨w0, x0, y0⟩ | ⟨y0, q0, vq, v0, x0, c0⟩
      · unfold zle at k1 ⊢
        have := g1.2.2.1
        omega
      · unfold zle at k1 ⊢
        omega
    · exact h1.2 w2 q2 g1 y
theorem zvo_le {d : Nat → Int} {n win cap ga gb least P w q : Nat} (h : zvo d n win cap ga gb least P w q) (hl : 1 ≤ least) : P + w ≤ n ∧ q < P := by
  obtain ⟨h1, h2, h3, h4⟩ := h
  have h5 := zrun_le d (zlm cap gb n P).toNat P q
  have h6 := zlm_in cap gb n P
  unfold zs at h1
  split at h1 <;> omega
theorem zop_congr {d : Nat → Int} {n win cap ga gb least lp mp h : Nat} {C C2 : Nat → Nat} {i c w x : Nat} (hl : 1 ≤ least) (hi : h + i < n) (e : ∀ j, i < j → h + j ≤ n → C2 j = C j) (h1 : zopf d n win cap ga gb least lp mp h C i 0 c w x) : zopf d n win cap ga gb least lp mp h C2 i 0 c w x := by
  refine ⟨?_, fun w2 q2 g1 g2 => ?_⟩
  · rw [e (i + 1) (by omega) (by omega)]
    rcases h1.1 with z | ⟨z, q, q0, q1, q2, q3⟩
    · exact Or.inl z
    · refine Or.inr ⟨z, q, q0, q1, q2, ?_⟩
      have := zvo_le q1 hl
      rw [e (i + w) (by have := q1.2.2.1; omega) (by omega)]
      exact q3
  · have := zvo_le g1 hl
    rw [e (i + w2) (by have := g1.2.2.1; omega) (by omega)]
    exact h1.2 w2 q2 g1 g2
theorem zop_uniq {d : Nat → Int} {n win cap ga gb least lp mp h : Nat} {C : Nat → Nat} {i c w x c2 w2 x2 : Nat} (hl : 1 ≤ least) (h1 : zopf d n win cap ga gb least lp mp h C i 0 c w x) (h2 : zopf d n win cap ga gb least lp mp h C i 0 c2 w2 x2) : c = c2 ∧ w = w2 ∧ x = x2 := by
  rcases h1.1 with ⟨a1, a2, a3⟩ | ⟨a1, q, _, a2, a3, a4⟩ <;> rcases h2.1 with ⟨b1, b2, b3⟩ | ⟨b1, r, _, b2, b3, b4⟩
  · omega
  · have k1 := h1.2 w2 r b2 (Nat.zero_le r)
    have k2 := b2.2.2.1
    rw [← b3, ← b4] at k1
    unfold zle at k1
    omega
  · have k1 := h2.2 w q a2 (Nat.zero_le q)
    have k2 := a2.2.2.1
    rw [← a3, ← a4] at k1
    unfold zle at k1
    omega
  · have k1 := h1.2 w2 r b2 (Nat.zero_le r)
    have k2 := h2.2 w q a2 (Nat.zero_le q)
    rw [← b3, ← b4] at k1
    rw [← a3, ← a4] at k2
    unfold zle at k1 k2
    omega
/-- the plan: of each place behind the HISTORY what it costs to the end, what is taken there -/
def zPlan (d : Nat → Int) (n win cap ga gb least lp mp h : Nat) (C W X : Nat → Nat) : Prop := C (n - h) = 0 ∧ ∀ i, h + i < n → zopf d n win cap ga gb least lp mp h C i 0 (C i) (W i) (X i)
theorem zplan_uniq {d : Nat → Int} {n win cap ga gb least lp mp h : Nat} {C W X C2 W2 X2 : Nat → Nat} (hl : 1 ≤ least) (h1 : zPlan d n win cap ga gb least lp mp h C W X) (h2 : zPlan d n win cap ga gb least lp mp h C2 W2 X2) : ∀ k i, h + i ≤ n → n - (h + i) ≤ k → C i = C2 i ∧ (h + i < n → W i = W2 i ∧ X i = X2 i) := by
  intro k
  induction k with
  | zero =>
    intro i g1 g2
    have e : i = n - h := by omega
    exact ⟨by rw [e, h1.1, h2.1], fun z => by omega⟩
  | succ k ih =>
    intro i g1 g2
    rcases Nat.eq_or_lt_of_le g1 with z | z
    · have e : i = n - h := by omega
      exact ⟨by rw [e, h1.1, h2.1], fun y => by omega⟩
    · have o2 := zop_congr hl z (fun j j1 j2 => (ih j j2 (by omega)).1) (h2.2 i z)
      have u := zop_uniq hl (h1.2 i z) o2
      exact ⟨u.1, fun _ => u.2⟩
theorem zbest_ge {f : Nat → Nat} {lo : Nat} : ∀ (c : Nat) (u : Nat × Nat), u.1 ≤ (zbest f lo c u).1 ∧ ∀ q, q < c → lo ≤ q → f q ≤ (zbest f lo c u).1 := by
  intro c
  induction c with
  | zero => intro u; exact ⟨Nat.le_refl _, fun q h => by omega⟩
  | succ c ih =>
    intro u
    rw [zbest]
    have h1 := ih (if lo ≤ c ∧ u.1 < f c then (f c, c) else u)
    refine ⟨?_, fun q g1 g2 => ?_⟩
    · refine Nat.le_trans ?_ h1.1
      split
      · rename_i e; exact Nat.le_of_lt e.2
      · exact Nat.le_refl _
    · rcases Nat.lt_or_ge q c with z | z
      · exact h1.2 q z g2
      · have e : q = c := by omega
        subst e
        refine Nat.le_trans ?_ h1.1
        split
        · exact Nat.le_refl _
        · rename_i e
          rcases Nat.lt_or_ge u.1 (f q) with y | y
          · exact absurd ⟨g2, y⟩ e
          · exact y
/-- none is longer by two than all at the next place -/
theorem znext {d : Nat → Int} {n win cap ga gb least P q : Nat} (hl : 1 ≤ least) (h1 : P + 1 + 1 + ga ≤ n) (h2 : q < zs n ga least P (zlm cap gb n P)) (h3 : P - win ≤ q) (h4 : least < zrun d (zlm cap gb n P).toNat P q) : zrun d (zlm cap gb n P).toNat P q ≤ (zlg d n win cap ga gb least (P + 1)).1 + 1 := by
  have r0 := zrun_le d (zlm cap gb n P).toNat P q
  have qP : q < P := by
    unfold zs at h2
    split at h2 <;> omega
  have lm2 : (zlm cap gb n P).toNat ≤ (zlm cap gb n (P + 1)).toNat + 1 := by
    unfold zlm
    omega
  have r1 := zrun_ge d (zlm cap gb n (P + 1)).toNat (P + 1) (q + 1) (zrun d (zlm cap gb n P).toNat P q - 1) (by omega) (fun j hj => by
    have := zrun_all d (zlm cap gb n P).toNat P q (j + 1) (by omega)
    rw [show P + 1 + j = P + (j + 1) by omega, show q + 1 + j = q + (j + 1) by omega]
    exact this)
  have r2 := zrun_le d (zlm cap gb n (P + 1)).toNat (P + 1) (q + 1)
  have z1 : zs n ga least (P + 1) (zlm cap gb n (P + 1)) = P + 1 := if_pos ⟨by omega, by omega⟩
  have b1 := (zbest_ge (f := zrun d (zlm cap gb n (P + 1)).toNat (P + 1)) (lo := P + 1 - win) (P + 1) (least - 1, 0)).2 (q + 1) (by omega) (by omega)
  unfold zlg zLG
  rw [z1, if_pos (by omega)]
  show _ ≤ (zbest _ _ _ _).1 + 1
  omega
/-- a limit that cuts nothing -/
theorem zcut {d : Nat → Int} {n win cap ga gb least P q Ln : Nat} (h0 : ∀ q, q < zs n ga least P (zlm cap gb n P) → P - win ≤ q → zrun d (zlm cap gb n P).toNat P q ≤ max least (Ln + 1)) (h2 : q < zs n ga least P (zlm cap gb n P)) (h3 : P - win ≤ q) : zrun d (min (zlm cap gb n P) (max (least : Int) ((Ln : Int) + 1))).toNat P q = zrun d (zlm cap gb n P).toNat P q := by
  rw [show (min (zlm cap gb n P) (max (least : Int) ((Ln : Int) + 1))).toNat = min (zlm cap gb n P).toNat (max least (Ln + 1)) by omega, zrun_min]
  have := h0 q h2 h3
  omega
