/-- how many of at most k bytes from p on are those from q on -/
def zrun (d : Nat → Int) : Nat → Nat → Nat → Nat
  | 0, _, _ => 0
  | k + 1, p, q => if d p = d q then zrun d k (p + 1) (q + 1) + 1 else 0
theorem zrun_le (d : Nat → Int) : ∀ k p q, zrun d k p q ≤ k := by
  intro k
  induction k with
  | zero => intro p q; exact Nat.le_refl 0
  | succ k ih =>
    intro p q
    unfold zrun
    split
    · exact Nat.succ_le_succ (ih _ _)
    · exact Nat.zero_le _
theorem zrun_all (d : Nat → Int) : ∀ k p q j, j < zrun d k p q → d (p + j) = d (q + j) := by
  intro k
  induction k with
  | zero => intro p q j h; exact absurd h (Nat.not_lt_zero j)
  | succ k ih =>
    intro p q j h
    unfold zrun at h
    split at h
    · rename_i e
      cases j with
      | zero => exact e
      | succ j =>
        have h2 := ih (p + 1) (q + 1) j (by omega)
        rw [show p + (j + 1) = p + 1 + j by omega, show q + (j + 1) = q + 1 + j by omega]
        exact h2
    · exact absurd h (Nat.not_lt_zero j)
theorem zrun_ge (d : Nat → Int) : ∀ k p q r, r ≤ k → (∀ j, j < r → d (p + j) = d (q + j)) → r ≤ zrun d k p q := by
  intro k
  induction k with
  | zero => intro p q r h _; omega
  | succ k ih =>
    intro p q r h hj
    cases r with
    | zero => exact Nat.zero_le _
    | succ r =>
      unfold zrun
      rw [if_pos (show d p = d q from hj 0 (by omega))]
      refine Nat.succ_le_succ (ih (p + 1) (q + 1) r (by omega) (fun j h2 => ?_))
      have h3 := hj (j + 1) (by omega)
      rw [show p + 1 + j = p + (j + 1) by omega, show q + 1 + j = q + (j + 1) by omega]
      exact h3
theorem zrun_is {d : Nat → Int} {k p q r : Nat} (h1 : r ≤ k) (h2 : ∀ j, j < r → d (p + j) = d (q + j)) (h3 : r = k ∨ ¬ d (p + r) = d (q + r)) : zrun d k p q = r := by
  have a := zrun_ge d k p q r h1 h2
  have b := zrun_le d k p q
  rcases h3 with h | h
  · omega
  · rcases Nat.lt_or_ge r (zrun d k p q) with z | z
    · exact absurd (zrun_all d k p q r z) h
    · omega
theorem zrun_min (d : Nat → Int) (k k2 p q : Nat) : zrun d (min k k2) p q = min (zrun d k p q) k2 := by
  have a := zrun_le d k p q
  refine zrun_is (by omega) (fun j h => zrun_all d k p q j (by omega)) ?_
  by_cases h : min (zrun d k p q) k2 = min k k2
  · exact Or.inl h
  · refine Or.inr (fun e => ?_)
    have h2 : min (zrun d k p q) k2 = zrun d k p q := by omega
    rw [h2] at e
    have h3 := zrun_ge d k p q (zrun d k p q + 1) (by omega) (fun j hj => by
      rcases Nat.lt_or_ge j (zrun d k p q) with z | z
      · exact zrun_all d k p q j z
      · rw [show j = zrun d k p q by omega]; exact e)
    omega
/-- the greatest place below c whose slot is s, or -1 -/
def zprev (sl : Nat → Nat) (s : Nat) : Nat → Int
  | 0 => -1
  | c + 1 => if sl c = s then (c : Int) else zprev sl s c
theorem zprev_lt (sl : Nat → Nat) (s : Nat) : ∀ c, -1 ≤ zprev sl s c ∧ zprev sl s c < c := by
  intro c
  induction c with
  | zero => exact ⟨by unfold zprev; omega, by unfold zprev; omega⟩
  | succ c ih =>
    unfold zprev
    split <;> omega
theorem zprev_sl (sl : Nat → Nat) (s : Nat) : ∀ c (q : Nat), zprev sl s c = q → sl q = s := by
  intro c
  induction c with
  | zero => intro q h; unfold zprev at h; omega
  | succ c ih =>
    intro q h
    unfold zprev at h
    split at h
    · rename_i e
      rw [show q = c by omega]; exact e
    · exact ih q h
theorem zprev_none (sl : Nat → Nat) (s : Nat) : ∀ c (q : Nat), zprev sl s c < q → q < c → ¬ sl q = s := by
  intro c
  induction c with
  | zero => intro q _ h; omega
  | succ c ih =>
    intro q h1 h2 e
    unfold zprev at h1
    split at h1
    · rename_i e2
      omega
    · rename_i e2
      rcases Nat.lt_or_ge q c with z | z
      · exact ih q h1 z e
      · rw [show q = c by omega] at e
        exact e2 e
/-- of the places below c and not below lo the nearest with more than b bytes alike -/
def zfnd (f : Nat → Nat) (lo b : Nat) : Nat → Option Nat
  | 0 => none
  | c + 1 => if lo ≤ c ∧ b < f c then some c else zfnd f lo b c
theorem zfnd_skip {f : Nat → Nat} {lo b : Nat} : ∀ (c c2 : Nat), c2 ≤ c → (∀ q, c2 ≤ q → q < c → lo ≤ q → f q ≤ b) → zfnd f lo b c = zfnd f lo b c2 := by
  intro c
  induction c with
  | zero => intro c2 h _; rw [show c2 = 0 by omega]
  | succ c ih =>
    intro c2 h hq
    rcases Nat.eq_or_lt_of_le h with e | e
    · rw [e]
    · rw [zfnd, if_neg (fun z => by have := hq c (by omega) (by omega) z.1; omega)]
      exact ih c2 (by omega) (fun q h1 h2 h3 => hq q h1 (by omega) h3)
theorem zfnd_none {f : Nat → Nat} {lo b : Nat} : ∀ (c : Nat), (∀ q, q < c → lo ≤ q → f q ≤ b) → zfnd f lo b c = none := by
  intro c h
  rw [zfnd_skip c 0 (by omega) (fun q _ h2 h3 => h q h2 h3)]
  rfl
theorem zfnd_some {f : Nat → Nat} {lo b : Nat} : ∀ (c q : Nat), zfnd f lo b c = some q → q < c ∧ lo ≤ q ∧ b < f q ∧ ∀ r, q < r → r < c → lo ≤ r → f r ≤ b := by
  intro c
  induction c with
  | zero => intro q h; cases h
  | succ c ih =>
    intro q h
    rw [zfnd] at h
    split at h
    · rename_i e
      cases h
      exact ⟨by omega, e.1, e.2, fun r h1 h2 _ => by omega⟩
    · rename_i e
      obtain ⟨h1, h2, h3, h4⟩ := ih q h
      refine ⟨by omega, h2, h3, fun r g1 g2 g3 => ?_⟩
      rcases Nat.lt_or_ge r c with z | z
      · exact h4 r g1 z g3
      · rw [show r = c by omega] at g3 ⊢
        rcases Nat.lt_or_ge b (f c) with y | y
        · exact absurd ⟨g3, y⟩ e
        · exact y
theorem zfnd_noneE {f : Nat → Nat} {lo b : Nat} : ∀ (c : Nat), zfnd f lo b c = none → ∀ q, q < c → lo ≤ q → f q ≤ b := by
  intro c
  induction c with
  | zero => intro _ q h; omega
  | succ c ih =>
    intro h q h1 h2
    rw [zfnd] at h
    split at h
    · cases h
    · rename_i e
      rcases Nat.lt_or_ge q c with z | z
      · exact ih h q z h2
      · rw [show q = c by omega] at h2 ⊢
        rcases Nat.lt_or_ge b (f c) with y | y
        · exact absurd ⟨h2, y⟩ e
        · exact y
/-- the longest of the places below c, of several the nearest: its length and its place, from a best so far -/
def zbest (f : Nat → Nat) (lo : Nat) : Nat → Nat × Nat → Nat × Nat
  | 0, u => u
  | c + 1, u => zbest f lo c (if lo ≤ c ∧ u.1 < f c then (f c, c) else u)
theorem zbest_skip {f : Nat → Nat} {lo : Nat} {u : Nat × Nat} : ∀ (c c2 : Nat), c2 ≤ c → (∀ q, c2 ≤ q → q < c → lo ≤ q → f q ≤ u.1) → zbest f lo c u = zbest f lo c2 u := by
  intro c
  induction c with
  | zero => intro c2 h _; rw [show c2 = 0 by omega]
  | succ c ih =>
    intro c2 h hq
    rcases Nat.eq_or_lt_of_le h with e | e
    · rw [e]
    · rw [zbest, if_neg (fun z => by have := hq c (by omega) (by omega) z.1; omega)]
      exact ih c2 (by omega) (fun q h1 h2 h3 => hq q h1 (by omega) h3)
theorem zbest_fnd {f : Nat → Nat} {lo c q : Nat} {u : Nat × Nat} (h : zfnd f lo u.1 c = some q) : zbest f lo c u = zbest f lo q (f q, q) := by
  obtain ⟨h1, h2, h3, h4⟩ := zfnd_some c q h
  rw [zbest_skip c (q + 1) (by omega) (fun r g1 g2 g3 => h4 r (by omega) g2 g3), zbest, if_pos ⟨h2, h3⟩]
theorem zbest_end {f : Nat → Nat} {lo c : Nat} {u : Nat × Nat} (h : zfnd f lo u.1 c = none) : zbest f lo c u = u := by
  rw [zbest_skip c 0 (by omega) (fun r _ g2 g3 => zfnd_noneE c h r g2 g3)]
  rfl
/-- how many places below c have at least t bytes alike -/
def zcnt (f : Nat → Nat) (lo t : Nat) : Nat → Nat
  | 0 => 0
  | c + 1 => zcnt f lo t c + (if lo ≤ c ∧ t ≤ f c then 1 else 0)
theorem zcnt_skip {f : Nat → Nat} {lo t : Nat} : ∀ (c c2 : Nat), c2 ≤ c → (∀ q, c2 ≤ q → q < c → lo ≤ q → f q < t) → zcnt f lo t c = zcnt f lo t c2 := by
  intro c
  induction c with
  | zero => intro c2 h _; rw [show c2 = 0 by omega]
  | succ c ih =>
    intro c2 h hq
    rcases Nat.eq_or_lt_of_le h with e | e
    · rw [e]
    · rw [zcnt, if_neg (fun z => by have := hq c (by omega) (by omega) z.1; omega)]
      exact ih c2 (by omega) (fun q h1 h2 h3 => hq q h1 (by omega) h3)
theorem zch_none {sl : Nat → Nat} {s c lo b : Nat} {f : Nat → Nat} (h : zprev sl s c < lo) (hs : ∀ q, lo ≤ q → q < c → b < f q → sl q = s) : zfnd f lo b c = none := by
  refine zfnd_none c (fun q h1 h2 => ?_)
  rcases Nat.lt_or_ge b (f q) with y | y
  · exact absurd (hs q h2 h1 y) (zprev_none sl s c q (by omega) h1)
  · exact y
theorem zch_miss {sl : Nat → Nat} {s c lo b : Nat} {f : Nat → Nat} {q : Nat} (h : zprev sl s c = q) (hs : ∀ q, lo ≤ q → q < c → b < f q → sl q = s) (hq : f q ≤ b) : zfnd f lo b c = zfnd f lo b q := by
  have hl := zprev_lt sl s c
  refine zfnd_skip c q (by omega) (fun r h1 h2 h3 => ?_)
  rcases Nat.lt_or_ge b (f r) with y | y
  · rcases Nat.eq_or_lt_of_le h1 with e | e
    · rw [← e] at y; omega
    · exact absurd (hs r h3 h2 y) (zprev_none sl s c r (by omega) h2)
  · exact y
theorem zch_hit {sl : Nat → Nat} {s c lo b : Nat} {f : Nat → Nat} {q : Nat} (h : zprev sl s c = q) (hs : ∀ q, lo ≤ q → q < c → b < f q → sl q = s) (h1 : lo ≤ q) (hq : b < f q) : zfnd f lo b c = some q := by
  have hl := zprev_lt sl s c
  rw [zfnd_skip c (q + 1) (by omega) (fun r g1 g2 g3 => ?_), zfnd, if_pos ⟨h1, hq⟩]
  rcases Nat.lt_or_ge b (f r) with y | y
  · exact absurd (hs r g3 g2 y) (zprev_none sl s c r (by omega) g2)
  · exact y
/-- of how many bits a number is -/
def zbit (n b : Nat) : Prop := n < 2 ^ b ∧ (b = 0 ∨ 2 ^ (b - 1) ≤ n)
theorem zbit_is {n b b2 : Nat} (h : zbit n b) (h2 : zbit n b2) : b = b2 := by
  obtain ⟨h1, h3⟩ := h
  obtain ⟨g1, g3⟩ := h2
  rcases Nat.lt_trichotomy b b2 with z | z | z
  · have : 2 ^ b ≤ 2 ^ (b2 - 1) := Nat.pow_le_pow_right (by omega) (by omega)
    omega
  · exact z
  · have : 2 ^ b2 ≤ 2 ^ (b - 1) := Nat.pow_le_pow_right (by omega) (by omega)
    omega
