/-! cutting: the pure side -/
def s6 (f : Nat → Nat) : Nat := f 0 + f 1 + f 2 + f 3 + f 4 + f 5
def pl (L I : Nat → Nat) (P : Nat) : Nat → Nat → Option ((Nat → Nat) × Nat)
  | 0, _ => some (L, 0)
  | k + 1, c => (pl L I P k (c / P)).bind (fun s => if I k ≤ s.1 (c % P) then some (nupd s.1 (c % P) (s.1 (c % P) - I k), s.2 + if s.1 (c % P) = L (c % P) then s.1 (c % P) else 0) else none)
def cv (L I : Nat → Nat) (P N c : Nat) : Nat := ((pl L I P N c).bind (fun s => some (60000 - s.2))).getD 0
def ck (v x : Nat) : Nat := if v = 0 then 0 else v * 65536 + (65535 - x)
def sI (I : Nat → Nat) : Nat → Nat
  | 0 => 0
  | k + 1 => sI I k + I k
theorem pl_none {L I : Nat → Nat} {P : Nat} : ∀ m k c x, pl L I P k c = none → x / P ^ m = c → pl L I P (k + m) x = none := by
  intro m
  induction m with
  | zero =>
    intro k c x h hx
    rw [Nat.pow_zero, Nat.div_one] at hx
    subst hx
    exact h
  | succ m ih =>
    intro k c x h hx
    rw [dv_s'] at hx
    show (pl L I P (k + m) (x / P)).bind _ = none
    rw [ih k c (x / P) h hx]
    rfl
theorem pl_child {L I : Nat → Nat} {P k c p : Nat} {R : Nat → Nat} {tc : Nat} (hp : p < P) (h : pl L I P k c = some (R, tc)) : pl L I P (k + 1) (c * P + p) = if I k ≤ R p then some (nupd R p (R p - I k), tc + if R p = L p then R p else 0) else none := by
  show (pl L I P k ((c * P + p) / P)).bind _ = _
  rw [(dv_c c p P hp).1, h, Option.bind_some, (dv_c c p P hp).2]
theorem pl_some {L I : Nat → Nat} {P k x : Nat} {R : Nat → Nat} {tc : Nat} (h : pl L I P (k + 1) x = some (R, tc)) : ∃ R' tc', pl L I P k (x / P) = some (R', tc') ∧ I k ≤ R' (x % P) ∧ R = nupd R' (x % P) (R' (x % P) - I k) ∧ tc = tc' + if R' (x % P) = L (x % P) then R' (x % P) else 0 := by
  have h : (pl L I P k (x / P)).bind (fun s => if I k ≤ s.1 (x % P) then some (nupd s.1 (x % P) (s.1 (x % P) - I k), s.2 + if s.1 (x % P) = L (x % P) then s.1 (x % P) else 0) else none) = some (R, tc) := h
  cases hq : pl L I P k (x / P) with
  | none => rw [hq] at h; exact absurd h (by simp)
  | some s =>
    obtain ⟨R', tc'⟩ := s
    rw [hq, Option.bind_some] at h
    by_cases hI : I k ≤ R' (x % P)
    · rw [if_pos hI] at h
      injection h with h
      injection h with h1 h2
      exact ⟨R', tc', rfl, hI, h1.symm, h2.symm⟩
    · rw [if_neg hI] at h; exact absurd h (by simp)
theorem pl_mono {L I : Nat → Nat} {P k c : Nat} {R : Nat → Nat} {tc : Nat} (h : pl L I P k c = some (R, tc)) : ∀ m x R' tc', x / P ^ m = c → pl L I P (k + m) x = some (R', tc') → tc ≤ tc' := by
  intro m
  induction m with
  | zero =>
    intro x R' tc' hx h2
    rw [Nat.pow_zero, Nat.div_one] at hx
    subst hx
    have := h.symm.trans h2
    injection this with this
    injection this with _ this
    omega
  | succ m ih =>
    intro x R' tc' hx h2
    rw [dv_s'] at hx
    obtain ⟨R1, tc1, a1, a2, a3, a4⟩ := pl_some (k := k + m) h2
    have := ih (x / P) R1 tc1 hx a1
    omega
theorem s6_upd {f : Nat → Nat} {q v : Nat} (hq : q < 6) (hv : v ≤ f q) : s6 (nupd f q v) + (f q - v) = s6 f := by
  unfold s6 nupd
  rcases (by omega : q = 0 ∨ q = 1 ∨ q = 2 ∨ q = 3 ∨ q = 4 ∨ q = 5) with rfl | rfl | rfl | rfl | rfl | rfl <;> simp <;> omega
/-- what lies untouched counts nothing -/
def tch (L R : Nat → Nat) : Nat → Nat := fun p => if R p = L p then 0 else L p
def lft (L R : Nat → Nat) : Nat → Nat := fun p => if R p = L p then 0 else R p
theorem s6_nupd {f : Nat → Nat} {q w : Nat} (hq : q < 6) : s6 (nupd f q w) + f q = s6 f + w := by
  unfold s6 nupd
  rcases (by omega : q = 0 ∨ q = 1 ∨ q = 2 ∨ q = 3 ∨ q = 4 ∨ q = 5) with rfl | rfl | rfl | rfl | rfl | rfl <;> simp <;> omega
theorem s6_tch {L R : Nat → Nat} {q v : Nat} (hq : q < 6) (hv : v < R q) (hL : R q ≤ L q) : s6 (tch L (nupd R q v)) = s6 (tch L R) + if R q = L q then R q else 0 := by
  have e : tch L (nupd R q v) = nupd (tch L R) q (L q) := by
    funext p
    unfold tch nupd
    by_cases hp : p = q
    · subst hp
      rw [if_pos rfl, if_pos rfl, if_neg (by omega)]
    · rw [if_neg hp, if_neg hp]
  have h := s6_nupd (f := tch L R) (w := L q) hq
  rw [e]
  have e2 : tch L R q = if R q = L q then 0 else L q := rfl
  rw [e2] at h
  by_cases hp : R q = L q
  · rw [if_pos hp] at h ⊢; omega
  · rw [if_neg hp] at h ⊢; omega
theorem pl_ok {L I : Nat → Nat} {P : Nat} (hP : P ≤ 6) (hI : ∀ n, 1 ≤ I n) : ∀ k c R tc, c < P ^ k → pl L I P k c = some (R, tc) → (∀ p, R p ≤ L p) ∧ tc = s6 (tch L R) ∧ s6 R + sI I k = s6 L := by
  intro k
  induction k with
  | zero =>
    intro c R tc _ h
    injection h with h
    injection h with h1 h2
    subst h1 h2
    refine ⟨fun p => Nat.le_refl _, ?_, rfl⟩
    unfold s6 tch
    simp
  | succ k ih =>
    intro c R tc hc h
    have hT : 0 < P := by
      rcases Nat.eq_zero_or_pos P with h0 | h0
      · subst h0; rw [Nat.pow_succ, Nat.mul_zero] at hc; omega
      · exact h0
    have hc2 : c / P < P ^ k := (Nat.div_lt_iff_lt_mul hT).mpr (by rw [← Nat.pow_succ]; exact hc)
    have hm := Nat.mod_lt c hT
    obtain ⟨R1, tc1, a1, a2, a3, a4⟩ := pl_some h
    obtain ⟨b1, b2, b3⟩ := ih _ _ _ hc2 a1
    have hi := hI k
    have hb := b1 (c % P)
    refine ⟨fun p => ?_, ?_, ?_⟩
    · rw [a3]
      unfold nupd
      by_cases hp : p = c % P
      · rw [if_pos hp, hp]; omega
      · rw [if_neg hp]; exact b1 p
    · rw [a4, b2, a3, s6_tch (by omega) (by omega) hb]
    · have := s6_upd (f := R1) (q := c % P) (v := R1 (c % P) - I k) (by omega) (by omega)
      rw [a3]
      show s6 _ + (sI I k + I k) = _
      omega
theorem s6_lft {L R : Nat → Nat} (h : ∀ p, R p ≤ L p) : s6 (lft L R) + s6 L = s6 (tch L R) + s6 R := by
  have a : ∀ p, lft L R p + L p = tch L R p + R p := fun p => by
    unfold lft tch
    by_cases hp : R p = L p
    · rw [if_pos hp, if_pos hp, hp]
    · rw [if_neg hp, if_neg hp]; omega
  have h0 := a 0
  have h1 := a 1
  have h2 := a 2
  have h3 := a 3
  have h4 := a 4
  have h5 := a 5
  unfold s6
  omega
theorem pl_left {L I : Nat → Nat} {P : Nat} (hP : P ≤ 6) (hI : ∀ n, 1 ≤ I n) {k c : Nat} {R : Nat → Nat} {tc : Nat} (hc : c < P ^ k) (h : pl L I P k c = some (R, tc)) : s6 (lft L R) + sI I k = tc := by
  obtain ⟨b1, b2, b3⟩ := pl_ok hP hI k c R tc hc h
  have := s6_lft b1
  omega
theorem tch_le {L R : Nat → Nat} (hL : ∀ p, L p ≤ 9999) : s6 (tch L R) ≤ 59994 := by
  have a : ∀ p, tch L R p ≤ 9999 := fun p => by
    unfold tch
    split
    · omega
    · exact hL p
  have h0 := a 0
  have h1 := a 1
  have h2 := a 2
  have h3 := a 3
  have h4 := a 4
  have h5 := a 5
  unfold s6
  omega
theorem cv_some {L I : Nat → Nat} {P N c : Nat} {R : Nat → Nat} {tc : Nat} (h : pl L I P N c = some (R, tc)) : cv L I P N c = 60000 - tc := by
  unfold cv
  rw [h, Option.bind_some]
  rfl
theorem cv_none {L I : Nat → Nat} {P N c : Nat} (h : pl L I P N c = none) : cv L I P N c = 0 := by
  unfold cv
  rw [h]
  rfl
theorem pw6 {P k : Nat} (hP : P ≤ 6) (hk : k ≤ 6) : P ^ k ≤ 46656 := by
  have h1 : P ^ k ≤ 6 ^ k := Nat.pow_le_pow_left hP k
  have h2 : 6 ^ k ≤ 6 ^ 6 := Nat.pow_le_pow_right (by omega) hk
  omega
def At2 (L I : Nat → Nat) (P N v C : Nat) (B : Nat → Int32) : Prop := v = 0 ∨ (v = cv L I P N C ∧ C < P ^ N ∧ ∀ i, i < N → B i = nI (dg P N C i))
theorem best_two {L I : Nat → Nat} {P N v C w E : Nat} {B G : Nat → Int32} (hP : P ≤ 6) (hN : N ≤ 6) (h1 : At2 L I P N v C B) (h2 : At2 L I P N w E G) (d1 : ∀ x, x < P ^ N → ck (cv L I P N x) x ≤ ck v C) (d2 : ∀ x, x < P ^ N → ck (cv L I P N x) x ≤ ck w E) : v = w ∧ (v ≠ 0 → C = E) := by
  have pb := pw6 hP hN
  have z : ∀ v C, v ≠ 0 → ck v C ≠ 0 := fun v C h => by
    unfold ck
    rw [if_neg h]; omega
  rcases h1 with h1 | ⟨a1, a2, a3⟩
  · rcases h2 with h2 | ⟨b1, b2, b3⟩
    · exact ⟨by omega, fun h => absurd h1 h⟩
    · have := d1 E b2
      rw [← b1, h1] at this
      by_cases hw : w = 0
      · exact ⟨by omega, fun h => absurd h1 h⟩
      · exact absurd (Nat.le_zero.mp this) (z w E hw)
  · rcases h2 with h2 | ⟨b1, b2, b3⟩
    · have := d2 C a2
      rw [← a1, h2] at this
      by_cases hv : v = 0
      · exact ⟨by omega, fun h => absurd hv h⟩
      · exact absurd (Nat.le_zero.mp this) (z v C hv)
    · have e1 := d1 E b2
      have e2 := d2 C a2
      rw [← b1] at e1
      rw [← a1] at e2
      have e3 : ck v C = ck w E := by omega
      by_cases hv : v = 0
      · subst hv
        by_cases hw : w = 0
        · exact ⟨hw.symm, fun h => absurd rfl h⟩
        · exact absurd e3.symm (z w E hw)
      · unfold ck at e3
        rw [if_neg hv] at e3
        by_cases hw : w = 0
        · rw [if_pos hw] at e3; omega
        · rw [if_neg hw] at e3
          have : v = w := by omega
          exact ⟨this, fun _ => by omega⟩
