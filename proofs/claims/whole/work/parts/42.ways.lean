/-! ways: the pure side -/
def pos (μ : x_U) (T a n : Nat) : Nat → Nat → Option (Nat × Nat)
  | 0, _ => some (a, n)
  | k + 1, c => (pos μ T a n k (c / T)).bind (fun p => if tFr μ (c % T) = p.1 then some (tTo μ (c % T), p.2 * tGt μ (c % T) / tGv μ (c % T)) else none)
def val (μ : x_U) (T a b n k c : Nat) : Nat := ((pos μ T a n k c).bind (fun p => if p.1 = b then some (p.2 + 1) else none)).getD 0
def dg (T k c i : Nat) : Nat := c / T ^ (k - 1 - i) % T
def key (v j x : Nat) : Nat := if v = 0 then 0 else v * 20480 + (4 - j) * 4096 + (4095 - x)
theorem key_inj {v j x w i y : Nat} (hv : v ≠ 0) (hj : j ≤ 4) (hi : i ≤ 4) (hx : x < 4096) (hy : y < 4096) (h : key v j x = key w i y) : v = w ∧ j = i ∧ x = y := by
  unfold key at h
  rw [if_neg hv] at h
  by_cases hw : w = 0
  · rw [if_pos hw] at h; omega
  · rw [if_neg hw] at h; omega
theorem dv_s (x s T : Nat) : x / T ^ (s + 1) = x / T ^ s / T := by rw [Nat.pow_succ, Nat.div_div_eq_div_mul]
theorem dv_s' (x s T : Nat) : x / T ^ (s + 1) = x / T / T ^ s := by rw [Nat.pow_succ, Nat.mul_comm, Nat.div_div_eq_div_mul]
theorem dv_1 {x s c T : Nat} (hT : 0 < T) (h : x / T ^ (s + 1) = c) : ∃ t, t < T ∧ x / T ^ s = c * T + t := by
  rw [dv_s] at h
  refine ⟨x / T ^ s % T, Nat.mod_lt _ hT, ?_⟩
  rw [← h, Nat.mul_comm, Nat.div_add_mod]
theorem dv_2 {x s c T : Nat} (hT : 0 < T) (h : x / T ^ (s + 1) < c) : x / T ^ s < c * T := by
  rw [dv_s] at h
  exact (Nat.div_lt_iff_lt_mul hT).mp h
theorem dv_3 {x s c T : Nat} (hT : 0 < T) (h : x / T ^ s < c * T + T) : x / T ^ (s + 1) ≤ c := by
  rw [dv_s]
  have : x / T ^ s / T < c + 1 := (Nat.div_lt_iff_lt_mul hT).mpr (by rw [Nat.add_mul, Nat.one_mul]; exact h)
  omega
theorem dv_c (c t T : Nat) (ht : t < T) : (c * T + t) / T = c ∧ (c * T + t) % T = t := by
  have hT : 0 < T := by omega
  refine ⟨?_, ?_⟩
  · rw [Nat.mul_comm, Nat.mul_add_div hT, Nat.div_eq_of_lt ht, Nat.add_zero]
  · rw [Nat.mul_comm, Nat.mul_add_mod, Nat.mod_eq_of_lt ht]
theorem dg_last (T k c t : Nat) (ht : t < T) : dg T (k + 1) (c * T + t) k = t := by
  unfold dg
  rw [show k + 1 - 1 - k = 0 by omega, Nat.pow_zero, Nat.div_one]
  exact (dv_c c t T ht).2
theorem dg_more (T k c t i : Nat) (ht : t < T) (hi : i < k) : dg T (k + 1) (c * T + t) i = dg T k c i := by
  unfold dg
  rw [show k + 1 - 1 - i = (k - 1 - i) + 1 by omega, dv_s', (dv_c c t T ht).1]
theorem pos_none {μ : x_U} {T a n : Nat} : ∀ m k c x, pos μ T a n k c = none → x / T ^ m = c → pos μ T a n (k + m) x = none := by
  intro m
  induction m with
  | zero =>
    intro k c x h hx
    rw [Nat.pow_zero, Nat.div_one] at hx
    subst hx
    exact h
  | succ m ih =>
    intro k c x h hx
    rw [dv_s'] at hx
    show (pos μ T a n (k + m) (x / T)).bind _ = none
    rw [ih k c (x / T) h hx]
    rfl
theorem pos_child {μ : x_U} {T a n k c t u y : Nat} (ht : t < T) (h : pos μ T a n k c = some (u, y)) : pos μ T a n (k + 1) (c * T + t) = if tFr μ t = u then some (tTo μ t, y * tGt μ t / tGv μ t) else none := by
  show (pos μ T a n k ((c * T + t) / T)).bind _ = _
  rw [(dv_c c t T ht).1, h, Option.bind_some, (dv_c c t T ht).2]
theorem pos_ok {σ : x_S} {μ : x_U} {U T a n : Nat} (hU : U ≤ 6) (ht : S_tab σ μ U T) (ha : a < U) (hn : n ≤ 99) : ∀ k c u y, c < T ^ k → pos μ T a n k c = some (u, y) → u < U ∧ y ≤ 99 * 20 ^ k := by
  intro k
  induction k with
  | zero =>
    intro c u y _ h
    injection h with h
    injection h with h1 h2
    subst h1 h2
    exact ⟨ha, by omega⟩
  | succ k ih =>
    intro c u y hc h
    have hT : 0 < T := by
      rcases Nat.eq_zero_or_pos T with h0 | h0
      · subst h0; rw [Nat.pow_succ, Nat.mul_zero] at hc; omega
      · exact h0
    have h : (pos μ T a n k (c / T)).bind (fun p => if tFr μ (c % T) = p.1 then some (tTo μ (c % T), p.2 * tGt μ (c % T) / tGv μ (c % T)) else none) = some (u, y) := h
    have hc2 : c / T < T ^ k := (Nat.div_lt_iff_lt_mul hT).mpr (by rw [← Nat.pow_succ]; exact hc)
    have B := TB.of hU ht (Nat.mod_lt c hT)
    cases hp : pos μ T a n k (c / T) with
    | none => rw [hp] at h; exact absurd h (by simp)
    | some p =>
      obtain ⟨u1, y1⟩ := p
      rw [hp, Option.bind_some] at h
      obtain ⟨h1, h2⟩ := ih _ _ _ hc2 hp
      by_cases hf : tFr μ (c % T) = u1
      · rw [if_pos hf] at h
        injection h with h
        injection h with h3 h4
        refine ⟨by rw [← h3]; exact B.tU, ?_⟩
        have e1 : y1 * tGt μ (c % T) ≤ 99 * 20 ^ k * 20 := Nat.mul_le_mul h2 B.h2
        have e2 : y1 * tGt μ (c % T) / tGv μ (c % T) ≤ y1 * tGt μ (c % T) := Nat.div_le_self _ _
        rw [Nat.pow_succ, ← Nat.mul_assoc, ← h4]
        exact Nat.le_trans e2 e1
      · rw [if_neg hf] at h; exact absurd h (by simp)
theorem pow_b {T k : Nat} (hT : T ≤ 8) (hk : k ≤ 4) : T ^ k ≤ 4096 := by
  have h1 : T ^ k ≤ 8 ^ k := Nat.pow_le_pow_left hT k
  have h2 : 8 ^ k ≤ 8 ^ 4 := Nat.pow_le_pow_right (by omega) hk
  omega
theorem pow_y {k : Nat} (hk : k ≤ 4) : 99 * 20 ^ k ≤ 15840000 := by
  have h2 : 20 ^ k ≤ 20 ^ 4 := Nat.pow_le_pow_right (by omega) hk
  omega
theorem val_le {σ : x_S} {μ : x_U} {U T a b n : Nat} (hU : U ≤ 6) (ht : S_tab σ μ U T) (ha : a < U) (hn : n ≤ 99) {k c : Nat} (hk : k ≤ 4) (hc : c < T ^ k) : val μ T a b n k c ≤ 15840001 := by
  unfold val
  cases hp : pos μ T a n k c with
  | none => exact Nat.zero_le _
  | some p =>
    obtain ⟨u, y⟩ := p
    have h := (pos_ok hU ht ha hn k c u y hc hp).2
    have h2 := pow_y hk
    rw [Option.bind_some]
    by_cases hb : u = b
    · rw [if_pos hb]
      show y + 1 ≤ _
      omega
    · rw [if_neg hb]
      exact Nat.zero_le _
theorem val_none {μ : x_U} {T a b n k c : Nat} (h : pos μ T a n k c = none) : val μ T a b n k c = 0 := by
  unfold val
  rw [h]
  rfl
theorem val_some {μ : x_U} {T a b n k c u y : Nat} (h : pos μ T a n k c = some (u, y)) : val μ T a b n k c = if u = b then y + 1 else 0 := by
  unfold val
  rw [h, Option.bind_some]
  by_cases hb : u = b
  · rw [if_pos hb, if_pos hb]; rfl
  · rw [if_neg hb, if_neg hb]; rfl
/-- the best so far is a way that there is -/
def Att (μ : x_U) (T a b n v K C : Nat) (B : Nat → Int32) : Prop := v = 0 ∨ (v = val μ T a b n K C ∧ K ≤ 4 ∧ C < T ^ K ∧ ∀ i, i < K → B i = nI (dg T K C i))
/-- the best of all is one -/
theorem best_one {μ : x_U} {T a b n v K C w L E : Nat} {B G : Nat → Int32} (hT : T ≤ 8) (h1 : Att μ T a b n v K C B) (h2 : Att μ T a b n w L E G) (d1 : ∀ j x, j ≤ 4 → x < T ^ j → key (val μ T a b n j x) j x ≤ key v K C) (d2 : ∀ j x, j ≤ 4 → x < T ^ j → key (val μ T a b n j x) j x ≤ key w L E) : v = w ∧ (v ≠ 0 → K = L ∧ C = E) := by
  have z : ∀ v K C, v ≠ 0 → key v K C ≠ 0 := fun v K C h => by
    unfold key
    rw [if_neg h]; omega
  rcases h1 with h1 | ⟨a1, a2, a3, a4⟩
  · rcases h2 with h2 | ⟨b1, b2, b3, b4⟩
    · exact ⟨by omega, fun h => absurd h1 h⟩
    · have := d1 L E b2 b3
      rw [← b1, h1] at this
      by_cases hw : w = 0
      · exact ⟨by omega, fun h => absurd h1 h⟩
      · exact absurd (Nat.le_zero.mp this) (z w L E hw)
  · rcases h2 with h2 | ⟨b1, b2, b3, b4⟩
    · have := d2 K C a2 a3
      rw [← a1, h2] at this
      by_cases hv : v = 0
      · exact ⟨by omega, fun h => absurd hv h⟩
      · exact absurd (Nat.le_zero.mp this) (z v K C hv)
    · have e1 := d1 L E b2 b3
      have e2 := d2 K C a2 a3
      rw [← b1] at e1
      rw [← a1] at e2
      have e3 : key v K C = key w L E := by omega
      by_cases hv : v = 0
      · subst hv
        by_cases hw : w = 0
        · exact ⟨hw.symm, fun h => absurd rfl h⟩
        · exact absurd e3.symm (z w L E hw)
      · have p1 := pow_b hT a2
        have p2 := pow_b hT b2
        obtain ⟨q1, q2, q3⟩ := key_inj hv a2 b2 (by omega) (by omega) e3
        exact ⟨q1, fun _ => ⟨q2, q3⟩⟩
