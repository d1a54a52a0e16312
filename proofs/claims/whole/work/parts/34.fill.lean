/-! a row filled; kept -/
def x_fl (f : Nat → Int32) (v : Int32) (n : Nat) : Nat → Int32 := fun j => if j < n then v else f j
theorem x_fl_0 (f : Nat → Int32) (v : Int32) : x_fl f v 0 = f := by
  funext j
  unfold x_fl
  rw [if_neg (by omega)]
theorem x_fl_s (f : Nat → Int32) (v : Int32) (k : Nat) : upd (x_fl f v k) k v = x_fl f v (k + 1) := by
  funext j
  unfold upd x_fl
  by_cases h : j = k
  · subst h; rw [if_pos rfl, if_pos (by omega)]
  · rw [if_neg h]
    by_cases h2 : j < k
    · rw [if_pos h2, if_pos (by omega)]
    · rw [if_neg h2, if_neg (by omega)]
theorem E_fill (d : Nat) (σ : x_S) (q : Nat) (v : Int32) (hq : c_isrow q = true) : ∀ m k, k + m = c_room q → x_E x_P d x_c59 2 [.ref q, .int v, .int (nI k)] [] (CG (c_wa σ (q + 1) (x_fl (σ.1 (q + 1)) v k))) = some (none, CG (c_wa σ (q + 1) (x_fl (σ.1 (q + 1)) v (c_room q)))) := by
  have hr := c_room_lt q
  intro m
  induction m with
  | zero =>
    intro k hk
    obtain rfl : k = c_room q := by omega
    rw [s_59_2, cr_cells _ hq, Option.bind_some, s_59_7, cr_len _ hq, Option.bind_some, s_59_8, nI_def, if_pos (Int32.le_refl _), s_59_24]
  | succ m ih =>
    intro k hk
    have e : ¬ nI (c_room q) ≤ nI k := nI_ge (by omega) (by omega)
    rw [s_59_2, cr_cells _ hq, Option.bind_some, s_59_7, cr_len _ hq, Option.bind_some, s_59_8, nI_def, if_neg e, s_59_11, cr_cells _ hq, Option.bind_some, s_59_15, cr_ist _ hq _ _ (x_inb_t (by omega) hr), Option.bind_some, s_59_18, nI_clamp (by omega), c_wa_1, if_pos rfl, c_wa_wa, x_fl_s, nI_1]
    exact ih (k + 1) (by omega)
theorem R_fill (d : Nat) (σ : x_S) (q : Nat) (v : Int32) (hq : c_isrow q = true) : x_R x_P (d + 1) 59 [.ref q, .int v] (CG σ) = some (none, CG (c_wa σ (q + 1) (x_fl (σ.1 (q + 1)) v (c_room q)))) := by
  have h := E_fill d σ q v hq (c_room q) 0 (by omega)
  rw [x_fl_0, c_wa_id] at h
  rw [r_59, s_59_0]
  exact h
/-! the odds -/
def kst (q : Nat) (g : Nat → Nat) (k : Nat) : Nat → Nat := fun j => if j = k then g k - g k * q / 100 else if j = k + 1 then g (k + 1) + g k * q / 100 else g j
def kin (q : Nat) : (Nat → Nat) → Nat → Nat → Nat
  | g, 0 => g
  | g, k + 1 => kin q (kst q g k) k
def kou (M q : Nat) : Nat → Nat → Nat
  | 0 => fun j => if j = 0 then M else 0
  | e + 1 => kin q (kou M q e) (e + 1)
def ksum (g : Nat → Nat) : Nat → Nat
  | 0 => 0
  | k + 1 => ksum g k + g k
theorem kst_0 (q : Nat) (g : Nat → Nat) (k : Nat) (h : g k = 0) : kst q g k = g := by
  funext j
  unfold kst
  rw [h, Nat.zero_mul, Nat.zero_div]
  by_cases h1 : j = k
  · rw [if_pos h1, h1, h]
  · rw [if_neg h1]
    by_cases h2 : j = k + 1
    · rw [if_pos h2, h2]
      rfl
    · rw [if_neg h2]
theorem kin_0 (q e : Nat) (g : Nat → Nat) (h : ∀ j, e < j → g j = 0) : ∀ m k, k = e + 1 + m → kin q g k = kin q g (e + 1) := by
  intro m
  induction m with
  | zero => intro k hk; rw [hk]
  | succ m ih =>
    intro k hk
    obtain rfl : k = (e + 1 + m) + 1 := by omega
    show kin q (kst q g (e + 1 + m)) (e + 1 + m) = _
    rw [kst_0 _ _ _ (h _ (by omega))]
    exact ih _ rfl
theorem kin_sup (q B : Nat) : ∀ k (g : Nat → Nat), k ≤ B → (∀ j, B < j → g j = 0) → ∀ j, B < j → kin q g k j = 0 := by
  intro k
  induction k with
  | zero => intro g _ h j hj; exact h j hj
  | succ k ih =>
    intro g hk h j hj
    refine ih (kst q g k) (by omega) (fun i hi => ?_) j hj
    unfold kst
    rw [if_neg (by omega), if_neg (by omega)]
    exact h i hi
theorem kou_sup (M q : Nat) : ∀ e j, e < j → kou M q e j = 0 := by
  intro e
  induction e with
  | zero => intro j hj; exact if_neg (by omega)
  | succ e ih =>
    intro j hj
    exact kin_sup q (e + 1) (e + 1) _ (Nat.le_refl _) (fun i hi => ih i (by omega)) j hj
theorem kst_sum (q k : Nat) (g : Nat → Nat) (hq : q ≤ 100) : ∀ n, (n ≤ k → ksum (kst q g k) n = ksum g n) ∧ (n = k + 1 → ksum (kst q g k) n + g k * q / 100 = ksum g n) ∧ (k + 2 ≤ n → ksum (kst q g k) n = ksum g n) := by
  have hm : g k * q / 100 ≤ g k := by
    have : g k * q ≤ g k * 100 := Nat.mul_le_mul_left _ hq
    omega
  intro n
  induction n with
  | zero => exact ⟨fun _ => rfl, fun h => by omega, fun h => by omega⟩
  | succ n ih =>
    refine ⟨fun h => ?_, fun h => ?_, fun h => ?_⟩
    · show ksum (kst q g k) n + kst q g k n = ksum g n + g n
      rw [ih.1 (by omega)]
      unfold kst
      rw [if_neg (by omega), if_neg (by omega)]
    · obtain rfl : n = k := by omega
      show ksum (kst q g n) n + kst q g n n + _ = ksum g n + g n
      rw [ih.1 (Nat.le_refl _)]
      unfold kst
      rw [if_pos rfl]
      omega
    · show ksum (kst q g k) n + kst q g k n = ksum g n + g n
      by_cases h2 : n = k + 1
      · have := ih.2.1 h2
        subst h2
        unfold kst at this ⊢
        rw [if_neg (show ¬ k + 1 = k by omega), if_pos rfl]
        omega
      · rw [ih.2.2 (by omega)]
        unfold kst
        rw [if_neg (by omega), if_neg (by omega)]
theorem kin_sum (q : Nat) (hq : q ≤ 100) : ∀ k (g : Nat → Nat), k ≤ 20 → ksum (kin q g k) 21 = ksum g 21 := by
  intro k
  induction k with
  | zero => intro g _; rfl
  | succ k ih =>
    intro g hk
    show ksum (kin q (kst q g k) k) 21 = _
    rw [ih _ (by omega), (kst_sum q k g hq 21).2.2 (by omega)]
theorem ksum_le (g : Nat → Nat) (j : Nat) : ∀ n, j < n → g j ≤ ksum g n := by
  intro n
  induction n with
  | zero => intro h; omega
  | succ n ih =>
    intro h
    show g j ≤ ksum g n + g n
    by_cases hj : j = n
    · subst hj; omega
    · have := ih (by omega)
      omega
theorem ksum_mono (g : Nat → Nat) : ∀ m n, ksum g n ≤ ksum g (n + m) := by
  intro m
  induction m with
  | zero => intro n; exact Nat.le_refl _
  | succ m ih =>
    intro n
    have := ih n
    show _ ≤ ksum g (n + m) + g (n + m)
    omega
theorem ksum_sup (g : Nat → Nat) (e : Nat) (h : ∀ j, e < j → g j = 0) : ∀ m, ksum g (e + 1 + m) = ksum g (e + 1) := by
  intro m
  induction m with
  | zero => rfl
  | succ m ih =>
    show ksum g (e + 1 + m) + g (e + 1 + m) = _
    rw [ih, h _ (by omega)]
    rfl
theorem kou_sum (M q : Nat) (hq : q ≤ 100) : ∀ e, e ≤ 20 → ksum (kou M q e) 21 = M := by
  intro e
  induction e with
  | zero =>
    intro _
    have h := ksum_sup (kou M q 0) 0 (kou_sup M q 0) 20
    rw [show 0 + 1 + 20 = 21 from rfl] at h
    rw [h]
    show 0 + (if 0 = 0 then M else 0) = M
    rw [if_pos rfl, Nat.zero_add]
  | succ e ih =>
    intro he
    show ksum (kin q (kou M q e) (e + 1)) 21 = M
    rw [kin_sum q hq _ _ he, ih (by omega)]
