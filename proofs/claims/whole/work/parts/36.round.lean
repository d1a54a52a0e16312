/-! what yards become: the pure side and the class's -/
def X (v : Int32) : Nat := v.toNatClampNeg
theorem Rg_x {v : Int32} {lo hi : Nat} (h : Rg v lo hi) (hh : hi < 2 ^ 31) : v = nI (X v) ∧ lo ≤ X v ∧ X v ≤ hi := by
  obtain ⟨n, rfl, h1, h2⟩ := h
  have e : X (nI n) = n := nI_clamp (by omega)
  rw [e]
  exact ⟨rfl, h1, h2⟩
theorem Rl_x {v : Int32} {U : Nat} (h : Rl v U) (hh : U < 2 ^ 31) : v = nI (X v) ∧ X v < U := by
  obtain ⟨n, rfl, h1⟩ := h
  have e : X (nI n) = n := nI_clamp (by omega)
  rw [e]
  exact ⟨rfl, h1⟩
/-- the tables' numbers -/
def tFr (μ : x_U) (t : Nat) : Nat := X (μ.1 1 (12 + t))
def tTo (μ : x_U) (t : Nat) : Nat := X (μ.1 1 (20 + t))
def tGv (μ : x_U) (t : Nat) : Nat := X (μ.1 1 (28 + t))
def tGt (μ : x_U) (t : Nat) : Nat := X (μ.1 1 (36 + t))
def TB (σ : x_S) (μ : x_U) (U T t : Nat) : Prop := (σ.1 8 t = nI (tFr μ t)) ∧ (μ.1 1 (12 + t) = nI (tFr μ t)) ∧ (tFr μ t < U) ∧ (σ.1 10 t = nI (tTo μ t)) ∧ (μ.1 1 (20 + t) = nI (tTo μ t)) ∧ (tTo μ t < U) ∧ (σ.1 12 t = nI (tGv μ t)) ∧ (μ.1 1 (28 + t) = nI (tGv μ t)) ∧ (1 ≤ tGv μ t) ∧ (tGv μ t ≤ 20) ∧ (σ.1 14 t = nI (tGt μ t)) ∧ (μ.1 1 (36 + t) = nI (tGt μ t)) ∧ (1 ≤ tGt μ t) ∧ (tGt μ t ≤ 20)
theorem TB.fC {σ : x_S} {μ : x_U} {U T t : Nat} (h : TB σ μ U T t) : σ.1 8 t = nI (tFr μ t) := h.1
theorem TB.fM {σ : x_S} {μ : x_U} {U T t : Nat} (h : TB σ μ U T t) : μ.1 1 (12 + t) = nI (tFr μ t) := h.2.1
theorem TB.fU {σ : x_S} {μ : x_U} {U T t : Nat} (h : TB σ μ U T t) : tFr μ t < U := h.2.2.1
theorem TB.tC {σ : x_S} {μ : x_U} {U T t : Nat} (h : TB σ μ U T t) : σ.1 10 t = nI (tTo μ t) := h.2.2.2.1
theorem TB.tM {σ : x_S} {μ : x_U} {U T t : Nat} (h : TB σ μ U T t) : μ.1 1 (20 + t) = nI (tTo μ t) := h.2.2.2.2.1
theorem TB.tU {σ : x_S} {μ : x_U} {U T t : Nat} (h : TB σ μ U T t) : tTo μ t < U := h.2.2.2.2.2.1
theorem TB.gC {σ : x_S} {μ : x_U} {U T t : Nat} (h : TB σ μ U T t) : σ.1 12 t = nI (tGv μ t) := h.2.2.2.2.2.2.1
theorem TB.gM {σ : x_S} {μ : x_U} {U T t : Nat} (h : TB σ μ U T t) : μ.1 1 (28 + t) = nI (tGv μ t) := h.2.2.2.2.2.2.2.1
theorem TB.g1 {σ : x_S} {μ : x_U} {U T t : Nat} (h : TB σ μ U T t) : 1 ≤ tGv μ t := h.2.2.2.2.2.2.2.2.1
theorem TB.g2 {σ : x_S} {μ : x_U} {U T t : Nat} (h : TB σ μ U T t) : tGv μ t ≤ 20 := h.2.2.2.2.2.2.2.2.2.1
theorem TB.hC {σ : x_S} {μ : x_U} {U T t : Nat} (h : TB σ μ U T t) : σ.1 14 t = nI (tGt μ t) := h.2.2.2.2.2.2.2.2.2.2.1
theorem TB.hM {σ : x_S} {μ : x_U} {U T t : Nat} (h : TB σ μ U T t) : μ.1 1 (36 + t) = nI (tGt μ t) := h.2.2.2.2.2.2.2.2.2.2.2.1
theorem TB.h1 {σ : x_S} {μ : x_U} {U T t : Nat} (h : TB σ μ U T t) : 1 ≤ tGt μ t := h.2.2.2.2.2.2.2.2.2.2.2.2.1
theorem TB.h2 {σ : x_S} {μ : x_U} {U T t : Nat} (h : TB σ μ U T t) : tGt μ t ≤ 20 := h.2.2.2.2.2.2.2.2.2.2.2.2.2
theorem TB.of {σ : x_S} {μ : x_U} {U T t : Nat} (hU : U ≤ 6) (h : S_tab σ μ U T) (ht : t < T) : TB σ μ U T t := by
  obtain ⟨⟨a1, a2⟩, ⟨b1, b2⟩, ⟨c1, c2⟩, ⟨d1, d2⟩⟩ := h t ht
  obtain ⟨a3, a4⟩ := Rl_x a2 (by omega)
  obtain ⟨b3, b4⟩ := Rl_x b2 (by omega)
  obtain ⟨c3, c4, c5⟩ := Rg_x c2 (by omega)
  obtain ⟨d3, d4, d5⟩ := Rg_x d2 (by omega)
  exact ⟨a1.trans a3, a3, a4, b1.trans b3, b3, b4, c1.trans c3, c3, c4, c5, d1.trans d3, d3, d4, d5⟩
/-- a number, or none of them -/
def eN (y : Nat) : Int32 := if y = 0 then -1 else nI (y - 1)
theorem eN_0 : eN 0 = -1 := rfl
theorem eN_s (n : Nat) : eN (n + 1) = nI n := by
  unfold eN
  rw [if_neg (by omega), Nat.add_sub_cancel]
theorem eN_toInt {y : Nat} (h : y < 2 ^ 31) : (eN y).toInt = (y : Int) - 1 := by
  unfold eN
  by_cases h0 : y = 0
  · subst h0; rw [if_pos rfl]; rfl
  · rw [if_neg h0, nI_toInt (by omega)]; omega
theorem eN_lt {a b : Nat} (ha : a < 2 ^ 31) (hb : b < 2 ^ 31) : eN a < eN b ↔ a < b := by
  rw [Int32.lt_iff_toInt_lt, eN_toInt ha, eN_toInt hb]; omega
theorem eN_le {a b : Nat} (ha : a < 2 ^ 31) (hb : b < 2 ^ 31) : eN a ≤ eN b ↔ a ≤ b := by
  rw [Int32.le_iff_toInt_le, eN_toInt ha, eN_toInt hb]; omega
theorem eN_neg {a : Nat} (ha : a < 2 ^ 31) : eN a = -1 ↔ a = 0 := by
  rw [← Int32.toInt_inj, eN_toInt ha]
  rw [show (-1 : Int32).toInt = -1 from rfl]
  omega
theorem eN_pos {a : Nat} (ha : a < 2 ^ 31) : 0 ≤ eN a ↔ 1 ≤ a := by
  rw [Int32.le_iff_toInt_le, eN_toInt ha, show (0 : Int32).toInt = 0 from rfl]; omega
theorem eN_mx {a b : Nat} (ha : a < 2 ^ 31) (hb : b < 2 ^ 31) : (if eN a < eN b then eN b else eN a) = eN (max a b) := by
  by_cases h : a < b
  · rw [if_pos ((eN_lt ha hb).mpr h), Nat.max_eq_right (by omega)]
  · rw [if_neg (fun z => h ((eN_lt ha hb).mp z)), Nat.max_eq_left (by omega)]
def tv (D g h y : Nat) : Nat := if y = 0 then 0 else ((y - 1) * h / g - (y - 1) * h / g * D / 100) + 1
def tf (μ : x_U) (D : Nat) (y : Nat → Nat) : Nat → Nat → Nat
  | 0 => fun _ => 0
  | t + 1 => fun j => if j = tTo μ t then max (tf μ D y t j) (tv D (tGv μ t) (tGt μ t) (y (tFr μ t))) else tf μ D y t j
def yk (μ : x_U) (D T u : Nat) : Nat → Nat → Nat
  | 0 => fun j => if j = u then 21 else 0
  | k + 1 => tf μ D (yk μ D T u k) T
def mk (μ : x_U) (D T u : Nat) : Nat → Nat
  | 0 => 0
  | k + 1 => max (mk μ D T u k) (yk μ D T u (k + 1) u)
theorem tv_le {D g h y b : Nat} (hg : 1 ≤ g) (hh : h ≤ 20) (hy : y ≤ b + 1) : tv D g h y ≤ b * 20 + 1 := by
  unfold tv
  by_cases h0 : y = 0
  · rw [if_pos h0]; omega
  · rw [if_neg h0]
    have e1 : (y - 1) * h ≤ b * 20 := Nat.mul_le_mul (by omega) hh
    have e2 : (y - 1) * h / g ≤ (y - 1) * h := Nat.div_le_self _ _
    omega
theorem tf_le {μ : x_U} {D b : Nat} {y : Nat → Nat} {T : Nat} (hT : ∀ t, t < T → 1 ≤ tGv μ t ∧ tGt μ t ≤ 20) (hy : ∀ j, y j ≤ b + 1) : ∀ t, t ≤ T → ∀ j, tf μ D y t j ≤ b * 20 + 1 := by
  intro t
  induction t with
  | zero => intro _ j; exact Nat.zero_le _
  | succ t ih =>
    intro ht j
    show (if j = tTo μ t then max (tf μ D y t j) (tv D (tGv μ t) (tGt μ t) (y (tFr μ t))) else tf μ D y t j) ≤ _
    have h1 := ih (by omega) j
    have h2 := tv_le (D := D) (hT t (by omega)).1 (hT t (by omega)).2 (hy (tFr μ t))
    split
    · exact Nat.max_le.mpr ⟨h1, h2⟩
    · exact h1
theorem yk_le {μ : x_U} {D T u : Nat} (hT : ∀ t, t < T → 1 ≤ tGv μ t ∧ tGt μ t ≤ 20) : ∀ k j, yk μ D T u k j ≤ 20 * 20 ^ k + 1 := by
  intro k
  induction k with
  | zero =>
    intro j
    show (if j = u then 21 else 0) ≤ _
    split <;> omega
  | succ k ih =>
    intro j
    have h := tf_le (D := D) hT ih T (Nat.le_refl _) j
    rw [Nat.pow_succ, ← Nat.mul_assoc]
    exact h
theorem yk_le5 {μ : x_U} {D T u k : Nat} (hT : ∀ t, t < T → 1 ≤ tGv μ t ∧ tGt μ t ≤ 20) (hk : k ≤ 4) (j : Nat) : yk μ D T u k j ≤ 3200001 := by
  have h := yk_le (D := D) (u := u) hT k j
  have h2 : 20 ^ k ≤ 20 ^ 4 := Nat.pow_le_pow_right (by omega) hk
  omega
theorem mk_le {μ : x_U} {D T u : Nat} (hT : ∀ t, t < T → 1 ≤ tGv μ t ∧ tGt μ t ≤ 20) : ∀ k, k ≤ 4 → mk μ D T u k ≤ 3200001 := by
  intro k
  induction k with
  | zero => intro _; exact Nat.zero_le _
  | succ k ih =>
    intro hk
    exact Nat.max_le.mpr ⟨ih (by omega), yk_le5 hT hk u⟩
/-! dearer turns never yield more -/
theorem due_mono {v w D : Nat} (hD : D ≤ 100) (h : v ≤ w) : v - v * D / 100 ≤ w - w * D / 100 := by
  obtain ⟨m, rfl⟩ : ∃ m, w = v + m := ⟨w - v, by omega⟩
  have e : m * D ≤ m * 100 := Nat.mul_le_mul_left _ hD
  have e2 : v * D ≤ v * 100 := Nat.mul_le_mul_left _ hD
  rw [Nat.add_mul]
  generalize m * D = a at e
  generalize v * D = b at e2
  omega
theorem due_anti {v D E : Nat} (h : D ≤ E) : v - v * E / 100 ≤ v - v * D / 100 := by
  have e : v * D ≤ v * E := Nat.mul_le_mul_left _ h
  omega
theorem tv_mono {D E g h y z : Nat} (hDE : D ≤ E) (hE : E ≤ 100) (hyz : y ≤ z) : tv E g h y ≤ tv D g h z := by
  unfold tv
  by_cases h0 : y = 0
  · rw [if_pos h0]; omega
  · rw [if_neg h0, if_neg (by omega)]
    have e1 : (y - 1) * h ≤ (z - 1) * h := Nat.mul_le_mul_right _ (by omega)
    have e2 : (y - 1) * h / g ≤ (z - 1) * h / g := Nat.div_le_div_right e1
    have e3 := due_mono hE e2
    have e4 := due_anti (v := (z - 1) * h / g) hDE
    omega
theorem tf_mono {μ : x_U} {D E : Nat} {y z : Nat → Nat} (hDE : D ≤ E) (hE : E ≤ 100) (hyz : ∀ j, y j ≤ z j) : ∀ t j, tf μ E y t j ≤ tf μ D z t j := by
  intro t
  induction t with
  | zero => intro j; exact Nat.le_refl _
  | succ t ih =>
    intro j
    show (if j = tTo μ t then max (tf μ E y t j) (tv E (tGv μ t) (tGt μ t) (y (tFr μ t))) else tf μ E y t j) ≤ (if j = tTo μ t then max (tf μ D z t j) (tv D (tGv μ t) (tGt μ t) (z (tFr μ t))) else tf μ D z t j)
    have h1 := ih j
    have h2 := tv_mono (g := tGv μ t) (h := tGt μ t) hDE hE (hyz (tFr μ t))
    by_cases h : j = tTo μ t
    · rw [if_pos h, if_pos h]; omega
    · rw [if_neg h, if_neg h]; exact h1
theorem yk_mono {μ : x_U} {D E T u : Nat} (hDE : D ≤ E) (hE : E ≤ 100) : ∀ k j, yk μ E T u k j ≤ yk μ D T u k j := by
  intro k
  induction k with
  | zero => intro j; exact Nat.le_refl _
  | succ k ih => exact tf_mono hDE hE ih T
theorem mk_mono {μ : x_U} {D E T u : Nat} (hDE : D ≤ E) (hE : E ≤ 100) : ∀ k, mk μ E T u k ≤ mk μ D T u k := by
  intro k
  induction k with
  | zero => exact Nat.le_refl _
  | succ k ih =>
    have h := yk_mono (μ := μ) (T := T) (u := u) hDE hE (k + 1) u
    show max _ _ ≤ max _ _
    omega
/-! the class's rows of yards -/
theorem c_wa_cm (σ : x_S) {a b : Nat} (h : a ≠ b) (f g : Nat → Int32) : c_wa (c_wa σ a f) b g = c_wa (c_wa σ b g) a f := by
  unfold c_wa
  congr 1
  funext q
  by_cases h1 : q = b
  · subst h1
    simp [Ne.symm h]
  · simp [h1]
theorem m_wa_cm (μ : x_U) {a b : Nat} (h : a ≠ b) (f g : Nat → Int32) : m_wa (m_wa μ a f) b g = m_wa (m_wa μ b g) a f := by
  unfold m_wa
  congr 1
  funext q
  by_cases h1 : q = b
  · subst h1
    simp [Ne.symm h]
  · simp [h1]
def WW (σ : x_S) (F G : Nat → Int32) : x_S := c_wa (c_wa σ 73 F) 75 G
theorem WW_id (σ : x_S) : WW σ (σ.1 73) (σ.1 75) = σ := by
  unfold WW
  rw [c_wa_id]
  exact c_wa_id σ 75
theorem WW_1 (σ : x_S) (F G f : Nat → Int32) : c_wa (WW σ F G) 73 f = WW σ f G := by
  unfold WW
  rw [c_wa_cm _ (by decide), c_wa_wa, c_wa_cm _ (by decide)]
theorem WW_2 (σ : x_S) (F G f : Nat → Int32) : c_wa (WW σ F G) 75 f = WW σ F f := by
  unfold WW
  rw [c_wa_wa]
theorem WW_a1 (σ : x_S) (F G : Nat → Int32) {k : Nat} (h : k < 6) : c_at (WW σ F G) 72 (nI k) = F k := by rw [c_at_n (q := 72) (by show k < 6; omega)]; rfl
theorem WW_a2 (σ : x_S) (F G : Nat → Int32) {k : Nat} (h : k < 6) : c_at (WW σ F G) 74 (nI k) = G k := by rw [c_at_n (q := 74) (by show k < 6; omega)]; rfl
theorem WW_p1 (σ : x_S) (F G : Nat → Int32) (v : Int32) {k : Nat} (h : k < 6) : c_pt (WW σ F G) 72 (nI k) v = WW σ (upd F k v) G := by rw [c_pt_n (q := 72) (by show k < 6; omega)]; exact WW_1 σ F G _
theorem WW_p2 (σ : x_S) (F G : Nat → Int32) (v : Int32) {k : Nat} (h : k < 6) : c_pt (WW σ F G) 74 (nI k) v = WW σ F (upd G k v) := by rw [c_pt_n (q := 74) (by show k < 6; omega)]; exact WW_2 σ F G _
theorem C_tf {σ : x_S} {μ : x_U} {U T D b : Nat} (d : Nat) (hU : U ≤ 6) (hT : T ≤ 8) (c4 : σ.2 7 1 = nI T) (ht : S_tab σ μ U T) (hD : D < 100) {y : Nat → Nat} (hb : b ≤ 160000) (hy : ∀ j, y j ≤ b + 1) (F : Nat → Int32) (hF : ∀ j, j < 6 → F j = eN (y j)) : ∀ m t (G : Nat → Int32) (f g i : Value), t + m = T → (∀ j, j < 6 → G j = eN (tf μ D y t j)) → ∃ G' f' g' i', (∀ j, j < 6 → G' j = eN (tf μ D y T j)) ∧ x_E x_P (d + 3) x_c70 10 [.ref 67, .ref 4, .int (nI D), .int (nI t), f, g, i] [] (CG (WW σ F G)) = x_E x_P (d + 3) x_c70 104 [.ref 67, .ref 4, .int (nI D), .int (nI T), f', g', i'] [] (CG (WW σ F G')) := by
  have hTT : ∀ t, t < T → 1 ≤ tGv μ t ∧ tGt μ t ≤ 20 := fun t h => ⟨(TB.of hU ht h).g1, (TB.of hU ht h).h2⟩
  have cw : ∀ G, (WW σ F G).2 7 1 = nI T := fun G => c4
  intro m
  induction m with
  | zero =>
    intro t G f g i hm hG
    obtain rfl : t = T := by omega
    refine ⟨G, f, g, i, hG, ?_⟩
    rw [s_70_10]; simp (decide := true) only [s_70_15, s_70_18, Option.bind_some, x_tlv, x_tln, if_true, if_false, cr_isa, R_at, R_has, R_size, R_put, R_isFull, R_add, R_clear, c_has_eq, c_wa_1, c_wa_2, c_ws_1, c_ws_2, cf_0_0, cf_0_1, cf_0_2, cf_0_3, cf_0_4, cf_0_5, cf_0_6, cf_0_7, cf_0_8, cf_0_9, cf_0_10, cf_0_11, cf_0_12, cf_0_13, cp_0_12, cp_0_13, ci_0, cf_1_0, cf_1_1, cf_1_2, cf_1_3, cf_1_4, cp_1_1, cp_1_2, cp_1_3, cp_1_4, ci_1, cf_4_0, cf_4_1, cf_4_2, cf_4_3, cf_4_4, cf_4_5, cf_4_6, cf_4_7, cf_4_8, cf_4_9, cf_4_10, cp_4_0, cp_4_1, ci_4, cf_23_0, cf_23_1, cf_23_2, cf_23_3, cf_23_4, cf_23_5, cf_23_6, cf_23_7, cf_23_8, cf_23_9, cf_23_10, cp_23_0, cp_23_1, ci_23, cf_42_0, cf_42_1, cf_42_2, cf_42_3, cp_42_2, cp_42_3, ci_42, cf_47_0, cf_47_1, cf_47_2, cp_47_1, cp_47_2, ci_47, cf_50_0, cf_50_1, cf_50_2, ci_50, cf_57_0, cf_57_1, ci_57, cf_62_0, cf_62_1, ci_62, cf_67_0, cf_67_1, cf_67_2, cf_67_3, cf_67_4, cf_67_5, cp_67_1, cp_67_2, ci_67, cf_76_0, cf_76_1, cf_76_2, cf_76_3, cf_76_4, cf_76_5, cp_76_1, cp_76_2, cp_76_3, ci_76, cw, Int32.le_refl]
  | succ m ih =>
    intro t G f g i hm hG
    have e0 : ¬ nI T ≤ nI t := nI_ge (by omega) (by omega)
    have B := TB.of hU ht (show t < T by omega)
    have a1 : c_at (WW σ F G) 7 (nI t) = nI (tFr μ t) := by rw [c_at_n (q := 7) (by show t < 8; omega)]; exact B.fC
    have a2 : c_at (WW σ F G) 9 (nI t) = nI (tTo μ t) := by rw [c_at_n (q := 9) (by show t < 8; omega)]; exact B.tC
    have fU := B.fU
    have tU := B.tU
    have a3 : c_at (WW σ F G) 72 (nI (tFr μ t)) = eN (y (tFr μ t)) := by rw [WW_a1 _ _ _ (by omega)]; exact hF _ (by omega)
    have a4 : c_at (WW σ F G) 74 (nI (tTo μ t)) = eN (tf μ D y t (tTo μ t)) := by rw [WW_a2 _ _ _ (by omega)]; exact hG _ (by omega)
    have hyb := hy (tFr μ t)
    by_cases h0 : y (tFr μ t) = 0
    · have e1 : eN (y (tFr μ t)) = -1 := by rw [h0]; rfl
      obtain ⟨G', f', g', i', j1, j2⟩ := ih (t + 1) G (.int (-1)) g i (by omega) (fun j hj => by
        rw [hG j hj]
        show _ = eN (if j = tTo μ t then max (tf μ D y t j) (tv D (tGv μ t) (tGt μ t) (y (tFr μ t))) else tf μ D y t j)
        rw [show tv D (tGv μ t) (tGt μ t) (y (tFr μ t)) = 0 by rw [h0]; rfl, Nat.max_zero, ite_self])
      refine ⟨G', f', g', i', j1, ?_⟩
      rw [s_70_10]; simp (decide := true) only [s_70_15, s_70_18, s_70_21, s_70_25, s_70_29, s_70_33, s_70_36, s_70_98, Option.bind_some, x_tlv, x_tln, if_true, if_false, cr_isa, R_at, R_has, R_size, R_put, R_isFull, R_add, R_clear, c_has_eq, c_wa_1, c_wa_2, c_ws_1, c_ws_2, cf_0_0, cf_0_1, cf_0_2, cf_0_3, cf_0_4, cf_0_5, cf_0_6, cf_0_7, cf_0_8, cf_0_9, cf_0_10, cf_0_11, cf_0_12, cf_0_13, cp_0_12, cp_0_13, ci_0, cf_1_0, cf_1_1, cf_1_2, cf_1_3, cf_1_4, cp_1_1, cp_1_2, cp_1_3, cp_1_4, ci_1, cf_4_0, cf_4_1, cf_4_2, cf_4_3, cf_4_4, cf_4_5, cf_4_6, cf_4_7, cf_4_8, cf_4_9, cf_4_10, cp_4_0, cp_4_1, ci_4, cf_23_0, cf_23_1, cf_23_2, cf_23_3, cf_23_4, cf_23_5, cf_23_6, cf_23_7, cf_23_8, cf_23_9, cf_23_10, cp_23_0, cp_23_1, ci_23, cf_42_0, cf_42_1, cf_42_2, cf_42_3, cp_42_2, cp_42_3, ci_42, cf_47_0, cf_47_1, cf_47_2, cp_47_1, cp_47_2, ci_47, cf_50_0, cf_50_1, cf_50_2, ci_50, cf_57_0, cf_57_1, ci_57, cf_62_0, cf_62_1, ci_62, cf_67_0, cf_67_1, cf_67_2, cf_67_3, cf_67_4, cf_67_5, cp_67_1, cp_67_2, ci_67, cf_76_0, cf_76_1, cf_76_2, cf_76_3, cf_76_4, cf_76_5, cp_76_1, cp_76_2, cp_76_3, ci_76, cw, e0, a1, a3, e1, nI_1]
      exact j2
    · obtain ⟨k, hk⟩ : ∃ k, y (tFr μ t) = k + 1 := ⟨y (tFr μ t) - 1, by omega⟩
      have e1 : eN (y (tFr μ t)) = nI k := by rw [hk, eN_s]
      have e2 : ¬ nI k = -1 := by rw [← e1, eN_neg (by omega)]; omega
      have gg := B.g1
      have gh := B.h2
      have e3 : k * tGt μ t ≤ 160000 * 20 := Nat.mul_le_mul (by omega) B.h2
      have e4 : k * tGt μ t / tGv μ t ≤ 160000 * 20 := Nat.le_trans (Nat.div_le_self _ _) e3
      have e5 : k * tGt μ t / tGv μ t * D ≤ 160000 * 20 * 99 := Nat.mul_le_mul e4 (by omega)
      have g2 := B.g2
      have hR := R_turned (d + 1) (WW σ F G) (t := t) (k := k) (g := tGv μ t) (h := tGt μ t) (by omega) (by omega) (by omega) (by omega) B.gC B.hC
      have e6 := x_due (v := k * tGt μ t / tGv μ t) (D := D) hD (by omega)
      have e7 : tv D (tGv μ t) (tGt μ t) (y (tFr μ t)) = (k * tGt μ t / tGv μ t - k * tGt μ t / tGv μ t * D / 100) + 1 := by
        unfold tv
        rw [if_neg h0, hk, Nat.add_sub_cancel]
      have e8 : nI (k * tGt μ t / tGv μ t - k * tGt μ t / tGv μ t * D / 100) = eN (tv D (tGv μ t) (tGt μ t) (y (tFr μ t))) := by rw [e7, eN_s]
      have e9 := tf_le (D := D) hTT hy t (by omega) (tTo μ t)
      have e10 := tv_le (D := D) (hTT t (by omega)).1 (hTT t (by omega)).2 hyb
      have e11 := eN_mx (a := tf μ D y t (tTo μ t)) (b := tv D (tGv μ t) (tGt μ t) (y (tFr μ t))) (by omega) (by omega)
      rw [e8] at e6
      obtain ⟨G', f', g', i', j1, j2⟩ := ih (t + 1) (upd G (tTo μ t) (eN (max (tf μ D y t (tTo μ t)) (tv D (tGv μ t) (tGt μ t) (y (tFr μ t)))))) (.int (nI k)) (.int (eN (tv D (tGv μ t) (tGt μ t) (y (tFr μ t))))) (.int (nI (tTo μ t))) (by omega) (fun j hj => by
        show _ = eN (if j = tTo μ t then max (tf μ D y t j) (tv D (tGv μ t) (tGt μ t) (y (tFr μ t))) else tf μ D y t j)
        unfold upd
        by_cases hj2 : j = tTo μ t
        · rw [if_pos hj2, if_pos hj2, hj2]
        · rw [if_neg hj2, if_neg hj2]; exact hG j hj)
      refine ⟨G', f', g', i', j1, ?_⟩
      have p1 := WW_p2 σ F G (eN (max (tf μ D y t (tTo μ t)) (tv D (tGv μ t) (tGt μ t) (y (tFr μ t))))) (k := tTo μ t) (by omega)
      rw [s_70_10]; simp (decide := true) only [s_70_15, s_70_18, s_70_21, s_70_25, s_70_29, s_70_33, s_70_36, Option.bind_some, x_tlv, x_tln, if_true, if_false, cr_isa, R_at, R_has, R_size, R_put, R_isFull, R_add, R_clear, c_has_eq, c_wa_1, c_wa_2, c_ws_1, c_ws_2, cf_0_0, cf_0_1, cf_0_2, cf_0_3, cf_0_4, cf_0_5, cf_0_6, cf_0_7, cf_0_8, cf_0_9, cf_0_10, cf_0_11, cf_0_12, cf_0_13, cp_0_12, cp_0_13, ci_0, cf_1_0, cf_1_1, cf_1_2, cf_1_3, cf_1_4, cp_1_1, cp_1_2, cp_1_3, cp_1_4, ci_1, cf_4_0, cf_4_1, cf_4_2, cf_4_3, cf_4_4, cf_4_5, cf_4_6, cf_4_7, cf_4_8, cf_4_9, cf_4_10, cp_4_0, cp_4_1, ci_4, cf_23_0, cf_23_1, cf_23_2, cf_23_3, cf_23_4, cf_23_5, cf_23_6, cf_23_7, cf_23_8, cf_23_9, cf_23_10, cp_23_0, cp_23_1, ci_23, cf_42_0, cf_42_1, cf_42_2, cf_42_3, cp_42_2, cp_42_3, ci_42, cf_47_0, cf_47_1, cf_47_2, cp_47_1, cp_47_2, ci_47, cf_50_0, cf_50_1, cf_50_2, ci_50, cf_57_0, cf_57_1, ci_57, cf_62_0, cf_62_1, ci_62, cf_67_0, cf_67_1, cf_67_2, cf_67_3, cf_67_4, cf_67_5, cp_67_1, cp_67_2, ci_67, cf_76_0, cf_76_1, cf_76_2, cf_76_3, cf_76_4, cf_76_5, cp_76_1, cp_76_2, cp_76_3, ci_76, cw, e0, a1, a3, e1, e2]
      simp (decide := true) only [s_70_44, s_70_51, s_70_69, s_70_73, s_70_79, s_70_85, s_70_90, s_70_98, Option.bind_some, x_tlv, x_tln, if_true, if_false, cr_isa, R_at, R_has, R_size, R_put, R_isFull, R_add, R_clear, c_has_eq, c_wa_1, c_wa_2, c_ws_1, c_ws_2, cf_0_0, cf_0_1, cf_0_2, cf_0_3, cf_0_4, cf_0_5, cf_0_6, cf_0_7, cf_0_8, cf_0_9, cf_0_10, cf_0_11, cf_0_12, cf_0_13, cp_0_12, cp_0_13, ci_0, cf_1_0, cf_1_1, cf_1_2, cf_1_3, cf_1_4, cp_1_1, cp_1_2, cp_1_3, cp_1_4, ci_1, cf_4_0, cf_4_1, cf_4_2, cf_4_3, cf_4_4, cf_4_5, cf_4_6, cf_4_7, cf_4_8, cf_4_9, cf_4_10, cp_4_0, cp_4_1, ci_4, cf_23_0, cf_23_1, cf_23_2, cf_23_3, cf_23_4, cf_23_5, cf_23_6, cf_23_7, cf_23_8, cf_23_9, cf_23_10, cp_23_0, cp_23_1, ci_23, cf_42_0, cf_42_1, cf_42_2, cf_42_3, cp_42_2, cp_42_3, ci_42, cf_47_0, cf_47_1, cf_47_2, cp_47_1, cp_47_2, ci_47, cf_50_0, cf_50_1, cf_50_2, ci_50, cf_57_0, cf_57_1, ci_57, cf_62_0, cf_62_1, ci_62, cf_67_0, cf_67_1, cf_67_2, cf_67_3, cf_67_4, cf_67_5, cp_67_1, cp_67_2, ci_67, cf_76_0, cf_76_1, cf_76_2, cf_76_3, cf_76_4, cf_76_5, cp_76_1, cp_76_2, cp_76_3, ci_76, hR, e6, a2, a4, e11, p1, nI_1]
      exact j2
theorem C_cp (d : Nat) (σ : x_S) (D : Int32) (G : Nat → Int32) (f g i : Value) : ∀ m k (F : Nat → Int32), k + m = 6 → (∀ j, j < k → F j = G j) → ∃ F', (∀ j, j < 6 → F' j = G j) ∧ x_E x_P (d + 1) x_c70 106 [.ref 67, .ref 4, .int D, .int (nI k), f, g, i] [] (CG (WW σ F G)) = some (none, CG (WW σ F' G)) := by
  intro m
  induction m with
  | zero =>
    intro k F hk hF
    obtain rfl : k = 6 := by omega
    have e : (6 : Int32) ≤ nI 6 := by decide
    exact ⟨F, hF, by rw [s_70_106, if_pos e, s_70_134]⟩
  | succ m ih =>
    intro k F hk hF
    have e : ¬ (6 : Int32) ≤ nI k := nI_ge (b := 6) (by omega) (by omega)
    obtain ⟨F', j1, j2⟩ := ih (k + 1) (upd F k (G k)) (by omega) (fun j hj => by
      unfold upd
      by_cases h : j = k
      · rw [if_pos h, h]
      · rw [if_neg h]; exact hF j (by omega))
    refine ⟨F', j1, ?_⟩
    have a1 := WW_a2 σ F G (k := k) (by omega)
    have p1 := WW_p1 σ F G (G k) (k := k) (by omega)
    rw [s_70_106]; simp (decide := true) only [s_70_112, s_70_116, s_70_121, s_70_125, s_70_128, Option.bind_some, x_tlv, x_tln, if_true, if_false, cr_isa, R_at, R_has, R_size, R_put, R_isFull, R_add, R_clear, c_has_eq, c_wa_1, c_wa_2, c_ws_1, c_ws_2, cf_0_0, cf_0_1, cf_0_2, cf_0_3, cf_0_4, cf_0_5, cf_0_6, cf_0_7, cf_0_8, cf_0_9, cf_0_10, cf_0_11, cf_0_12, cf_0_13, cp_0_12, cp_0_13, ci_0, cf_1_0, cf_1_1, cf_1_2, cf_1_3, cf_1_4, cp_1_1, cp_1_2, cp_1_3, cp_1_4, ci_1, cf_4_0, cf_4_1, cf_4_2, cf_4_3, cf_4_4, cf_4_5, cf_4_6, cf_4_7, cf_4_8, cf_4_9, cf_4_10, cp_4_0, cp_4_1, ci_4, cf_23_0, cf_23_1, cf_23_2, cf_23_3, cf_23_4, cf_23_5, cf_23_6, cf_23_7, cf_23_8, cf_23_9, cf_23_10, cp_23_0, cp_23_1, ci_23, cf_42_0, cf_42_1, cf_42_2, cf_42_3, cp_42_2, cp_42_3, ci_42, cf_47_0, cf_47_1, cf_47_2, cp_47_1, cp_47_2, ci_47, cf_50_0, cf_50_1, cf_50_2, ci_50, cf_57_0, cf_57_1, ci_57, cf_62_0, cf_62_1, ci_62, cf_67_0, cf_67_1, cf_67_2, cf_67_3, cf_67_4, cf_67_5, cp_67_1, cp_67_2, ci_67, cf_76_0, cf_76_1, cf_76_2, cf_76_3, cf_76_4, cf_76_5, cp_76_1, cp_76_2, cp_76_3, ci_76, e, a1, p1, nI_1]
    exact j2
theorem C_turnAll {σ : x_S} {μ : x_U} {U T D b : Nat} (d : Nat) (hU : U ≤ 6) (hT : T ≤ 8) (c4 : σ.2 7 1 = nI T) (ht : S_tab σ μ U T) (hD : D < 100) {y : Nat → Nat} (hb : b ≤ 160000) (hy : ∀ j, y j ≤ b + 1) (F G : Nat → Int32) (hF : ∀ j, j < 6 → F j = eN (y j)) : ∃ F' G', (∀ j, j < 6 → F' j = eN (tf μ D y T j)) ∧ x_R x_P (d + 4) 70 [.ref 67, .ref 4, .int (nI D)] (CG (WW σ F G)) = some (none, CG (WW σ F' G')) := by
  have hf := R_fill (d + 2) (WW σ F G) 74 (-1) (by decide)
  rw [WW_2] at hf
  obtain ⟨G1, f', g', i', j1, j2⟩ := C_tf (D := D) d hU hT c4 ht hD hb hy F hF T 0 (x_fl ((WW σ F G).1 75) (-1) 6) x_j x_j x_j (by omega) (fun j hj => by
    unfold x_fl
    rw [if_pos hj]
    rfl)
  obtain ⟨F', k1, k2⟩ := C_cp (d + 2) σ (nI D) G1 f' g' i' 6 0 F (by omega) (fun j hj => by omega)
  refine ⟨F', G1, fun j hj => (k1 j hj).trans (j1 j hj), ?_⟩
  simp (decide := true) only [r_70, s_70_0, s_70_4, s_70_8, Option.bind_some, x_tlv, x_tln, if_true, if_false, cr_isa, R_at, R_has, R_size, R_put, R_isFull, R_add, R_clear, c_has_eq, c_wa_1, c_wa_2, c_ws_1, c_ws_2, cf_0_0, cf_0_1, cf_0_2, cf_0_3, cf_0_4, cf_0_5, cf_0_6, cf_0_7, cf_0_8, cf_0_9, cf_0_10, cf_0_11, cf_0_12, cf_0_13, cp_0_12, cp_0_13, ci_0, cf_1_0, cf_1_1, cf_1_2, cf_1_3, cf_1_4, cp_1_1, cp_1_2, cp_1_3, cp_1_4, ci_1, cf_4_0, cf_4_1, cf_4_2, cf_4_3, cf_4_4, cf_4_5, cf_4_6, cf_4_7, cf_4_8, cf_4_9, cf_4_10, cp_4_0, cp_4_1, ci_4, cf_23_0, cf_23_1, cf_23_2, cf_23_3, cf_23_4, cf_23_5, cf_23_6, cf_23_7, cf_23_8, cf_23_9, cf_23_10, cp_23_0, cp_23_1, ci_23, cf_42_0, cf_42_1, cf_42_2, cf_42_3, cp_42_2, cp_42_3, ci_42, cf_47_0, cf_47_1, cf_47_2, cp_47_1, cp_47_2, ci_47, cf_50_0, cf_50_1, cf_50_2, ci_50, cf_57_0, cf_57_1, ci_57, cf_62_0, cf_62_1, ci_62, cf_67_0, cf_67_1, cf_67_2, cf_67_3, cf_67_4, cf_67_5, cp_67_1, cp_67_2, ci_67, cf_76_0, cf_76_1, cf_76_2, cf_76_3, cf_76_4, cf_76_5, cp_76_1, cp_76_2, cp_76_3, ci_76]
  rw [hf]
  simp (decide := true) only [s_70_8, Option.bind_some, x_tlv, x_tln, if_true, if_false, cr_isa, R_at, R_has, R_size, R_put, R_isFull, R_add, R_clear, c_has_eq, c_wa_1, c_wa_2, c_ws_1, c_ws_2, cf_0_0, cf_0_1, cf_0_2, cf_0_3, cf_0_4, cf_0_5, cf_0_6, cf_0_7, cf_0_8, cf_0_9, cf_0_10, cf_0_11, cf_0_12, cf_0_13, cp_0_12, cp_0_13, ci_0, cf_1_0, cf_1_1, cf_1_2, cf_1_3, cf_1_4, cp_1_1, cp_1_2, cp_1_3, cp_1_4, ci_1, cf_4_0, cf_4_1, cf_4_2, cf_4_3, cf_4_4, cf_4_5, cf_4_6, cf_4_7, cf_4_8, cf_4_9, cf_4_10, cp_4_0, cp_4_1, ci_4, cf_23_0, cf_23_1, cf_23_2, cf_23_3, cf_23_4, cf_23_5, cf_23_6, cf_23_7, cf_23_8, cf_23_9, cf_23_10, cp_23_0, cp_23_1, ci_23, cf_42_0, cf_42_1, cf_42_2, cf_42_3, cp_42_2, cp_42_3, ci_42, cf_47_0, cf_47_1, cf_47_2, cp_47_1, cp_47_2, ci_47, cf_50_0, cf_50_1, cf_50_2, ci_50, cf_57_0, cf_57_1, ci_57, cf_62_0, cf_62_1, ci_62, cf_67_0, cf_67_1, cf_67_2, cf_67_3, cf_67_4, cf_67_5, cp_67_1, cp_67_2, ci_67, cf_76_0, cf_76_1, cf_76_2, cf_76_3, cf_76_4, cf_76_5, cp_76_1, cp_76_2, cp_76_3, ci_76]
  refine Eq.trans j2 ?_
  rw [s_70_104]
  exact k2
theorem C_most {σ : x_S} {μ : x_U} {U T D u : Nat} (d : Nat) (hU : U ≤ 6) (hT : T ≤ 8) (c4 : σ.2 7 1 = nI T) (ht : S_tab σ μ U T) (hD : D < 100) (hu : u < 6) : ∀ m k (F G : Nat → Int32), k + m = 4 → (∀ j, j < 6 → F j = eN (yk μ D T u k j)) → ∃ F' G', x_E x_P (d + 4) x_c69 24 [.ref 67, .ref 4, .int (nI u), .int (nI D), .int (eN (mk μ D T u k)), .int (nI k)] [] (CG (WW σ F G)) = some (some (.int (eN (mk μ D T u 4))), CG (WW σ F' G')) := by
  have hTT : ∀ t, t < T → 1 ≤ tGv μ t ∧ tGt μ t ≤ 20 := fun t h => ⟨(TB.of hU ht h).g1, (TB.of hU ht h).h2⟩
  intro m
  induction m with
  | zero =>
    intro k F G hk hF
    obtain rfl : k = 4 := by omega
    have e : (4 : Int32) ≤ nI 4 := by decide
    exact ⟨F, G, by rw [s_69_24, if_pos e, s_69_57]⟩
  | succ m ih =>
    intro k F G hk hF
    have e : ¬ (4 : Int32) ≤ nI k := nI_ge (b := 4) (by omega) (by omega)
    have hb : 20 * 20 ^ k ≤ 160000 := by
      have h2 : 20 ^ k ≤ 20 ^ 3 := Nat.pow_le_pow_right (by omega) (by omega)
      omega
    obtain ⟨F1, G1, i1, i2⟩ := C_turnAll (D := D) d hU hT c4 ht hD hb (yk_le hTT k) F G hF
    have a1 : c_at (WW σ F1 G1) 72 (nI u) = eN (yk μ D T u (k + 1) u) := by rw [WW_a1 _ _ _ hu]; exact i1 u hu
    have b1 := mk_le (D := D) (u := u) hTT k (by omega)
    have b2 := yk_le5 (D := D) (u := u) (k := k + 1) hTT (by omega) u
    have e2 := eN_mx (a := mk μ D T u k) (b := yk μ D T u (k + 1) u) (by omega) (by omega)
    obtain ⟨F', G', j1⟩ := ih (k + 1) F1 G1 (by omega) i1
    refine ⟨F', G', ?_⟩
    rw [s_69_24]; simp (decide := true) only [s_69_30, Option.bind_some, x_tlv, x_tln, if_true, if_false, cr_isa, R_at, R_has, R_size, R_put, R_isFull, R_add, R_clear, c_has_eq, c_wa_1, c_wa_2, c_ws_1, c_ws_2, cf_0_0, cf_0_1, cf_0_2, cf_0_3, cf_0_4, cf_0_5, cf_0_6, cf_0_7, cf_0_8, cf_0_9, cf_0_10, cf_0_11, cf_0_12, cf_0_13, cp_0_12, cp_0_13, ci_0, cf_1_0, cf_1_1, cf_1_2, cf_1_3, cf_1_4, cp_1_1, cp_1_2, cp_1_3, cp_1_4, ci_1, cf_4_0, cf_4_1, cf_4_2, cf_4_3, cf_4_4, cf_4_5, cf_4_6, cf_4_7, cf_4_8, cf_4_9, cf_4_10, cp_4_0, cp_4_1, ci_4, cf_23_0, cf_23_1, cf_23_2, cf_23_3, cf_23_4, cf_23_5, cf_23_6, cf_23_7, cf_23_8, cf_23_9, cf_23_10, cp_23_0, cp_23_1, ci_23, cf_42_0, cf_42_1, cf_42_2, cf_42_3, cp_42_2, cp_42_3, ci_42, cf_47_0, cf_47_1, cf_47_2, cp_47_1, cp_47_2, ci_47, cf_50_0, cf_50_1, cf_50_2, ci_50, cf_57_0, cf_57_1, ci_57, cf_62_0, cf_62_1, ci_62, cf_67_0, cf_67_1, cf_67_2, cf_67_3, cf_67_4, cf_67_5, cp_67_1, cp_67_2, ci_67, cf_76_0, cf_76_1, cf_76_2, cf_76_3, cf_76_4, cf_76_5, cp_76_1, cp_76_2, cp_76_3, ci_76, e]
    rw [i2]
    simp (decide := true) only [s_69_36, s_69_42, s_69_46, Option.bind_some, x_tlv, x_tln, if_true, if_false, cr_isa, R_at, R_has, R_size, R_put, R_isFull, R_add, R_clear, c_has_eq, c_wa_1, c_wa_2, c_ws_1, c_ws_2, cf_0_0, cf_0_1, cf_0_2, cf_0_3, cf_0_4, cf_0_5, cf_0_6, cf_0_7, cf_0_8, cf_0_9, cf_0_10, cf_0_11, cf_0_12, cf_0_13, cp_0_12, cp_0_13, ci_0, cf_1_0, cf_1_1, cf_1_2, cf_1_3, cf_1_4, cp_1_1, cp_1_2, cp_1_3, cp_1_4, ci_1, cf_4_0, cf_4_1, cf_4_2, cf_4_3, cf_4_4, cf_4_5, cf_4_6, cf_4_7, cf_4_8, cf_4_9, cf_4_10, cp_4_0, cp_4_1, ci_4, cf_23_0, cf_23_1, cf_23_2, cf_23_3, cf_23_4, cf_23_5, cf_23_6, cf_23_7, cf_23_8, cf_23_9, cf_23_10, cp_23_0, cp_23_1, ci_23, cf_42_0, cf_42_1, cf_42_2, cf_42_3, cp_42_2, cp_42_3, ci_42, cf_47_0, cf_47_1, cf_47_2, cp_47_1, cp_47_2, ci_47, cf_50_0, cf_50_1, cf_50_2, ci_50, cf_57_0, cf_57_1, ci_57, cf_62_0, cf_62_1, ci_62, cf_67_0, cf_67_1, cf_67_2, cf_67_3, cf_67_4, cf_67_5, cp_67_1, cp_67_2, ci_67, cf_76_0, cf_76_1, cf_76_2, cf_76_3, cf_76_4, cf_76_5, cp_76_1, cp_76_2, cp_76_3, ci_76, a1, e2, nI_1]
    exact j1
/-- the class's answer: the most yards of a use behind one to four turns -/
theorem C_mostRound {σ : x_S} {μ : x_U} {U T D u : Nat} (d : Nat) (hU : U ≤ 6) (hT : T ≤ 8) (c4 : σ.2 7 1 = nI T) (ht : S_tab σ μ U T) (hD : D < 100) (hu : u < 6) (F G : Nat → Int32) : ∃ F' G', x_R x_P (d + 5) 69 [.ref 67, .ref 4, .int (nI u), .int (nI D)] (CG (WW σ F G)) = some (some (.int (eN (mk μ D T u 4))), CG (WW σ F' G')) := by
  have hf := R_fill (d + 3) (WW σ F G) 72 (-1) (by decide)
  rw [WW_1] at hf
  have p1 := WW_p1 σ (x_fl ((WW σ F G).1 73) (-1) 6) G 20 hu
  obtain ⟨F', G', j1⟩ := C_most (D := D) d hU hT c4 ht hD hu 4 0 (upd (x_fl ((WW σ F G).1 73) (-1) 6) u 20) G (by omega) (fun j hj => by
    show _ = eN (if j = u then 21 else 0)
    unfold upd x_fl
    by_cases h : j = u
    · rw [if_pos h, if_pos h]; rfl
    · rw [if_neg h, if_neg h, if_pos hj]; rfl)
  refine ⟨F', G', ?_⟩
  simp (decide := true) only [r_69, s_69_0, s_69_4, Option.bind_some, x_tlv, x_tln, if_true, if_false, cr_isa, R_at, R_has, R_size, R_put, R_isFull, R_add, R_clear, c_has_eq, c_wa_1, c_wa_2, c_ws_1, c_ws_2, cf_0_0, cf_0_1, cf_0_2, cf_0_3, cf_0_4, cf_0_5, cf_0_6, cf_0_7, cf_0_8, cf_0_9, cf_0_10, cf_0_11, cf_0_12, cf_0_13, cp_0_12, cp_0_13, ci_0, cf_1_0, cf_1_1, cf_1_2, cf_1_3, cf_1_4, cp_1_1, cp_1_2, cp_1_3, cp_1_4, ci_1, cf_4_0, cf_4_1, cf_4_2, cf_4_3, cf_4_4, cf_4_5, cf_4_6, cf_4_7, cf_4_8, cf_4_9, cf_4_10, cp_4_0, cp_4_1, ci_4, cf_23_0, cf_23_1, cf_23_2, cf_23_3, cf_23_4, cf_23_5, cf_23_6, cf_23_7, cf_23_8, cf_23_9, cf_23_10, cp_23_0, cp_23_1, ci_23, cf_42_0, cf_42_1, cf_42_2, cf_42_3, cp_42_2, cp_42_3, ci_42, cf_47_0, cf_47_1, cf_47_2, cp_47_1, cp_47_2, ci_47, cf_50_0, cf_50_1, cf_50_2, ci_50, cf_57_0, cf_57_1, ci_57, cf_62_0, cf_62_1, ci_62, cf_67_0, cf_67_1, cf_67_2, cf_67_3, cf_67_4, cf_67_5, cp_67_1, cp_67_2, ci_67, cf_76_0, cf_76_1, cf_76_2, cf_76_3, cf_76_4, cf_76_5, cp_76_1, cp_76_2, cp_76_3, ci_76]
  rw [hf, show c_room 72 = 6 from rfl]
  simp (decide := true) only [s_69_8, s_69_12, s_69_18, Option.bind_some, x_tlv, x_tln, if_true, if_false, cr_isa, R_at, R_has, R_size, R_put, R_isFull, R_add, R_clear, c_has_eq, c_wa_1, c_wa_2, c_ws_1, c_ws_2, cf_0_0, cf_0_1, cf_0_2, cf_0_3, cf_0_4, cf_0_5, cf_0_6, cf_0_7, cf_0_8, cf_0_9, cf_0_10, cf_0_11, cf_0_12, cf_0_13, cp_0_12, cp_0_13, ci_0, cf_1_0, cf_1_1, cf_1_2, cf_1_3, cf_1_4, cp_1_1, cp_1_2, cp_1_3, cp_1_4, ci_1, cf_4_0, cf_4_1, cf_4_2, cf_4_3, cf_4_4, cf_4_5, cf_4_6, cf_4_7, cf_4_8, cf_4_9, cf_4_10, cp_4_0, cp_4_1, ci_4, cf_23_0, cf_23_1, cf_23_2, cf_23_3, cf_23_4, cf_23_5, cf_23_6, cf_23_7, cf_23_8, cf_23_9, cf_23_10, cp_23_0, cp_23_1, ci_23, cf_42_0, cf_42_1, cf_42_2, cf_42_3, cp_42_2, cp_42_3, ci_42, cf_47_0, cf_47_1, cf_47_2, cp_47_1, cp_47_2, ci_47, cf_50_0, cf_50_1, cf_50_2, ci_50, cf_57_0, cf_57_1, ci_57, cf_62_0, cf_62_1, ci_62, cf_67_0, cf_67_1, cf_67_2, cf_67_3, cf_67_4, cf_67_5, cp_67_1, cp_67_2, ci_67, cf_76_0, cf_76_1, cf_76_2, cf_76_3, cf_76_4, cf_76_5, cp_76_1, cp_76_2, cp_76_3, ci_76, p1]
  exact j1
