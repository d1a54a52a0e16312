/-! ways: the class walks -/
def QQ (σ : x_S) (B W : Nat → Int32) (Y K : Int32) : x_S := c_ws (c_ws (c_wa (c_wa σ 69 B) 71 W) 67 1 Y) 67 2 K
theorem c_ws_ws (σ : x_S) (o k : Nat) (v w : Int32) : c_ws (c_ws σ o k v) o k w = c_ws σ o k w := by
  unfold c_ws
  congr 1
  funext x
  by_cases h : x = o
  · subst h
    funext j
    by_cases hj : j = k <;> simp [hj]
  · simp [h]
theorem c_ws_cm (σ : x_S) (o k l : Nat) (h : k ≠ l) (v w : Int32) : c_ws (c_ws σ o k v) o l w = c_ws (c_ws σ o l w) o k v := by
  unfold c_ws
  congr 1
  funext x
  by_cases hx : x = o
  · subst hx
    funext j
    by_cases hj : j = l
    · subst hj
      simp [Ne.symm h]
    · simp [hj]
  · simp [hx]
theorem QQ_B (σ : x_S) (B W f : Nat → Int32) (Y K : Int32) : c_wa (QQ σ B W Y K) 69 f = QQ σ f W Y K := by
  unfold QQ
  show c_ws (c_ws (c_wa (c_wa (c_wa σ 69 B) 71 W) 69 f) 67 1 Y) 67 2 K = _
  rw [c_wa_cm _ (by decide), c_wa_wa, c_wa_cm _ (by decide)]
theorem QQ_W (σ : x_S) (B W f : Nat → Int32) (Y K : Int32) : c_wa (QQ σ B W Y K) 71 f = QQ σ B f Y K := by
  unfold QQ
  show c_ws (c_ws (c_wa (c_wa (c_wa σ 69 B) 71 W) 71 f) 67 1 Y) 67 2 K = _
  rw [c_wa_wa]
theorem QQ_YK (σ : x_S) (B W : Nat → Int32) (Y K Y' K' : Int32) : c_ws (c_ws (QQ σ B W Y K) 67 1 Y') 67 2 K' = QQ σ B W Y' K' := by
  unfold QQ
  rw [c_ws_cm _ 67 1 2 (by decide), c_ws_ws, c_ws_cm _ 67 2 1 (by decide), c_ws_ws]
theorem QQ_wp (σ : x_S) (B W : Nat → Int32) (Y K v : Int32) {k : Nat} (h : k < 4) : c_pt (QQ σ B W Y K) 70 (nI k) v = QQ σ B (upd W k v) Y K := by rw [c_pt_n (q := 70) (by show k < 4; omega)]; exact QQ_W σ B W _ Y K
theorem QQ_bp (σ : x_S) (B W : Nat → Int32) (Y K v : Int32) {k : Nat} (h : k < 4) : c_pt (QQ σ B W Y K) 68 (nI k) v = QQ σ (upd B k v) W Y K := by rw [c_pt_n (q := 68) (by show k < 4; omega)]; exact QQ_B σ B W _ Y K
theorem QQ_wa (σ : x_S) (B W : Nat → Int32) (Y K : Int32) {k : Nat} (h : k < 4) : c_at (QQ σ B W Y K) 70 (nI k) = W k := by rw [c_at_n (q := 70) (by show k < 4; omega)]; rfl
theorem QQ_ba (σ : x_S) (B W : Nat → Int32) (Y K : Int32) {k : Nat} (h : k < 4) : c_at (QQ σ B W Y K) 68 (nI k) = B k := by rw [c_at_n (q := 68) (by show k < 4; omega)]; rfl
theorem QQ_1 (σ : x_S) (B W : Nat → Int32) (Y K : Int32) : (QQ σ B W Y K).2 67 1 = Y := rfl
theorem QQ_2 (σ : x_S) (B W : Nat → Int32) (Y K : Int32) : (QQ σ B W Y K).2 67 2 = K := rfl
def kk (v K : Nat) : Int32 := if v = 0 then -1 else nI K
theorem E_cpb (d : Nat) (σ : x_S) (W : Nat → Int32) (Y K y : Int32) {k : Nat} (hk : k ≤ 4) : ∀ m i (B : Nat → Int32), i + m = k → (∀ j, j < i → B j = W j) → ∃ B', (∀ j, j < k → B' j = W j) ∧ x_E x_P (d + 1) x_c68 37 [.ref 67, .int y, .int (nI k), .int (nI i)] [] (CG (QQ σ B W Y K)) = some (none, CG (QQ σ B' W Y K)) := by
  intro m
  induction m with
  | zero =>
    intro i B hi hB
    obtain rfl : i = k := by omega
    exact ⟨B, hB, by rw [s_68_37, if_pos (Int32.le_refl _), s_68_64]⟩
  | succ m ih =>
    intro i B hi hB
    have e : ¬ nI k ≤ nI i := nI_ge (by omega) (by omega)
    obtain ⟨B', j1, j2⟩ := ih (i + 1) (upd B i (W i)) (by omega) (fun j hj => by
      unfold upd
      by_cases h : j = i
      · rw [if_pos h, h]
      · rw [if_neg h]; exact hB j (by omega))
    refine ⟨B', j1, ?_⟩
    have a1 := QQ_wa σ B W Y K (k := i) (by omega)
    have p1 := QQ_bp σ B W Y K (W i) (k := i) (by omega)
    rw [s_68_37, if_neg e]
    simp (decide := true) only [s_68_42, s_68_46, s_68_51, s_68_55, s_68_58, Option.bind_some, x_tlv, x_tln, if_true, if_false, cr_isa, R_at, R_has, R_size, R_put, R_isFull, R_add, R_clear, c_has_eq, c_wa_1, c_wa_2, c_ws_1, c_ws_2, cf_0_0, cf_0_1, cf_0_2, cf_0_3, cf_0_4, cf_0_5, cf_0_6, cf_0_7, cf_0_8, cf_0_9, cf_0_10, cf_0_11, cf_0_12, cf_0_13, cp_0_12, cp_0_13, ci_0, cf_1_0, cf_1_1, cf_1_2, cf_1_3, cf_1_4, cp_1_1, cp_1_2, cp_1_3, cp_1_4, ci_1, cf_4_0, cf_4_1, cf_4_2, cf_4_3, cf_4_4, cf_4_5, cf_4_6, cf_4_7, cf_4_8, cf_4_9, cf_4_10, cp_4_0, cp_4_1, ci_4, cf_23_0, cf_23_1, cf_23_2, cf_23_3, cf_23_4, cf_23_5, cf_23_6, cf_23_7, cf_23_8, cf_23_9, cf_23_10, cp_23_0, cp_23_1, ci_23, cf_42_0, cf_42_1, cf_42_2, cf_42_3, cp_42_2, cp_42_3, ci_42, cf_47_0, cf_47_1, cf_47_2, cp_47_1, cp_47_2, ci_47, cf_50_0, cf_50_1, cf_50_2, ci_50, cf_57_0, cf_57_1, ci_57, cf_62_0, cf_62_1, ci_62, cf_67_0, cf_67_1, cf_67_2, cf_67_3, cf_67_4, cf_67_5, cp_67_1, cp_67_2, ci_67, cf_76_0, cf_76_1, cf_76_2, cf_76_3, cf_76_4, cf_76_5, cp_76_1, cp_76_2, cp_76_3, ci_76, a1, p1, nI_1]
    exact j2
theorem C_note {μ : x_U} {T a b n : Nat} (d : Nat) (σ : x_S) {k c y v K C : Nat} {B W : Nat → Int32} (hT : T ≤ 8) (hk : k ≤ 4) (hc : c < T ^ k) (hv : val μ T a b n k c = y + 1) (hy : y < 2 ^ 30) (hvb : v < 2 ^ 30) (hW : ∀ i, i < k → W i = nI (dg T k c i)) (hA : Att μ T a b n v K C B) (hO : v ≠ 0 → k ≤ K → C / T ^ (K - k) < c) : ∃ v' K' C' B', Att μ T a b n v' K' C' B' ∧ key v K C ≤ key v' K' C' ∧ key (y + 1) k c ≤ key v' K' C' ∧ ((v' = v ∧ K' = K ∧ C' = C) ∨ (v' ≠ 0 ∧ K' = k ∧ C' = c)) ∧ x_R x_P (d + 2) 68 [.ref 67, .int (nI y), .int (nI k)] (CG (QQ σ B W (eN v) (kk v K))) = some (none, CG (QQ σ B' W (eN v') (kk v' K'))) := by
  have pb := pow_b hT hk
  have ey : nI y = eN (y + 1) := (eN_s y).symm
  have l1 := eN_lt (a := y + 1) (b := v) (by omega) (by omega)
  have l2 : (nI y = eN v) ↔ y + 1 = v := by
    rw [ey, ← Int32.toInt_inj, eN_toInt (by omega), eN_toInt (by omega)]; omega
  rw [← ey] at l1
  have take : (¬ y + 1 < v) → (y + 1 = v → k < K) → ∃ v' K' C' B', Att μ T a b n v' K' C' B' ∧ key v K C ≤ key v' K' C' ∧ key (y + 1) k c ≤ key v' K' C' ∧ ((v' = v ∧ K' = K ∧ C' = C) ∨ (v' ≠ 0 ∧ K' = k ∧ C' = c)) ∧ x_E x_P (d + 1) x_c68 25 [.ref 67, .int (nI y), .int (nI k), x_j] [] (CG (QQ σ B W (eN v) (kk v K))) = some (none, CG (QQ σ B' W (eN v') (kk v' K'))) := by
    intro h1 h2
    obtain ⟨B', j1, j2⟩ := E_cpb d σ W (nI y) (nI k) (nI y) hk k 0 B (by omega) (fun j hj => absurd hj (Nat.not_lt_zero j))
    refine ⟨y + 1, k, c, B', Or.inr ⟨hv.symm, hk, hc, fun i hi => (j1 i hi).trans (hW i hi)⟩, ?_, Nat.le_refl _, Or.inr ⟨by omega, rfl, rfl⟩, ?_⟩
    · unfold key
      by_cases hv0 : v = 0
      · rw [if_pos hv0]; omega
      · rw [if_neg hv0, if_neg (by omega)]
        rcases hA with hA | ⟨-, a2, a3, -⟩
        · exact absurd hA hv0
        · by_cases hq : y + 1 = v
          · have := h2 hq; omega
          · omega
    · have kk1 : kk (y + 1) k = nI k := if_neg (by omega)
      rw [kk1, eN_s]
      simp (decide := true) only [s_68_25, s_68_30, s_68_35, Option.bind_some, x_tlv, x_tln, if_true, if_false, cr_isa, R_at, R_has, R_size, R_put, R_isFull, R_add, R_clear, c_has_eq, c_wa_1, c_wa_2, c_ws_1, c_ws_2, cf_0_0, cf_0_1, cf_0_2, cf_0_3, cf_0_4, cf_0_5, cf_0_6, cf_0_7, cf_0_8, cf_0_9, cf_0_10, cf_0_11, cf_0_12, cf_0_13, cp_0_12, cp_0_13, ci_0, cf_1_0, cf_1_1, cf_1_2, cf_1_3, cf_1_4, cp_1_1, cp_1_2, cp_1_3, cp_1_4, ci_1, cf_4_0, cf_4_1, cf_4_2, cf_4_3, cf_4_4, cf_4_5, cf_4_6, cf_4_7, cf_4_8, cf_4_9, cf_4_10, cp_4_0, cp_4_1, ci_4, cf_23_0, cf_23_1, cf_23_2, cf_23_3, cf_23_4, cf_23_5, cf_23_6, cf_23_7, cf_23_8, cf_23_9, cf_23_10, cp_23_0, cp_23_1, ci_23, cf_42_0, cf_42_1, cf_42_2, cf_42_3, cp_42_2, cp_42_3, ci_42, cf_47_0, cf_47_1, cf_47_2, cp_47_1, cp_47_2, ci_47, cf_50_0, cf_50_1, cf_50_2, ci_50, cf_57_0, cf_57_1, ci_57, cf_62_0, cf_62_1, ci_62, cf_67_0, cf_67_1, cf_67_2, cf_67_3, cf_67_4, cf_67_5, cp_67_1, cp_67_2, ci_67, cf_76_0, cf_76_1, cf_76_2, cf_76_3, cf_76_4, cf_76_5, cp_76_1, cp_76_2, cp_76_3, ci_76, QQ_YK]
      exact j2
  by_cases h1 : y + 1 < v
  · have e1 := l1.mpr h1
    refine ⟨v, K, C, B, hA, Nat.le_refl _, ?_, Or.inl ⟨rfl, rfl, rfl⟩, ?_⟩
    · unfold key
      rw [if_neg (by omega), if_neg (by omega)]
      omega
    · simp (decide := true) only [r_68, s_68_0, s_68_5, s_68_24, Option.bind_some, x_tlv, x_tln, if_true, if_false, cr_isa, R_at, R_has, R_size, R_put, R_isFull, R_add, R_clear, c_has_eq, c_wa_1, c_wa_2, c_ws_1, c_ws_2, cf_0_0, cf_0_1, cf_0_2, cf_0_3, cf_0_4, cf_0_5, cf_0_6, cf_0_7, cf_0_8, cf_0_9, cf_0_10, cf_0_11, cf_0_12, cf_0_13, cp_0_12, cp_0_13, ci_0, cf_1_0, cf_1_1, cf_1_2, cf_1_3, cf_1_4, cp_1_1, cp_1_2, cp_1_3, cp_1_4, ci_1, cf_4_0, cf_4_1, cf_4_2, cf_4_3, cf_4_4, cf_4_5, cf_4_6, cf_4_7, cf_4_8, cf_4_9, cf_4_10, cp_4_0, cp_4_1, ci_4, cf_23_0, cf_23_1, cf_23_2, cf_23_3, cf_23_4, cf_23_5, cf_23_6, cf_23_7, cf_23_8, cf_23_9, cf_23_10, cp_23_0, cp_23_1, ci_23, cf_42_0, cf_42_1, cf_42_2, cf_42_3, cp_42_2, cp_42_3, ci_42, cf_47_0, cf_47_1, cf_47_2, cp_47_1, cp_47_2, ci_47, cf_50_0, cf_50_1, cf_50_2, ci_50, cf_57_0, cf_57_1, ci_57, cf_62_0, cf_62_1, ci_62, cf_67_0, cf_67_1, cf_67_2, cf_67_3, cf_67_4, cf_67_5, cp_67_1, cp_67_2, ci_67, cf_76_0, cf_76_1, cf_76_2, cf_76_3, cf_76_4, cf_76_5, cp_76_1, cp_76_2, cp_76_3, ci_76, QQ_1, e1]
  · have e1 := (not_congr l1).mpr h1
    by_cases h2 : y + 1 = v
    · have e2 := l2.mpr h2
      have hv0 : v ≠ 0 := by omega
      have hkk : kk v K = nI K := if_neg hv0
      rcases hA with hA' | ⟨a1, a2, a3, a4⟩
      · exact absurd hA' hv0
      · have pK := pow_b hT a2
        by_cases h3 : k < K
        · have e3 : nI k < nI K := nI_lt h3 (by omega)
          obtain ⟨v', K', C', B', q1, q2, q3, q4, q5⟩ := take h1 (fun _ => h3)
          refine ⟨v', K', C', B', q1, q2, q3, q4, ?_⟩
          rw [hkk] at q5 ⊢
          simp (decide := true) only [r_68, s_68_0, s_68_5, s_68_8, s_68_13, s_68_16, s_68_21, Option.bind_some, x_tlv, x_tln, if_true, if_false, cr_isa, R_at, R_has, R_size, R_put, R_isFull, R_add, R_clear, c_has_eq, c_wa_1, c_wa_2, c_ws_1, c_ws_2, cf_0_0, cf_0_1, cf_0_2, cf_0_3, cf_0_4, cf_0_5, cf_0_6, cf_0_7, cf_0_8, cf_0_9, cf_0_10, cf_0_11, cf_0_12, cf_0_13, cp_0_12, cp_0_13, ci_0, cf_1_0, cf_1_1, cf_1_2, cf_1_3, cf_1_4, cp_1_1, cp_1_2, cp_1_3, cp_1_4, ci_1, cf_4_0, cf_4_1, cf_4_2, cf_4_3, cf_4_4, cf_4_5, cf_4_6, cf_4_7, cf_4_8, cf_4_9, cf_4_10, cp_4_0, cp_4_1, ci_4, cf_23_0, cf_23_1, cf_23_2, cf_23_3, cf_23_4, cf_23_5, cf_23_6, cf_23_7, cf_23_8, cf_23_9, cf_23_10, cp_23_0, cp_23_1, ci_23, cf_42_0, cf_42_1, cf_42_2, cf_42_3, cp_42_2, cp_42_3, ci_42, cf_47_0, cf_47_1, cf_47_2, cp_47_1, cp_47_2, ci_47, cf_50_0, cf_50_1, cf_50_2, ci_50, cf_57_0, cf_57_1, ci_57, cf_62_0, cf_62_1, ci_62, cf_67_0, cf_67_1, cf_67_2, cf_67_3, cf_67_4, cf_67_5, cp_67_1, cp_67_2, ci_67, cf_76_0, cf_76_1, cf_76_2, cf_76_3, cf_76_4, cf_76_5, cp_76_1, cp_76_2, cp_76_3, ci_76, QQ_1, QQ_2, e1, e2, e3, Int32.lt_irrefl]
          rw [e2] at q5
          exact q5
        · have e3 : ¬ nI k < nI K := nI_nlt (by omega) (by omega)
          refine ⟨v, K, C, B, Or.inr ⟨a1, a2, a3, a4⟩, Nat.le_refl _, ?_, Or.inl ⟨rfl, rfl, rfl⟩, ?_⟩
          · unfold key
            rw [if_neg (by omega), if_neg hv0]
            by_cases hkK : K = k
            · have := hO hv0 (by omega)
              rw [hkK, Nat.sub_self, Nat.pow_zero, Nat.div_one] at this
              omega
            · omega
          · rw [hkk]
            simp (decide := true) only [r_68, s_68_0, s_68_5, s_68_8, s_68_13, s_68_16, s_68_21, s_68_24, Option.bind_some, x_tlv, x_tln, if_true, if_false, cr_isa, R_at, R_has, R_size, R_put, R_isFull, R_add, R_clear, c_has_eq, c_wa_1, c_wa_2, c_ws_1, c_ws_2, cf_0_0, cf_0_1, cf_0_2, cf_0_3, cf_0_4, cf_0_5, cf_0_6, cf_0_7, cf_0_8, cf_0_9, cf_0_10, cf_0_11, cf_0_12, cf_0_13, cp_0_12, cp_0_13, ci_0, cf_1_0, cf_1_1, cf_1_2, cf_1_3, cf_1_4, cp_1_1, cp_1_2, cp_1_3, cp_1_4, ci_1, cf_4_0, cf_4_1, cf_4_2, cf_4_3, cf_4_4, cf_4_5, cf_4_6, cf_4_7, cf_4_8, cf_4_9, cf_4_10, cp_4_0, cp_4_1, ci_4, cf_23_0, cf_23_1, cf_23_2, cf_23_3, cf_23_4, cf_23_5, cf_23_6, cf_23_7, cf_23_8, cf_23_9, cf_23_10, cp_23_0, cp_23_1, ci_23, cf_42_0, cf_42_1, cf_42_2, cf_42_3, cp_42_2, cp_42_3, ci_42, cf_47_0, cf_47_1, cf_47_2, cp_47_1, cp_47_2, ci_47, cf_50_0, cf_50_1, cf_50_2, ci_50, cf_57_0, cf_57_1, ci_57, cf_62_0, cf_62_1, ci_62, cf_67_0, cf_67_1, cf_67_2, cf_67_3, cf_67_4, cf_67_5, cp_67_1, cp_67_2, ci_67, cf_76_0, cf_76_1, cf_76_2, cf_76_3, cf_76_4, cf_76_5, cp_76_1, cp_76_2, cp_76_3, ci_76, QQ_1, QQ_2, e1, e2, e3, Int32.lt_irrefl]
    · have e2 := (not_congr l2).mpr h2
      obtain ⟨v', K', C', B', q1, q2, q3, q4, q5⟩ := take h1 (fun q => absurd q h2)
      refine ⟨v', K', C', B', q1, q2, q3, q4, ?_⟩
      simp (decide := true) only [r_68, s_68_0, s_68_5, s_68_8, s_68_13, Option.bind_some, x_tlv, x_tln, if_true, if_false, cr_isa, R_at, R_has, R_size, R_put, R_isFull, R_add, R_clear, c_has_eq, c_wa_1, c_wa_2, c_ws_1, c_ws_2, cf_0_0, cf_0_1, cf_0_2, cf_0_3, cf_0_4, cf_0_5, cf_0_6, cf_0_7, cf_0_8, cf_0_9, cf_0_10, cf_0_11, cf_0_12, cf_0_13, cp_0_12, cp_0_13, ci_0, cf_1_0, cf_1_1, cf_1_2, cf_1_3, cf_1_4, cp_1_1, cp_1_2, cp_1_3, cp_1_4, ci_1, cf_4_0, cf_4_1, cf_4_2, cf_4_3, cf_4_4, cf_4_5, cf_4_6, cf_4_7, cf_4_8, cf_4_9, cf_4_10, cp_4_0, cp_4_1, ci_4, cf_23_0, cf_23_1, cf_23_2, cf_23_3, cf_23_4, cf_23_5, cf_23_6, cf_23_7, cf_23_8, cf_23_9, cf_23_10, cp_23_0, cp_23_1, ci_23, cf_42_0, cf_42_1, cf_42_2, cf_42_3, cp_42_2, cp_42_3, ci_42, cf_47_0, cf_47_1, cf_47_2, cp_47_1, cp_47_2, ci_47, cf_50_0, cf_50_1, cf_50_2, ci_50, cf_57_0, cf_57_1, ci_57, cf_62_0, cf_62_1, ci_62, cf_67_0, cf_67_1, cf_67_2, cf_67_3, cf_67_4, cf_67_5, cp_67_1, cp_67_2, ci_67, cf_76_0, cf_76_1, cf_76_2, cf_76_3, cf_76_4, cf_76_5, cp_76_1, cp_76_2, cp_76_3, ci_76, QQ_1, e1, e2]
      exact q5
