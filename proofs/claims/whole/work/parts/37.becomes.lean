/-! what yards become: the model's side; gain, least dues -/
def VV (μ : x_U) (F G : Nat → Int32) : x_U := m_wa (m_wa μ 14 F) 15 G
theorem VV_id (μ : x_U) : VV μ (μ.1 14) (μ.1 15) = μ := by
  unfold VV
  rw [m_wa_id]
  exact m_wa_id μ 15
theorem VV_1 (μ : x_U) (F G f : Nat → Int32) : m_wa (VV μ F G) 14 f = VV μ f G := by
  unfold VV
  rw [m_wa_cm _ (by decide), m_wa_wa, m_wa_cm _ (by decide)]
theorem VV_2 (μ : x_U) (F G f : Nat → Int32) : m_wa (VV μ F G) 15 f = VV μ F f := by
  unfold VV
  rw [m_wa_wa]
theorem VV_a1 (μ : x_U) (F G : Nat → Int32) {k : Nat} (h : k < 6) : x_ild (MG (VV μ F G)) 14 0 (nI k) = some (F k) := md14n _ h
theorem VV_a2 (μ : x_U) (F G : Nat → Int32) {k : Nat} (h : k < 6) : x_ild (MG (VV μ F G)) 15 0 (nI k) = some (G k) := md15n _ h
theorem VV_p1 (μ : x_U) (F G : Nat → Int32) (v : Int32) {k : Nat} (h : k < 6) : x_ist (MG (VV μ F G)) 14 0 (nI k) v = some (MG (VV μ (upd F k v) G)) := by rw [mt14n _ v h]; exact congrArg (fun z => some (MG z)) (VV_1 μ F G _)
theorem VV_p2 (μ : x_U) (F G : Nat → Int32) (v : Int32) {k : Nat} (h : k < 6) : x_ist (MG (VV μ F G)) 15 0 (nI k) v = some (MG (VV μ F (upd G k v))) := by rw [mt15n _ v h]; exact congrArg (fun z => some (MG z)) (VV_2 μ F G _)
theorem VV_t (μ : x_U) (F G : Nat → Int32) {k : Nat} (h : k < 68) : x_ild (MG (VV μ F G)) 1 0 (nI k) = some (μ.1 1 k) := md1n _ h
theorem VV_3 (μ : x_U) (F G : Nat → Int32) : x_ild (MG (VV μ F G)) 1 0 3 = some (μ.1 1 3) := rfl
theorem VV_2' (μ : x_U) (F G : Nat → Int32) : x_ild (MG (VV μ F G)) 1 0 2 = some (μ.1 1 2) := rfl
theorem M_fill0 (d : Nat) (μ : x_U) (u : Nat) (D : Int32) (hu : u < 6) (G : Nat → Int32) : ∀ m k (F : Nat → Int32), k + m = 6 → (∀ j, j < k → F j = eN (if j = u then 21 else 0)) → ∃ F', (∀ j, j < 6 → F' j = eN (if j = u then 21 else 0)) ∧ x_E x_P d x_c160 2 [.ref 0, .int (nI u), .int D, .int (nI k), x_j, x_j, x_j, x_j, x_j] [] (MG (VV μ F G)) = x_E x_P d x_c160 36 [.ref 0, .int (nI u), .int D, .int (-1), .int 0, x_j, x_j, x_j, x_j] [] (MG (VV μ F' G)) := by
  intro m
  induction m with
  | zero =>
    intro k F hk hF
    obtain rfl : k = 6 := by omega
    have e : (6 : Int32) ≤ nI 6 := by decide
    exact ⟨F, hF, by rw [s_160_2, if_pos e, s_160_31]⟩
  | succ m ih =>
    intro k F hk hF
    have e : ¬ (6 : Int32) ≤ nI k := nI_ge (b := 6) (by omega) (by omega)
    obtain ⟨F', j1, j2⟩ := ih (k + 1) (upd F k (eN (if k = u then 21 else 0))) (by omega) (fun j hj => by
      unfold upd
      by_cases h : j = k
      · rw [if_pos h, h]
      · rw [if_neg h]; exact hF j (by omega))
    refine ⟨F', j1, ?_⟩
    have p1 := VV_p1 μ F G (eN (if k = u then 21 else 0)) (k := k) (by omega)
    by_cases hku : k = u
    · have e2 : nI k = nI u := by rw [hku]
      have e3 : eN (if k = u then 21 else 0) = 20 := by rw [if_pos hku]; rfl
      rw [e3] at p1 j2
      rw [s_160_2, if_neg e, s_160_8, mf_25, Option.bind_some, s_160_12, if_pos e2, s_160_18, p1, Option.bind_some, s_160_25, nI_1]
      exact j2
    · have e2 : ¬ nI k = nI u := fun z => hku ((nI_eq (by omega) (by omega)).mp z)
      have e3 : eN (if k = u then 21 else 0) = -1 := by rw [if_neg hku]; rfl
      rw [e3] at p1 j2
      rw [s_160_2, if_neg e, s_160_8, mf_25, Option.bind_some, s_160_12, if_neg e2, s_160_23, p1, Option.bind_some, s_160_25, nI_1]
      exact j2
theorem M_fill1 (d : Nat) (μ : x_U) (u D mo f : Int32) (i j k : Value) (F : Nat → Int32) : ∀ m q (G : Nat → Int32), q + m = 6 → (∀ j, j < q → G j = -1) → ∃ G', (∀ j, j < 6 → G' j = -1) ∧ x_E x_P d x_c160 45 [.ref 0, .int u, .int D, .int mo, .int f, .int (nI q), i, j, k] [] (MG (VV μ F G)) = x_E x_P d x_c160 69 [.ref 0, .int u, .int D, .int mo, .int f, .int 0, i, j, k] [] (MG (VV μ F G')) := by
  intro m
  induction m with
  | zero =>
    intro q G hk hG
    obtain rfl : q = 6 := by omega
    have e : (6 : Int32) ≤ nI 6 := by decide
    exact ⟨G, hG, by rw [s_160_45, if_pos e, s_160_66]⟩
  | succ m ih =>
    intro q G hk hG
    have e : ¬ (6 : Int32) ≤ nI q := nI_ge (b := 6) (by omega) (by omega)
    obtain ⟨G', j1, j2⟩ := ih (q + 1) (upd G q (-1)) (by omega) (fun j hj => by
      unfold upd
      by_cases h : j = q
      · rw [if_pos h]
      · rw [if_neg h]; exact hG j (by omega))
    refine ⟨G', j1, ?_⟩
    have p1 := VV_p2 μ F G (-1) (k := q) (by omega)
    rw [s_160_45, if_neg e, s_160_52, mf_26, Option.bind_some, s_160_56, p1, Option.bind_some, s_160_60, nI_1]
    exact j2
theorem M_tf {σ : x_S} {μ : x_U} {U T D b : Nat} (d : Nat) (u mo r : Int32) (hU : U ≤ 6) (hT : T ≤ 8) (c4 : μ.1 1 3 = nI T) (ht : S_tab σ μ U T) (hD : D < 100) {y : Nat → Nat} (hb : b ≤ 160000) (hy : ∀ j, y j ≤ b + 1) (F : Nat → Int32) (hF : ∀ j, j < 6 → F j = eN (y j)) : ∀ m t (G : Nat → Int32) (f g i : Value), t + m = T → (∀ j, j < 6 → G j = eN (tf μ D y t j)) → ∃ G' f' g' i', (∀ j, j < 6 → G' j = eN (tf μ D y T j)) ∧ x_E x_P (d + 1) x_c160 69 [.ref 0, .int u, .int (nI D), .int mo, .int r, .int (nI t), f, g, i] [] (MG (VV μ F G)) = x_E x_P (d + 1) x_c160 169 [.ref 0, .int u, .int (nI D), .int mo, .int r, .int 0, f', g', i'] [] (MG (VV μ F G')) := by
  have hTT : ∀ t, t < T → 1 ≤ tGv μ t ∧ tGt μ t ≤ 20 := fun t h => ⟨(TB.of hU ht h).g1, (TB.of hU ht h).h2⟩
  intro m
  induction m with
  | zero =>
    intro t G f g i hm hG
    obtain rfl : t = T := by omega
    refine ⟨G, f, g, i, hG, ?_⟩
    rw [s_160_69]; simp (decide := true) only [s_160_75, s_160_77, s_160_166, Option.bind_some, x_tlv, x_tln, if_true, if_false, m_wa_1, m_wa_s, m_wb_1, m_wb_2, m_wb_s, m_ws_1, m_ws_b, m_ws_s, m_ws_e, m_we_1, m_we_b, m_we_s, m_we_e, mf_0, mf_1, mf_2, mf_3, mf_4, mf_5, mf_6, mf_7, mf_8, mf_9, mf_10, mf_11, mf_12, mf_13, mf_14, mf_15, mf_16, mf_17, mf_18, mf_19, mf_20, mf_21, mf_22, mf_23, mf_24, mf_25, mf_26, mf_27, mf_28, mf_29, mf_30, mp_4, mp_7, mp_9, mp_10, mp_12, mp_14, mp_15, mp_16, mp_17, mp_18, mp_19, mp_20, mi_0, VV_3, c4, Int32.le_refl]
  | succ m ih =>
    intro t G f g i hm hG
    have e0 : ¬ nI T ≤ nI t := nI_ge (by omega) (by omega)
    have B := TB.of hU ht (show t < T by omega)
    have fU := B.fU
    have tU := B.tU
    have v1 := VV_t μ F G (k := 12 + t) (by omega)
    have v2 := VV_t μ F G (k := 20 + t) (by omega)
    rw [B.fM] at v1
    rw [B.tM] at v2
    have v3 := VV_a1 μ F G (k := tFr μ t) (by omega)
    rw [hF _ (by omega)] at v3
    have v4 := VV_a2 μ F G (k := tTo μ t) (by omega)
    rw [hG _ (by omega)] at v4
    have hyb := hy (tFr μ t)
    have gg := B.g1
    have gh := B.h2
    have g2 := B.g2
    have e9 := tf_le (D := D) hTT hy t (by omega) (tTo μ t)
    have e10 := tv_le (D := D) (hTT t (by omega)).1 (hTT t (by omega)).2 hyb
    generalize hz : tv D (tGv μ t) (tGt μ t) (y (tFr μ t)) = z at e10
    -- what comes behind the turning is known
    have go : ∀ i', x_E x_P (d + 1) x_c160 121 [.ref 0, .int u, .int (nI D), .int mo, .int r, .int (nI t), .int i', .int (eN z), i] [.ref 1] (MG (VV μ F G)) = x_E x_P (d + 1) x_c160 69 [.ref 0, .int u, .int (nI D), .int mo, .int r, .int (nI (t + 1)), .int i', .int (eN z), .int (nI (tTo μ t))] [] (MG (VV μ F (upd G (tTo μ t) (eN (max (tf μ D y t (tTo μ t)) z))))) := by
      intro i'
      by_cases hl : z ≤ tf μ D y t (tTo μ t)
      · have e1 : eN z ≤ eN (tf μ D y t (tTo μ t)) := (eN_le (by omega) (by omega)).mpr hl
        have p1 := VV_p2 μ F G (eN (tf μ D y t (tTo μ t))) (k := tTo μ t) (by omega)
        rw [Nat.max_eq_left hl]
        simp (decide := true) only [s_160_121, s_160_127, s_160_133, s_160_141, s_160_144, s_160_152, s_160_156, s_160_159, s_160_160, Option.bind_some, x_tlv, x_tln, if_true, if_false, m_wa_1, m_wa_s, m_wb_1, m_wb_2, m_wb_s, m_ws_1, m_ws_b, m_ws_s, m_ws_e, m_we_1, m_we_b, m_we_s, m_we_e, mf_0, mf_1, mf_2, mf_3, mf_4, mf_5, mf_6, mf_7, mf_8, mf_9, mf_10, mf_11, mf_12, mf_13, mf_14, mf_15, mf_16, mf_17, mf_18, mf_19, mf_20, mf_21, mf_22, mf_23, mf_24, mf_25, mf_26, mf_27, mf_28, mf_29, mf_30, mp_4, mp_7, mp_9, mp_10, mp_12, mp_14, mp_15, mp_16, mp_17, mp_18, mp_19, mp_20, mi_0, x_a20, v2, v4, e1, p1, nI_1]
      · have e1 : ¬ eN z ≤ eN (tf μ D y t (tTo μ t)) := fun q => hl ((eN_le (by omega) (by omega)).mp q)
        have p1 := VV_p2 μ F G (eN z) (k := tTo μ t) (by omega)
        rw [Nat.max_eq_right (by omega)]
        simp (decide := true) only [s_160_121, s_160_127, s_160_133, s_160_141, s_160_144, s_160_147, s_160_160, Option.bind_some, x_tlv, x_tln, if_true, if_false, m_wa_1, m_wa_s, m_wb_1, m_wb_2, m_wb_s, m_ws_1, m_ws_b, m_ws_s, m_ws_e, m_we_1, m_we_b, m_we_s, m_we_e, mf_0, mf_1, mf_2, mf_3, mf_4, mf_5, mf_6, mf_7, mf_8, mf_9, mf_10, mf_11, mf_12, mf_13, mf_14, mf_15, mf_16, mf_17, mf_18, mf_19, mf_20, mf_21, mf_22, mf_23, mf_24, mf_25, mf_26, mf_27, mf_28, mf_29, mf_30, mp_4, mp_7, mp_9, mp_10, mp_12, mp_14, mp_15, mp_16, mp_17, mp_18, mp_19, mp_20, mi_0, x_a20, v2, v4, e1, p1, nI_1]
    have hnx : ∀ j, j < 6 → upd G (tTo μ t) (eN (max (tf μ D y t (tTo μ t)) z)) j = eN (tf μ D y (t + 1) j) := fun j hj => by
      show _ = eN (if j = tTo μ t then max (tf μ D y t j) (tv D (tGv μ t) (tGt μ t) (y (tFr μ t))) else tf μ D y t j)
      rw [hz]
      unfold upd
      by_cases hj2 : j = tTo μ t
      · rw [if_pos hj2, if_pos hj2, hj2]
      · rw [if_neg hj2, if_neg hj2]; exact hG j hj
    obtain ⟨G', f', g', i', j1, j2⟩ := ih (t + 1) _ (.int (eN (y (tFr μ t)))) (.int (eN z)) (.int (nI (tTo μ t))) (by omega) hnx
    refine ⟨G', f', g', i', j1, ?_⟩
    refine Eq.trans ?_ ((go (eN (y (tFr μ t)))).trans j2)
    by_cases h0 : y (tFr μ t) = 0
    · have e1 : ¬ (0 : Int32) ≤ eN (y (tFr μ t)) := fun q => absurd ((eN_pos (by omega)).mp q) (by omega)
      have z0 : eN z = -1 := by rw [← hz, h0]; rfl
      rw [z0]
      rw [s_160_69]; simp (decide := true) only [s_160_75, s_160_77, s_160_80, s_160_84, s_160_88, s_160_94, s_160_95, s_160_102, Option.bind_some, x_tlv, x_tln, if_true, if_false, m_wa_1, m_wa_s, m_wb_1, m_wb_2, m_wb_s, m_ws_1, m_ws_b, m_ws_s, m_ws_e, m_we_1, m_we_b, m_we_s, m_we_e, mf_0, mf_1, mf_2, mf_3, mf_4, mf_5, mf_6, mf_7, mf_8, mf_9, mf_10, mf_11, mf_12, mf_13, mf_14, mf_15, mf_16, mf_17, mf_18, mf_19, mf_20, mf_21, mf_22, mf_23, mf_24, mf_25, mf_26, mf_27, mf_28, mf_29, mf_30, mp_4, mp_7, mp_9, mp_10, mp_12, mp_14, mp_15, mp_16, mp_17, mp_18, mp_19, mp_20, mi_0, VV_3, c4, e0, x_a12, v1, v3, e1]
    · have e1 : (0 : Int32) ≤ eN (y (tFr μ t)) := (eN_pos (by omega)).mpr (by omega)
      obtain ⟨k, hk⟩ : ∃ k, y (tFr μ t) = k + 1 := ⟨y (tFr μ t) - 1, by omega⟩
      have e2 : eN (y (tFr μ t)) = nI k := by rw [hk, eN_s]
      have e3 : k * tGt μ t ≤ 160000 * 20 := Nat.mul_le_mul (by omega) B.h2
      have e4 : k * tGt μ t / tGv μ t ≤ 160000 * 20 := Nat.le_trans (Nat.div_le_self _ _) e3
      have e5 : k * tGt μ t / tGv μ t * D ≤ 160000 * 20 * 99 := Nat.mul_le_mul e4 (by omega)
      have hM := M_turned d (VV μ F G) (t := t) (k := k) (g := tGv μ t) (h := tGt μ t) (D := D) (by omega) (by omega) (by omega) (by omega) hD (by omega) B.gM B.hM
      have e7 : eN z = nI (k * tGt μ t / tGv μ t - k * tGt μ t / tGv μ t * D / 100) := by
        rw [← hz]
        unfold tv
        rw [if_neg h0, hk, Nat.add_sub_cancel, eN_s]
      rw [← e7] at hM
      rw [e2] at e1 v3 ⊢
      rw [s_160_69]; simp (decide := true) only [s_160_75, s_160_77, s_160_80, s_160_84, s_160_88, s_160_94, s_160_95, s_160_106, s_160_115, Option.bind_some, x_tlv, x_tln, if_true, if_false, m_wa_1, m_wa_s, m_wb_1, m_wb_2, m_wb_s, m_ws_1, m_ws_b, m_ws_s, m_ws_e, m_we_1, m_we_b, m_we_s, m_we_e, mf_0, mf_1, mf_2, mf_3, mf_4, mf_5, mf_6, mf_7, mf_8, mf_9, mf_10, mf_11, mf_12, mf_13, mf_14, mf_15, mf_16, mf_17, mf_18, mf_19, mf_20, mf_21, mf_22, mf_23, mf_24, mf_25, mf_26, mf_27, mf_28, mf_29, mf_30, mp_4, mp_7, mp_9, mp_10, mp_12, mp_14, mp_15, mp_16, mp_17, mp_18, mp_19, mp_20, mi_0, VV_3, c4, e0, x_a12, v1, v3, e1, hM]
theorem M_cp2 (d : Nat) (μ : x_U) (u D mo r : Int32) (f g i : Value) (G : Nat → Int32) : ∀ m k (F : Nat → Int32), k + m = 6 → (∀ j, j < k → F j = G j) → ∃ F', (∀ j, j < 6 → F' j = G j) ∧ x_E x_P d x_c160 169 [.ref 0, .int u, .int D, .int mo, .int r, .int (nI k), f, g, i] [] (MG (VV μ F G)) = x_E x_P d x_c160 196 [.ref 0, .int u, .int D, .int mo, .int r, .int (nI 6), f, g, i] [] (MG (VV μ F' G)) := by
  intro m
  induction m with
  | zero =>
    intro k F hk hF
    obtain rfl : k = 6 := by omega
    have e : (6 : Int32) ≤ nI 6 := by decide
    exact ⟨F, hF, by rw [s_160_169, if_pos e]⟩
  | succ m ih =>
    intro k F hk hF
    have e : ¬ (6 : Int32) ≤ nI k := nI_ge (b := 6) (by omega) (by omega)
    obtain ⟨F', j1, j2⟩ := ih (k + 1) (upd F k (G k)) (by omega) (fun j hj => by
      unfold upd
      by_cases h : j = k
      · rw [if_pos h, h]
      · rw [if_neg h]; exact hF j (by omega))
    refine ⟨F', j1, ?_⟩
    have a1 := VV_a2 μ F G (k := k) (by omega)
    have p1 := VV_p1 μ F G (G k) (k := k) (by omega)
    rw [s_160_169]; simp (decide := true) only [s_160_176, s_160_180, s_160_186, s_160_189, s_160_190, Option.bind_some, x_tlv, x_tln, if_true, if_false, m_wa_1, m_wa_s, m_wb_1, m_wb_2, m_wb_s, m_ws_1, m_ws_b, m_ws_s, m_ws_e, m_we_1, m_we_b, m_we_s, m_we_e, mf_0, mf_1, mf_2, mf_3, mf_4, mf_5, mf_6, mf_7, mf_8, mf_9, mf_10, mf_11, mf_12, mf_13, mf_14, mf_15, mf_16, mf_17, mf_18, mf_19, mf_20, mf_21, mf_22, mf_23, mf_24, mf_25, mf_26, mf_27, mf_28, mf_29, mf_30, mp_4, mp_7, mp_9, mp_10, mp_12, mp_14, mp_15, mp_16, mp_17, mp_18, mp_19, mp_20, mi_0, e, a1, p1, nI_1]
    exact j2
theorem M_most {σ : x_S} {μ : x_U} {U T D u : Nat} (d : Nat) (hU : U ≤ 6) (hT : T ≤ 8) (c4 : μ.1 1 3 = nI T) (ht : S_tab σ μ U T) (hD : D < 100) (hu : u < 6) : ∀ m k (F G : Nat → Int32) (g i j l : Value), k + m = 4 → (∀ j, j < 6 → F j = eN (yk μ D T u k j)) → ∃ F' G', x_E x_P (d + 1) x_c160 36 [.ref 0, .int (nI u), .int (nI D), .int (eN (mk μ D T u k)), .int (nI k), g, i, j, l] [] (MG (VV μ F G)) = some (some (.int (eN (mk μ D T u 4))), MG (VV μ F' G')) := by
  have hTT : ∀ t, t < T → 1 ≤ tGv μ t ∧ tGt μ t ≤ 20 := fun t h => ⟨(TB.of hU ht h).g1, (TB.of hU ht h).h2⟩
  intro m
  induction m with
  | zero =>
    intro k F G g i j l hk hF
    obtain rfl : k = 4 := by omega
    have e : (4 : Int32) ≤ nI 4 := by decide
    exact ⟨F, G, by rw [s_160_36, if_pos e, s_160_223]⟩
  | succ m ih =>
    intro k F G g i j l hk hF
    have e : ¬ (4 : Int32) ≤ nI k := nI_ge (b := 4) (by omega) (by omega)
    have hb : 20 * 20 ^ k ≤ 160000 := by
      have h2 : 20 ^ k ≤ 20 ^ 3 := Nat.pow_le_pow_right (by omega) (by omega)
      omega
    obtain ⟨G1, g1, g2⟩ := M_fill1 (d + 1) μ (nI u) (nI D) (eN (mk μ D T u k)) (nI k) i j l F 6 0 G (by omega) (fun j hj => by omega)
    obtain ⟨G2, f', g', i', h1, h2⟩ := M_tf (D := D) d (nI u) (eN (mk μ D T u k)) (nI k) hU hT c4 ht hD hb (yk_le hTT k) F hF T 0 G1 i j l (by omega) (fun j hj => g1 j hj)
    obtain ⟨F1, k1, k2⟩ := M_cp2 (d + 1) μ (nI u) (nI D) (eN (mk μ D T u k)) (nI k) f' g' i' G2 6 0 F (by omega) (fun j hj => by omega)
    have hF1 : ∀ j, j < 6 → F1 j = eN (yk μ D T u (k + 1) j) := fun j hj => (k1 j hj).trans (h1 j hj)
    have a1 := VV_a1 μ F1 G2 hu
    rw [hF1 u hu] at a1
    have b1 := mk_le (D := D) (u := u) hTT k (by omega)
    have b2 := yk_le5 (D := D) (u := u) (k := k + 1) hTT (by omega) u
    obtain ⟨F', G', j1⟩ := ih (k + 1) F1 G2 (.int (nI 6)) f' g' i' (by omega) hF1
    refine ⟨F', G', ?_⟩
    rw [s_160_36, if_neg e, s_160_42]
    refine Eq.trans g2 (Eq.trans h2 (Eq.trans k2 ?_))
    refine Eq.trans ?_ j1
    by_cases hl : yk μ D T u (k + 1) u ≤ mk μ D T u k
    · have e1 : eN (yk μ D T u (k + 1) u) ≤ eN (mk μ D T u k) := (eN_le (by omega) (by omega)).mpr hl
      have e2 : mk μ D T u (k + 1) = mk μ D T u k := Nat.max_eq_left hl
      rw [e2]
      simp (decide := true) only [s_160_196, s_160_200, s_160_202, s_160_215, Option.bind_some, x_tlv, x_tln, if_true, if_false, m_wa_1, m_wa_s, m_wb_1, m_wb_2, m_wb_s, m_ws_1, m_ws_b, m_ws_s, m_ws_e, m_we_1, m_we_b, m_we_s, m_we_e, mf_0, mf_1, mf_2, mf_3, mf_4, mf_5, mf_6, mf_7, mf_8, mf_9, mf_10, mf_11, mf_12, mf_13, mf_14, mf_15, mf_16, mf_17, mf_18, mf_19, mf_20, mf_21, mf_22, mf_23, mf_24, mf_25, mf_26, mf_27, mf_28, mf_29, mf_30, mp_4, mp_7, mp_9, mp_10, mp_12, mp_14, mp_15, mp_16, mp_17, mp_18, mp_19, mp_20, mi_0, a1, e1, nI_1]
    · have e1 : ¬ eN (yk μ D T u (k + 1) u) ≤ eN (mk μ D T u k) := fun q => hl ((eN_le (by omega) (by omega)).mp q)
      have e2 : mk μ D T u (k + 1) = yk μ D T u (k + 1) u := Nat.max_eq_right (by omega)
      rw [e2]
      simp (decide := true) only [s_160_196, s_160_200, s_160_202, s_160_206, s_160_210, s_160_212, Option.bind_some, x_tlv, x_tln, if_true, if_false, m_wa_1, m_wa_s, m_wb_1, m_wb_2, m_wb_s, m_ws_1, m_ws_b, m_ws_s, m_ws_e, m_we_1, m_we_b, m_we_s, m_we_e, mf_0, mf_1, mf_2, mf_3, mf_4, mf_5, mf_6, mf_7, mf_8, mf_9, mf_10, mf_11, mf_12, mf_13, mf_14, mf_15, mf_16, mf_17, mf_18, mf_19, mf_20, mf_21, mf_22, mf_23, mf_24, mf_25, mf_26, mf_27, mf_28, mf_29, mf_30, mp_4, mp_7, mp_9, mp_10, mp_12, mp_14, mp_15, mp_16, mp_17, mp_18, mp_19, mp_20, mi_0, a1, e1, nI_1]
theorem M_becomes {σ : x_S} {μ : x_U} {U T D u : Nat} (d : Nat) (hU : U ≤ 6) (hT : T ≤ 8) (c4 : μ.1 1 3 = nI T) (ht : S_tab σ μ U T) (hD : D < 100) (hu : u < 6) (F G : Nat → Int32) : ∃ F' G', x_R x_P (d + 2) 160 [.ref 0, .int (nI u), .int (nI D)] (MG (VV μ F G)) = some (some (.int (eN (mk μ D T u 4))), MG (VV μ F' G')) := by
  obtain ⟨F1, i1, i2⟩ := M_fill0 (d + 1) μ u (nI D) hu G 6 0 F (by omega) (fun j hj => by omega)
  obtain ⟨F', G', j1⟩ := M_most (D := D) d hU hT c4 ht hD hu 4 0 F1 G x_j x_j x_j x_j (by omega) i1
  refine ⟨F', G', ?_⟩
  rw [r_160, s_160_0]
  exact Eq.trans i2 j1
