/-! a shop begins, on both sides -/
theorem E_begin {P U : Nat} {x y w : Nat → Nat} (d : Nat) (hP : P ≤ 6) (hU : U ≤ 6) : ∀ (m k : Nat) (σ : x_S) (e : Value), k + m = P → σ.2 34 1 = nI P → (∀ p, p < P → σ.1 35 p = nI (x p) ∧ x p < U ∧ σ.1 37 p = nI (y p)) → (∀ u, u < U → σ.1 25 u = nI (w u)) → σ.2 43 1 = nI k → σ.2 45 1 = nI k → (∀ p, p < k → σ.1 44 p = nI (y p * w (x p)) ∧ σ.1 46 p = nI (x p)) → ∃ σ' e', x_E x_P (d + 2) x_c7 16 [.ref 42, .ref 23, .int (nI k), e] [] (CS σ) = x_E x_P (d + 2) x_c7 74 [.ref 42, .ref 23, .int (nI P), e'] [] (CS σ') ∧ (∀ q, q ≠ 44 → q ≠ 46 → σ'.1 q = σ.1 q) ∧ (∀ q, q ≠ 43 → q ≠ 45 → σ'.2 q = σ.2 q) ∧ σ'.2 43 1 = nI P ∧ σ'.2 45 1 = nI P ∧ ∀ p, p < P → σ'.1 44 p = nI (y p * w (x p)) ∧ σ'.1 46 p = nI (x p) := by
  intro m
  induction m with
  | zero =>
    intro k σ e hk h34 h35 h25 h43 h45 hb
    obtain rfl : k = P := by omega
    refine ⟨σ, e, ?_, fun _ _ _ => rfl, fun _ _ _ => rfl, h43, h45, hb⟩
    rw [s_7_16]
    simp (decide := true) only [s_7_21, s_7_24, Option.bind_some, x_tlv, x_tln, if_true, if_false, er_isa, V_at, V_has, V_size, V_put, V_isFull, V_add, V_clear, c_has_eq, c_wa_1, c_wa_2, c_ws_1, c_ws_2, ef_0_0, ef_0_1, ef_0_2, ef_0_3, ef_0_4, ef_0_5, ef_0_6, ef_0_7, ef_0_8, ef_0_9, ef_0_10, ef_0_11, ef_0_12, ef_0_13, ep_0_12, ep_0_13, ei_0, ef_1_0, ef_1_1, ef_1_2, ef_1_3, ef_1_4, ep_1_1, ep_1_2, ep_1_3, ep_1_4, ei_1, ef_4_0, ef_4_1, ef_4_2, ef_4_3, ef_4_4, ef_4_5, ef_4_6, ef_4_7, ef_4_8, ef_4_9, ef_4_10, ep_4_0, ep_4_1, ei_4, ef_23_0, ef_23_1, ef_23_2, ef_23_3, ef_23_4, ef_23_5, ef_23_6, ef_23_7, ef_23_8, ef_23_9, ef_23_10, ep_23_0, ep_23_1, ei_23, ef_42_0, ef_42_1, ef_42_2, ef_42_3, ep_42_2, ep_42_3, ei_42, ef_47_0, ef_47_1, ef_47_2, ep_47_1, ep_47_2, ei_47, ef_50_0, ef_50_1, ef_50_2, ei_50, ef_57_0, ef_57_1, ei_57, ef_62_0, ef_62_1, ei_62, ef_67_0, ef_67_1, ef_67_2, ef_67_3, ef_67_4, ef_67_5, ep_67_1, ep_67_2, ei_67, ef_76_0, ef_76_1, ef_76_2, ef_76_3, ef_76_4, ef_76_5, ep_76_1, ep_76_2, ep_76_3, ei_76, h34, Int32.le_refl]
  | succ m ih =>
    intro k σ e hk h34 h35 h25 h43 h45 hb
    obtain ⟨g1, g2, g3⟩ := h35 k (by omega)
    have g4 := h25 _ g2
    have e0 : ¬ nI P ≤ nI k := nI_ge (by omega) (by omega)
    have a1 : c_at σ 34 (nI k) = nI (x k) := (c_at_n (q := 34) (by show k < 6; omega)).trans g1
    have a2 : c_at σ 36 (nI k) = nI (y k) := (c_at_n (q := 36) (by show k < 6; omega)).trans g3
    have a3 : c_at σ 24 (nI (x k)) = nI (w (x k)) := (c_at_n (q := 24) (by show x k < 6; omega)).trans g4
    have j43 : (c_add σ 43 (nI (y k * w (x k)))).2 45 1 = nI k := by rw [c_add_2 _ _ _ _ (by decide)]; exact h45
    obtain ⟨x1, y1⟩ := c_add_a (q := 43) (nI (y k * w (x k))) h43 (by show k < 6; omega)
    obtain ⟨x2, y2⟩ := c_add_a (q := 45) (nI (x k)) j43 (by show k < 6; omega)
    obtain ⟨σ1, hσ⟩ : ∃ σ1, σ1 = c_add (c_add σ 43 (nI (y k * w (x k)))) 45 (nI (x k)) := ⟨_, rfl⟩
    have o1 : ∀ q, q ≠ 44 → q ≠ 46 → σ1.1 q = σ.1 q := fun q z1 z2 => by rw [hσ, c_add_1 _ _ _ _ z2, c_add_1 _ _ _ _ z1]
    have o2 : ∀ q, q ≠ 43 → q ≠ 45 → σ1.2 q = σ.2 q := fun q z1 z2 => by rw [hσ, c_add_2 _ _ _ _ z2, c_add_2 _ _ _ _ z1]
    have x1 : σ1.1 44 = upd (σ.1 44) k (nI (y k * w (x k))) := by rw [hσ, c_add_1 _ _ _ _ (by decide)]; exact x1
    have y1 : σ1.2 43 1 = nI (k + 1) := by rw [hσ, c_add_2 _ _ _ _ (by decide)]; exact y1
    have x2 : σ1.1 46 = upd (σ.1 46) k (nI (x k)) := by rw [hσ]; exact x2.trans (by rw [c_add_1 _ _ _ _ (by decide)])
    have y2 : σ1.2 45 1 = nI (k + 1) := by rw [hσ]; exact y2
    obtain ⟨σ', e', r1, r2, r3, r4, r5, r6⟩ := ih (k + 1) σ1 (.int (nI (x k))) (by omega) (by rw [o2 34 (by decide) (by decide)]; exact h34) (by rw [o1 35 (by decide) (by decide), o1 37 (by decide) (by decide)]; exact h35) (by rw [o1 25 (by decide) (by decide)]; exact h25) y1 y2 (fun p hp => by
      rw [x1, x2]
      by_cases hv : p = k
      · rw [hv, upd_s, upd_s]; exact ⟨rfl, rfl⟩
      · rw [upd_n _ _ _ _ hv, upd_n _ _ _ _ hv]; exact hb p (by omega))
    refine ⟨σ', e', ?_, fun q z1 z2 => (r2 q z1 z2).trans (o1 q z1 z2), fun q z1 z2 => (r3 q z1 z2).trans (o2 q z1 z2), r4, r5, r6⟩
    refine Eq.trans ?_ r1
    rw [s_7_16, hσ]
    simp (decide := true) only [s_7_21, s_7_24, s_7_27, s_7_31, s_7_35, s_7_40, s_7_44, s_7_48, s_7_52, s_7_56, s_7_60, s_7_64, s_7_68, Option.bind_some, x_tlv, x_tln, if_true, if_false, er_isa, V_at, V_has, V_size, V_put, V_isFull, V_add, V_clear, c_has_eq, c_wa_1, c_wa_2, c_ws_1, c_ws_2, ef_0_0, ef_0_1, ef_0_2, ef_0_3, ef_0_4, ef_0_5, ef_0_6, ef_0_7, ef_0_8, ef_0_9, ef_0_10, ef_0_11, ef_0_12, ef_0_13, ep_0_12, ep_0_13, ei_0, ef_1_0, ef_1_1, ef_1_2, ef_1_3, ef_1_4, ep_1_1, ep_1_2, ep_1_3, ep_1_4, ei_1, ef_4_0, ef_4_1, ef_4_2, ef_4_3, ef_4_4, ef_4_5, ef_4_6, ef_4_7, ef_4_8, ef_4_9, ef_4_10, ep_4_0, ep_4_1, ei_4, ef_23_0, ef_23_1, ef_23_2, ef_23_3, ef_23_4, ef_23_5, ef_23_6, ef_23_7, ef_23_8, ef_23_9, ef_23_10, ep_23_0, ep_23_1, ei_23, ef_42_0, ef_42_1, ef_42_2, ef_42_3, ep_42_2, ep_42_3, ei_42, ef_47_0, ef_47_1, ef_47_2, ep_47_1, ep_47_2, ei_47, ef_50_0, ef_50_1, ef_50_2, ei_50, ef_57_0, ef_57_1, ei_57, ef_62_0, ef_62_1, ei_62, ef_67_0, ef_67_1, ef_67_2, ef_67_3, ef_67_4, ef_67_5, ep_67_1, ep_67_2, ei_67, ef_76_0, ef_76_1, ef_76_2, ef_76_3, ef_76_4, ef_76_5, ep_76_1, ep_76_2, ep_76_3, ei_76, h34, e0, a1, a2, a3, pk_mul, nI_1]
theorem M_bz (μ : x_U) (d : Nat) (A : Nat → Int32) : ∀ m k, k + m = 14 → x_E x_P d x_c114 2 [.ref 0, .int (nI k)] [] (MG (m_wa μ 3 (x_fl A 0 k))) = x_E x_P d x_c114 21 [.ref 0, .int (nI 14)] [] (MG (m_wa μ 3 (x_fl A 0 14))) := by
  intro m
  induction m with
  | zero =>
    intro k hk
    obtain rfl : k = 14 := by omega
    rw [s_114_2, if_pos (show (14 : Int32) ≤ nI 14 by decide)]
  | succ m ih =>
    intro k hk
    have e0 : ¬ (14 : Int32) ≤ nI k := nI_ge (b := 14) (by omega) (by omega)
    have e1 : x_ist (MG (m_wa μ 3 (x_fl A 0 k))) 3 0 (nI k) 0 = some (MG (m_wa μ 3 (x_fl A 0 (k + 1)))) := by
      rw [mt3n _ _ (by omega), m_wa_wa, m_wa_1, if_pos rfl, x_fl_s]
    rw [s_114_2, if_neg e0]
    simp (decide := true) only [s_114_8, s_114_12, s_114_15, Option.bind_some, x_tlv, x_tln, if_true, if_false, m_wa_1, m_wa_s, m_wb_1, m_wb_2, m_wb_s, m_ws_1, m_ws_b, m_ws_s, m_ws_e, m_we_1, m_we_b, m_we_s, m_we_e, mf_0, mf_1, mf_2, mf_3, mf_4, mf_5, mf_6, mf_7, mf_8, mf_9, mf_10, mf_11, mf_12, mf_13, mf_14, mf_15, mf_16, mf_17, mf_18, mf_19, mf_20, mf_21, mf_22, mf_23, mf_24, mf_25, mf_26, mf_27, mf_28, mf_29, mf_30, mp_4, mp_7, mp_9, mp_10, mp_12, mp_14, mp_15, mp_16, mp_17, mp_18, mp_19, mp_20, mi_0, e1, nI_1]
    exact ih (k + 1) (by omega)
theorem M_bp {μ : x_U} {P U : Nat} {x y w : Nat → Nat} (d : Nat) (hP : P ≤ 6) (hU : U ≤ 6) (h4 : μ.1 1 4 = nI P) (hp : ∀ p, p < P → μ.1 1 (44 + p) = nI (x p) ∧ x p < U ∧ μ.1 1 (50 + p) = nI (y p)) (hu : ∀ u, u < U → μ.1 1 (6 + u) = nI (w u)) : ∀ (m k : Nat) (F : Nat → Int32), k + m = P → (∀ p, p < k → F p = nI (y p * w (x p)) ∧ F (6 + p) = nI (x p)) → ∃ F', x_E x_P d x_c114 23 [.ref 0, .int (nI k)] [] (MG (m_wa μ 3 F)) = x_E x_P d x_c114 92 [.ref 0, .int (nI P)] [] (MG (m_wa μ 3 F')) ∧ (∀ p, p < P → F' p = nI (y p * w (x p)) ∧ F' (6 + p) = nI (x p)) ∧ ∀ j, P ≤ j → j < 6 ∨ 12 ≤ j → F' j = F j := by
  intro m
  induction m with
  | zero =>
    intro k F hk hF
    obtain rfl : k = P := by omega
    refine ⟨F, ?_, hF, fun _ _ _ => rfl⟩
    rw [s_114_23]
    simp (decide := true) only [s_114_28, s_114_30, Option.bind_some, x_tlv, x_tln, if_true, if_false, m_wa_1, m_wa_s, m_wb_1, m_wb_2, m_wb_s, m_ws_1, m_ws_b, m_ws_s, m_ws_e, m_we_1, m_we_b, m_we_s, m_we_e, mf_0, mf_1, mf_2, mf_3, mf_4, mf_5, mf_6, mf_7, mf_8, mf_9, mf_10, mf_11, mf_12, mf_13, mf_14, mf_15, mf_16, mf_17, mf_18, mf_19, mf_20, mf_21, mf_22, mf_23, mf_24, mf_25, mf_26, mf_27, mf_28, mf_29, mf_30, mp_4, mp_7, mp_9, mp_10, mp_12, mp_14, mp_15, mp_16, mp_17, mp_18, mp_19, mp_20, mi_0, md1_4, h4, Int32.le_refl]
  | succ m ih =>
    intro k F hk hF
    obtain ⟨g1, g2, g3⟩ := hp k (by omega)
    have g4 := hu _ g2
    have e0 : ¬ nI P ≤ nI k := nI_ge (by omega) (by omega)
    have b1 : ∀ ν : x_U, ν.1 1 = μ.1 1 → x_ild (MG ν) 1 0 (nI (44 + k)) = some (nI (x k)) := fun ν h => by rw [md1n _ (by omega), h, g1]
    have b2 : ∀ ν : x_U, ν.1 1 = μ.1 1 → x_ild (MG ν) 1 0 (nI (50 + k)) = some (nI (y k)) := fun ν h => by rw [md1n _ (by omega), h, g3]
    have b3 : ∀ ν : x_U, ν.1 1 = μ.1 1 → x_ild (MG ν) 1 0 (nI (6 + x k)) = some (nI (w (x k))) := fun ν h => by rw [md1n _ (by omega), h, g4]
    obtain ⟨F1, hF1⟩ : ∃ F1, F1 = upd F (6 + k) (nI (x k)) := ⟨_, rfl⟩
    obtain ⟨F2, hF2⟩ : ∃ F2, F2 = upd F1 k (nI (y k * w (x k))) := ⟨_, rfl⟩
    have c1 : x_ist (MG (m_wa μ 3 F)) 3 0 (nI (6 + k)) (nI (x k)) = some (MG (m_wa μ 3 F1)) := by
      rw [mt3n _ _ (by omega), m_wa_wa, m_wa_1, if_pos rfl, hF1]
    have c2 : x_ist (MG (m_wa μ 3 F1)) 3 0 (nI k) (nI (y k * w (x k))) = some (MG (m_wa μ 3 F2)) := by
      rw [mt3n _ _ (by omega), m_wa_wa, m_wa_1, if_pos rfl, hF2]
    obtain ⟨F', r1, r2, r3⟩ := ih (k + 1) F2 (by omega) (fun p hp => by
      rw [hF2, hF1]
      by_cases hv : p = k
      · rw [hv, upd_s, upd_n _ _ _ _ (by omega), upd_s]; exact ⟨rfl, rfl⟩
      · rw [upd_n _ _ _ _ hv, upd_n _ _ _ _ (by omega), upd_n _ _ _ _ (by omega), upd_n _ _ _ _ (by omega)]; exact hF p (by omega))
    refine ⟨F', ?_, r2, fun j z1 z2 => (r3 j z1 z2).trans (by rw [hF2, hF1, upd_n _ _ _ _ (by omega), upd_n _ _ _ _ (by omega)])⟩
    refine Eq.trans ?_ r1
    have v1 := b1 (m_wa μ 3 F) rfl
    have v2 := b1 (m_wa μ 3 F1) rfl
    have v3 := b2 (m_wa μ 3 F1) rfl
    have v4 := b3 (m_wa μ 3 F1) rfl
    have v0 : x_ild (MG (m_wa μ 3 F)) 1 0 4 = some (nI P) := by rw [md1_4]; exact congrArg some h4
    rw [s_114_23]
    simp (decide := true) only [s_114_28, s_114_30, s_114_33, s_114_37, s_114_45, s_114_50, s_114_51, s_114_55, s_114_62, s_114_67, s_114_71, s_114_77, s_114_82, s_114_84, s_114_86, Option.bind_some, x_tlv, x_tln, if_true, if_false, m_wa_1, m_wa_s, m_wb_1, m_wb_2, m_wb_s, m_ws_1, m_ws_b, m_ws_s, m_ws_e, m_we_1, m_we_b, m_we_s, m_we_e, mf_0, mf_1, mf_2, mf_3, mf_4, mf_5, mf_6, mf_7, mf_8, mf_9, mf_10, mf_11, mf_12, mf_13, mf_14, mf_15, mf_16, mf_17, mf_18, mf_19, mf_20, mf_21, mf_22, mf_23, mf_24, mf_25, mf_26, mf_27, mf_28, mf_29, mf_30, mp_4, mp_7, mp_9, mp_10, mp_12, mp_14, mp_15, mp_16, mp_17, mp_18, mp_19, mp_20, mi_0, x_a0, x_a6, x_a44, x_a50, v0, e0, v1, v2, v3, v4, c1, c2, pk_mul, nI_1]
