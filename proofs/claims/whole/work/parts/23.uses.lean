/-! bought for, ask -/
theorem M_has (d : Nat) (h : x_H) (a b : Int32) : x_R x_P (d + 1) 113 [.int a, .int b] h = some (some (.int (x_b (((a >>> (b &&& 31)) &&& 1) = 1))), h) := by
  rw [r_113, s_113_0]
  by_cases hc : ((a >>> (b &&& 31)) &&& 1) = 1
  · rw [if_pos hc, s_113_9, x_b_t hc]
  · rw [if_neg hc, s_113_13, x_b_f hc]
/-- all that is told left is so by a yard of y inches -/
def u_ok (σ : x_S) (n : Nat) (y : Int32) : Prop := ∀ k, k < n → σ.1 52 k * y - σ.1 54 k = σ.1 56 k
theorem E_fits {σ : x_S} {n : Nat} (d : Nat) (y : Int32) (hn : n ≤ 6) (h1 : σ.2 51 1 = nI n) : ∀ m k, k + m = n → (∀ j, j < k → σ.1 52 j * y - σ.1 54 j = σ.1 56 j) → ∃ v, (v = 0 ∨ v = 1) ∧ (v = 1 ↔ u_ok σ n y) ∧ x_E x_P (d + 1) x_c31 2 [.ref 50, .int y, .int (nI k)] [] (CG σ) = some (some (.int v), CG σ) := by
  intro m
  induction m with
  | zero =>
    intro k hk hj
    obtain rfl : k = n := by omega
    refine ⟨1, Or.inr rfl, ⟨fun _ => hj, fun _ => rfl⟩, ?_⟩
    rw [s_31_2]; simp (decide := true) only [s_31_0, s_31_7, s_31_10, s_31_13, s_31_17, s_31_21, s_31_27, s_31_31, s_31_36, s_31_40, s_31_43, s_31_45, s_31_51, Option.bind_some, x_tlv, x_tln, if_true, if_false, cr_isa, R_at, R_has, R_size, R_put, R_isFull, R_add, R_clear, c_has_eq, c_wa_1, c_wa_2, c_ws_1, c_ws_2, cf_0_0, cf_0_1, cf_0_2, cf_0_3, cf_0_4, cf_0_5, cf_0_6, cf_0_7, cf_0_8, cf_0_9, cf_0_10, cf_0_11, cf_0_12, cf_0_13, cp_0_12, cp_0_13, ci_0, cf_1_0, cf_1_1, cf_1_2, cf_1_3, cf_1_4, cp_1_1, cp_1_2, cp_1_3, cp_1_4, ci_1, cf_4_0, cf_4_1, cf_4_2, cf_4_3, cf_4_4, cf_4_5, cf_4_6, cf_4_7, cf_4_8, cf_4_9, cf_4_10, cp_4_0, cp_4_1, ci_4, cf_23_0, cf_23_1, cf_23_2, cf_23_3, cf_23_4, cf_23_5, cf_23_6, cf_23_7, cf_23_8, cf_23_9, cf_23_10, cp_23_0, cp_23_1, ci_23, cf_42_0, cf_42_1, cf_42_2, cf_42_3, cp_42_2, cp_42_3, ci_42, cf_47_0, cf_47_1, cf_47_2, cp_47_1, cp_47_2, ci_47, cf_50_0, cf_50_1, cf_50_2, ci_50, cf_57_0, cf_57_1, ci_57, cf_62_0, cf_62_1, ci_62, cf_67_0, cf_67_1, cf_67_2, cf_67_3, cf_67_4, cf_67_5, cp_67_1, cp_67_2, ci_67, cf_76_0, cf_76_1, cf_76_2, cf_76_3, cf_76_4, cf_76_5, cp_76_1, cp_76_2, cp_76_3, ci_76, h1, Int32.le_refl]
  | succ m ih =>
    intro k hk hj
    have e : ¬ nI n ≤ nI k := nI_ge (by omega) (by omega)
    have a1 : c_at σ 51 (nI k) = σ.1 52 k := c_at_n (by show k < 6; omega)
    have a2 : c_at σ 53 (nI k) = σ.1 54 k := c_at_n (by show k < 6; omega)
    have a3 : c_at σ 55 (nI k) = σ.1 56 k := c_at_n (by show k < 6; omega)
    by_cases hc : σ.1 52 k * y - σ.1 54 k = σ.1 56 k
    · obtain ⟨v, v1, v2, v3⟩ := ih (k + 1) (by omega) (fun j hj2 => by
        rcases Nat.lt_or_ge j k with q | q
        · exact hj j q
        · obtain rfl : j = k := by omega
          exact hc)
      refine ⟨v, v1, v2, ?_⟩
      rw [s_31_2]; simp (decide := true) only [s_31_0, s_31_7, s_31_10, s_31_13, s_31_17, s_31_21, s_31_27, s_31_31, s_31_36, s_31_40, s_31_43, s_31_45, s_31_51, Option.bind_some, x_tlv, x_tln, if_true, if_false, cr_isa, R_at, R_has, R_size, R_put, R_isFull, R_add, R_clear, c_has_eq, c_wa_1, c_wa_2, c_ws_1, c_ws_2, cf_0_0, cf_0_1, cf_0_2, cf_0_3, cf_0_4, cf_0_5, cf_0_6, cf_0_7, cf_0_8, cf_0_9, cf_0_10, cf_0_11, cf_0_12, cf_0_13, cp_0_12, cp_0_13, ci_0, cf_1_0, cf_1_1, cf_1_2, cf_1_3, cf_1_4, cp_1_1, cp_1_2, cp_1_3, cp_1_4, ci_1, cf_4_0, cf_4_1, cf_4_2, cf_4_3, cf_4_4, cf_4_5, cf_4_6, cf_4_7, cf_4_8, cf_4_9, cf_4_10, cp_4_0, cp_4_1, ci_4, cf_23_0, cf_23_1, cf_23_2, cf_23_3, cf_23_4, cf_23_5, cf_23_6, cf_23_7, cf_23_8, cf_23_9, cf_23_10, cp_23_0, cp_23_1, ci_23, cf_42_0, cf_42_1, cf_42_2, cf_42_3, cp_42_2, cp_42_3, ci_42, cf_47_0, cf_47_1, cf_47_2, cp_47_1, cp_47_2, ci_47, cf_50_0, cf_50_1, cf_50_2, ci_50, cf_57_0, cf_57_1, ci_57, cf_62_0, cf_62_1, ci_62, cf_67_0, cf_67_1, cf_67_2, cf_67_3, cf_67_4, cf_67_5, cp_67_1, cp_67_2, ci_67, cf_76_0, cf_76_1, cf_76_2, cf_76_3, cf_76_4, cf_76_5, cp_76_1, cp_76_2, cp_76_3, ci_76, h1, e, a1, a2, a3, hc, nI_1, v3]
    · refine ⟨0, Or.inl rfl, ⟨fun z => absurd z (by decide), fun z => absurd (z k (by omega)) hc⟩, ?_⟩
      rw [s_31_2]; simp (decide := true) only [s_31_0, s_31_7, s_31_10, s_31_13, s_31_17, s_31_21, s_31_27, s_31_31, s_31_36, s_31_40, s_31_43, s_31_45, s_31_51, Option.bind_some, x_tlv, x_tln, if_true, if_false, cr_isa, R_at, R_has, R_size, R_put, R_isFull, R_add, R_clear, c_has_eq, c_wa_1, c_wa_2, c_ws_1, c_ws_2, cf_0_0, cf_0_1, cf_0_2, cf_0_3, cf_0_4, cf_0_5, cf_0_6, cf_0_7, cf_0_8, cf_0_9, cf_0_10, cf_0_11, cf_0_12, cf_0_13, cp_0_12, cp_0_13, ci_0, cf_1_0, cf_1_1, cf_1_2, cf_1_3, cf_1_4, cp_1_1, cp_1_2, cp_1_3, cp_1_4, ci_1, cf_4_0, cf_4_1, cf_4_2, cf_4_3, cf_4_4, cf_4_5, cf_4_6, cf_4_7, cf_4_8, cf_4_9, cf_4_10, cp_4_0, cp_4_1, ci_4, cf_23_0, cf_23_1, cf_23_2, cf_23_3, cf_23_4, cf_23_5, cf_23_6, cf_23_7, cf_23_8, cf_23_9, cf_23_10, cp_23_0, cp_23_1, ci_23, cf_42_0, cf_42_1, cf_42_2, cf_42_3, cp_42_2, cp_42_3, ci_42, cf_47_0, cf_47_1, cf_47_2, cp_47_1, cp_47_2, ci_47, cf_50_0, cf_50_1, cf_50_2, ci_50, cf_57_0, cf_57_1, ci_57, cf_62_0, cf_62_1, ci_62, cf_67_0, cf_67_1, cf_67_2, cf_67_3, cf_67_4, cf_67_5, cp_67_1, cp_67_2, ci_67, cf_76_0, cf_76_1, cf_76_2, cf_76_3, cf_76_4, cf_76_5, cp_76_1, cp_76_2, cp_76_3, ci_76, h1, e, a1, a2, a3, hc]
theorem E_so {σ : x_S} {μ : x_U} {n u : Nat} (d : Nat) (b : Int32) (hu6 : u < 6) (hn : n ≤ 6) (h1 : μ.2.2.1 12 = nI n) (hl : ∀ k, k < n → σ.1 52 k = μ.1 8 (3 * k) ∧ σ.1 54 k = μ.1 8 (3 * k + 1) ∧ σ.1 56 k = μ.1 8 (3 * k + 2)) : ∀ m k (v : Int32), k + m = n → (v = 0 ∨ v = 1) → (v = 1 ↔ ∀ j, j < k → σ.1 52 j * μ.1 1 (6 + u) - σ.1 54 j = σ.1 56 j) → ∃ w : Int32, (w = 0 ∨ w = 1) ∧ (w = 1 ↔ u_ok σ n (μ.1 1 (6 + u))) ∧ x_E x_P d x_c170 19 [.ref 0, .int b, .int (nI u), .int v, .int (nI k)] [] (MG μ) = x_E x_P d x_c170 89 [.ref 0, .int b, .int (nI u), .int w, .int (nI n)] [] (MG μ) := by
  intro m
  induction m with
  | zero =>
    intro k v hk hv hj
    obtain rfl : k = n := by omega
    refine ⟨v, hv, hj, ?_⟩
    rw [s_170_19]; simp (decide := true) only [s_170_25, Option.bind_some, x_tlv, x_tln, if_true, if_false, m_wa_1, m_wa_s, m_wb_1, m_wb_2, m_wb_s, m_ws_1, m_ws_b, m_ws_s, m_ws_e, m_we_1, m_we_b, m_we_s, m_we_e, mf_0, mf_1, mf_2, mf_3, mf_4, mf_5, mf_6, mf_7, mf_8, mf_9, mf_10, mf_11, mf_12, mf_13, mf_14, mf_15, mf_16, mf_17, mf_18, mf_19, mf_20, mf_21, mf_22, mf_23, mf_24, mf_25, mf_26, mf_27, mf_28, mf_29, mf_30, mp_4, mp_7, mp_9, mp_10, mp_12, mp_14, mp_15, mp_16, mp_17, mp_18, mp_19, mp_20, mi_0, h1, Int32.le_refl]
  | succ m ih =>
    intro k v hk hv hj
    have e : ¬ nI n ≤ nI k := nI_ge (by omega) (by omega)
    obtain ⟨l1, l2, l3⟩ := hl k (by omega)
    have step : ∀ v' : Int32, (v' = 0 ∨ v' = 1) → (v' = 1 ↔ v = 1 ∧ σ.1 52 k * μ.1 1 (6 + u) - σ.1 54 k = σ.1 56 k) → x_E x_P d x_c170 19 [.ref 0, .int b, .int (nI u), .int v, .int (nI k)] [] (MG μ) = x_E x_P d x_c170 19 [.ref 0, .int b, .int (nI u), .int v', .int (nI (k + 1))] [] (MG μ) → ∃ w : Int32, (w = 0 ∨ w = 1) ∧ (w = 1 ↔ u_ok σ n (μ.1 1 (6 + u))) ∧ x_E x_P d x_c170 19 [.ref 0, .int b, .int (nI u), .int v, .int (nI k)] [] (MG μ) = x_E x_P d x_c170 89 [.ref 0, .int b, .int (nI u), .int w, .int (nI n)] [] (MG μ) := by
      intro v' hv' hi he
      obtain ⟨w, w1, w2, w3⟩ := ih (k + 1) v' (by omega) hv' (hi.trans ⟨fun ⟨z1, z2⟩ j hj2 => by
        rcases Nat.lt_or_ge j k with q | q
        · exact hj.mp z1 j q
        · obtain rfl : j = k := by omega
          exact z2, fun z => ⟨hj.mpr fun j hj2 => z j (by omega), z k (by omega)⟩⟩)
      exact ⟨w, w1, w2, he.trans w3⟩
    rcases hv with rfl | rfl
    · refine step 0 (Or.inl rfl) ⟨fun z => absurd z (by decide), fun z => absurd z.1 (by decide)⟩ ?_
      rw [s_170_19]; simp (decide := true) only [s_170_25, s_170_28, s_170_81, Option.bind_some, x_tlv, x_tln, if_true, if_false, m_wa_1, m_wa_s, m_wb_1, m_wb_2, m_wb_s, m_ws_1, m_ws_b, m_ws_s, m_ws_e, m_we_1, m_we_b, m_we_s, m_we_e, mf_0, mf_1, mf_2, mf_3, mf_4, mf_5, mf_6, mf_7, mf_8, mf_9, mf_10, mf_11, mf_12, mf_13, mf_14, mf_15, mf_16, mf_17, mf_18, mf_19, mf_20, mf_21, mf_22, mf_23, mf_24, mf_25, mf_26, mf_27, mf_28, mf_29, mf_30, mp_4, mp_7, mp_9, mp_10, mp_12, mp_14, mp_15, mp_16, mp_17, mp_18, mp_19, mp_20, mi_0, h1, e, nI_1]
    · by_cases hc : σ.1 52 k * μ.1 1 (6 + u) - σ.1 54 k = σ.1 56 k
      · refine step 1 (Or.inr rfl) ⟨fun _ => ⟨rfl, hc⟩, fun _ => rfl⟩ ?_
        rw [l1, l2, l3] at hc
        rw [s_170_19]; simp (disch := first | decide | omega) only [s_170_0, s_170_9, s_170_11, s_170_14, s_170_25, s_170_28, s_170_32, s_170_36, s_170_41, s_170_45, s_170_50, s_170_55, s_170_62, s_170_67, s_170_74, s_170_77, s_170_81, s_170_89, s_170_94, s_170_100, s_170_109, Option.bind_some, x_tlv, x_tln, if_true, if_false, m_wa_1, m_wa_s, m_wb_1, m_wb_2, m_wb_s, m_ws_1, m_ws_b, m_ws_s, m_ws_e, m_we_1, m_we_b, m_we_s, m_we_e, mf_0, mf_1, mf_2, mf_3, mf_4, mf_5, mf_6, mf_7, mf_8, mf_9, mf_10, mf_11, mf_12, mf_13, mf_14, mf_15, mf_16, mf_17, mf_18, mf_19, mf_20, mf_21, mf_22, mf_23, mf_24, mf_25, mf_26, mf_27, mf_28, mf_29, mf_30, mp_4, mp_7, mp_9, mp_10, mp_12, mp_14, mp_15, mp_16, mp_17, mp_18, mp_19, mp_20, mi_0, h1, e, nI_1, x_m3, x_p2, x_a6, md8n, md1n, hc]
        rw [if_neg (by decide)]
      · refine step 0 (Or.inl rfl) ⟨fun z => absurd z (by decide), fun z => absurd z.2 hc⟩ ?_
        rw [l1, l2, l3] at hc
        rw [s_170_19]; simp (disch := first | decide | omega) only [s_170_0, s_170_9, s_170_11, s_170_14, s_170_25, s_170_28, s_170_32, s_170_36, s_170_41, s_170_45, s_170_50, s_170_55, s_170_62, s_170_67, s_170_74, s_170_77, s_170_81, s_170_89, s_170_94, s_170_100, s_170_109, Option.bind_some, x_tlv, x_tln, if_true, if_false, m_wa_1, m_wa_s, m_wb_1, m_wb_2, m_wb_s, m_ws_1, m_ws_b, m_ws_s, m_ws_e, m_we_1, m_we_b, m_we_s, m_we_e, mf_0, mf_1, mf_2, mf_3, mf_4, mf_5, mf_6, mf_7, mf_8, mf_9, mf_10, mf_11, mf_12, mf_13, mf_14, mf_15, mf_16, mf_17, mf_18, mf_19, mf_20, mf_21, mf_22, mf_23, mf_24, mf_25, mf_26, mf_27, mf_28, mf_29, mf_30, mp_4, mp_7, mp_9, mp_10, mp_12, mp_14, mp_15, mp_16, mp_17, mp_18, mp_19, mp_20, mi_0, h1, e, nI_1, x_m3, x_p2, x_a6, md8n, md1n, hc]
        rw [if_neg (by decide)]
theorem x_or1 : ∀ k, k < 8 → ∀ m, m < 256 → m < 2 ^ k → nI m ||| ((1 : Int32) <<< (nI k &&& 31)) = nI (m + 2 ^ k) := by decide +kernel
theorem x_or0 (b : Int32) : b ||| 0 = b := by
  rw [← Int32.toBitVec_inj]
  simp
theorem E_uses {σ : x_S} {μ : x_U} {U n : Nat} (dC dM : Nat) (hU : U ≤ 6) (hn : n ≤ 6) (c3 : μ.1 1 2 = nI U ∧ σ.2 5 1 = nI U) (hu : S_use σ μ U) (l2 : μ.2.2.1 12 = nI n) (l3 : σ.2 51 1 = nI n) (hl : ∀ k, k < n → σ.1 52 k = μ.1 8 (3 * k) ∧ σ.1 54 k = μ.1 8 (3 * k + 1) ∧ σ.1 56 k = μ.1 8 (3 * k + 2)) :
    ∀ m u M, u + m = U → M < 2 ^ u → ∃ V : Nat, V < 64 ∧ x_E x_P (dC + 3) x_c96 4 [.ref 0, .int (nI M), .int (nI u)] [] (CG σ) = some (some (.int (nI V)), CG σ) ∧ ∀ e f, x_E x_P dM x_c170 4 [.ref 0, .int (nI M), .int (nI u), e, f] [] (MG μ) = some (some (.int (nI V)), MG μ) := by
  intro m
  induction m with
  | zero =>
    intro u M hk hM
    obtain rfl : u = U := by omega
    have : 2 ^ u ≤ 2 ^ 6 := Nat.pow_le_pow_right (by omega) hU
    refine ⟨M, by omega, ?_, fun e f => ?_⟩
    · rw [s_96_4]; simp (decide := true) only [s_96_0, s_96_9, s_96_12, s_96_15, s_96_18, s_96_22, s_96_26, s_96_29, s_96_33, s_96_36, s_96_39, s_96_45, s_96_51, Option.bind_some, x_tlv, x_tln, if_true, if_false, cr_isa, R_at, R_has, R_size, R_put, R_isFull, R_add, R_clear, c_has_eq, c_wa_1, c_wa_2, c_ws_1, c_ws_2, cf_0_0, cf_0_1, cf_0_2, cf_0_3, cf_0_4, cf_0_5, cf_0_6, cf_0_7, cf_0_8, cf_0_9, cf_0_10, cf_0_11, cf_0_12, cf_0_13, cp_0_12, cp_0_13, ci_0, cf_1_0, cf_1_1, cf_1_2, cf_1_3, cf_1_4, cp_1_1, cp_1_2, cp_1_3, cp_1_4, ci_1, cf_4_0, cf_4_1, cf_4_2, cf_4_3, cf_4_4, cf_4_5, cf_4_6, cf_4_7, cf_4_8, cf_4_9, cf_4_10, cp_4_0, cp_4_1, ci_4, cf_23_0, cf_23_1, cf_23_2, cf_23_3, cf_23_4, cf_23_5, cf_23_6, cf_23_7, cf_23_8, cf_23_9, cf_23_10, cp_23_0, cp_23_1, ci_23, cf_42_0, cf_42_1, cf_42_2, cf_42_3, cp_42_2, cp_42_3, ci_42, cf_47_0, cf_47_1, cf_47_2, cp_47_1, cp_47_2, ci_47, cf_50_0, cf_50_1, cf_50_2, ci_50, cf_57_0, cf_57_1, ci_57, cf_62_0, cf_62_1, ci_62, cf_67_0, cf_67_1, cf_67_2, cf_67_3, cf_67_4, cf_67_5, cp_67_1, cp_67_2, ci_67, cf_76_0, cf_76_1, cf_76_2, cf_76_3, cf_76_4, cf_76_5, cp_76_1, cp_76_2, cp_76_3, ci_76, c3.2, Int32.le_refl]
    · rw [s_170_4]; simp (decide := true) only [s_170_0, s_170_9, s_170_11, s_170_14, s_170_25, s_170_28, s_170_32, s_170_36, s_170_41, s_170_45, s_170_50, s_170_55, s_170_62, s_170_67, s_170_74, s_170_77, s_170_81, s_170_89, s_170_94, s_170_100, s_170_109, Option.bind_some, x_tlv, x_tln, if_true, if_false, m_wa_1, m_wa_s, m_wb_1, m_wb_2, m_wb_s, m_ws_1, m_ws_b, m_ws_s, m_ws_e, m_we_1, m_we_b, m_we_s, m_we_e, mf_0, mf_1, mf_2, mf_3, mf_4, mf_5, mf_6, mf_7, mf_8, mf_9, mf_10, mf_11, mf_12, mf_13, mf_14, mf_15, mf_16, mf_17, mf_18, mf_19, mf_20, mf_21, mf_22, mf_23, mf_24, mf_25, mf_26, mf_27, mf_28, mf_29, mf_30, mp_4, mp_7, mp_9, mp_10, mp_12, mp_14, mp_15, mp_16, mp_17, mp_18, mp_19, mp_20, mi_0, md1_2, c3.1, Int32.le_refl]
  | succ m ih =>
    intro u M hk hM
    have e0 : ¬ nI U ≤ nI u := nI_ge (by omega) (by omega)
    have hp : 2 ^ (u + 1) = 2 ^ u + 2 ^ u := by rw [Nat.pow_succ]; omega
    have hp6 : 2 ^ u ≤ 2 ^ 5 := Nat.pow_le_pow_right (by omega) (by omega)
    have a1 : c_at σ 5 (nI u) = μ.1 1 (6 + u) := by rw [c_at_n (by show u < 6; omega), (hu u (by omega)).1]
    obtain ⟨v, v1, v2, v3⟩ := E_fits (σ := σ) (dC + 1) (μ.1 1 (6 + u)) hn l3 n 0 (by omega) (fun j hj => absurd hj (Nat.not_lt_zero j))
    obtain ⟨w, w1, w2, w3⟩ := E_so (σ := σ) (μ := μ) (u := u) dM (nI M) (by omega) hn l2 hl n 0 1 (by omega) (Or.inr rfl) ⟨fun _ j hj => absurd hj (Nat.not_lt_zero j), fun _ => rfl⟩
    have hvw : v = w := by
      have h12 : v = 1 ↔ w = 1 := v2.trans w2.symm
      rcases v1 with rfl | rfl <;> rcases w1 with rfl | rfl
      · rfl
      · exact absurd (h12.mpr rfl) (by decide)
      · exact absurd (h12.mp rfl) (by decide)
      · rfl
    subst hvw
    have z0 : (0 : Int32) = nI 0 := rfl
    rcases v1 with rfl | rfl
    · obtain ⟨V, V1, V2, V3⟩ := ih (u + 1) M (by omega) (by omega)
      refine ⟨V, V1, ?_, fun e f => ?_⟩
      · rw [s_96_4]
        simp (decide := true) only [s_96_0, s_96_9, s_96_12, s_96_15, s_96_18, s_96_22, s_96_26, s_96_29, s_96_33, s_96_36, s_96_39, s_96_45, s_96_51, Option.bind_some, x_tlv, x_tln, if_true, if_false, cr_isa, R_at, R_has, R_size, R_put, R_isFull, R_add, R_clear, c_has_eq, c_wa_1, c_wa_2, c_ws_1, c_ws_2, cf_0_0, cf_0_1, cf_0_2, cf_0_3, cf_0_4, cf_0_5, cf_0_6, cf_0_7, cf_0_8, cf_0_9, cf_0_10, cf_0_11, cf_0_12, cf_0_13, cp_0_12, cp_0_13, ci_0, cf_1_0, cf_1_1, cf_1_2, cf_1_3, cf_1_4, cp_1_1, cp_1_2, cp_1_3, cp_1_4, ci_1, cf_4_0, cf_4_1, cf_4_2, cf_4_3, cf_4_4, cf_4_5, cf_4_6, cf_4_7, cf_4_8, cf_4_9, cf_4_10, cp_4_0, cp_4_1, ci_4, cf_23_0, cf_23_1, cf_23_2, cf_23_3, cf_23_4, cf_23_5, cf_23_6, cf_23_7, cf_23_8, cf_23_9, cf_23_10, cp_23_0, cp_23_1, ci_23, cf_42_0, cf_42_1, cf_42_2, cf_42_3, cp_42_2, cp_42_3, ci_42, cf_47_0, cf_47_1, cf_47_2, cp_47_1, cp_47_2, ci_47, cf_50_0, cf_50_1, cf_50_2, ci_50, cf_57_0, cf_57_1, ci_57, cf_62_0, cf_62_1, ci_62, cf_67_0, cf_67_1, cf_67_2, cf_67_3, cf_67_4, cf_67_5, cp_67_1, cp_67_2, ci_67, cf_76_0, cf_76_1, cf_76_2, cf_76_3, cf_76_4, cf_76_5, cp_76_1, cp_76_2, cp_76_3, ci_76, c3.2, e0, a1, r_31, s_31_0]
        rw [show x_E x_P (dC + 2) x_c31 2 [.ref 50, .int (μ.1 1 (6 + u)), .int 0] [] (CG σ) = _ from v3]
        simp (decide := true) only [s_96_0, s_96_9, s_96_12, s_96_15, s_96_18, s_96_22, s_96_26, s_96_29, s_96_33, s_96_36, s_96_39, s_96_45, s_96_51, Option.bind_some, x_tlv, x_tln, if_true, if_false, cr_isa, R_at, R_has, R_size, R_put, R_isFull, R_add, R_clear, c_has_eq, c_wa_1, c_wa_2, c_ws_1, c_ws_2, cf_0_0, cf_0_1, cf_0_2, cf_0_3, cf_0_4, cf_0_5, cf_0_6, cf_0_7, cf_0_8, cf_0_9, cf_0_10, cf_0_11, cf_0_12, cf_0_13, cp_0_12, cp_0_13, ci_0, cf_1_0, cf_1_1, cf_1_2, cf_1_3, cf_1_4, cp_1_1, cp_1_2, cp_1_3, cp_1_4, ci_1, cf_4_0, cf_4_1, cf_4_2, cf_4_3, cf_4_4, cf_4_5, cf_4_6, cf_4_7, cf_4_8, cf_4_9, cf_4_10, cp_4_0, cp_4_1, ci_4, cf_23_0, cf_23_1, cf_23_2, cf_23_3, cf_23_4, cf_23_5, cf_23_6, cf_23_7, cf_23_8, cf_23_9, cf_23_10, cp_23_0, cp_23_1, ci_23, cf_42_0, cf_42_1, cf_42_2, cf_42_3, cp_42_2, cp_42_3, ci_42, cf_47_0, cf_47_1, cf_47_2, cp_47_1, cp_47_2, ci_47, cf_50_0, cf_50_1, cf_50_2, ci_50, cf_57_0, cf_57_1, ci_57, cf_62_0, cf_62_1, ci_62, cf_67_0, cf_67_1, cf_67_2, cf_67_3, cf_67_4, cf_67_5, cp_67_1, cp_67_2, ci_67, cf_76_0, cf_76_1, cf_76_2, cf_76_3, cf_76_4, cf_76_5, cp_76_1, cp_76_2, cp_76_3, ci_76, nI_1, V2]
      · rw [s_170_4]
        simp (decide := true) only [s_170_9, s_170_11, s_170_14, Option.bind_some, x_tlv, x_tln, if_true, if_false, m_wa_1, m_wa_s, m_wb_1, m_wb_2, m_wb_s, m_ws_1, m_ws_b, m_ws_s, m_ws_e, m_we_1, m_we_b, m_we_s, m_we_e, mf_0, mf_1, mf_2, mf_3, mf_4, mf_5, mf_6, mf_7, mf_8, mf_9, mf_10, mf_11, mf_12, mf_13, mf_14, mf_15, mf_16, mf_17, mf_18, mf_19, mf_20, mf_21, mf_22, mf_23, mf_24, mf_25, mf_26, mf_27, mf_28, mf_29, mf_30, mp_4, mp_7, mp_9, mp_10, mp_12, mp_14, mp_15, mp_16, mp_17, mp_18, mp_19, mp_20, mi_0, md1_2, c3.1, e0]
        rw [show x_E x_P dM x_c170 19 [.ref 0, .int (nI M), .int (nI u), .int 1, .int 0] [] (MG μ) = _ from w3]
        simp (decide := true) only [s_170_89, s_170_94, s_170_100, Option.bind_some, x_tlv, x_tln, if_true, if_false, m_wa_1, m_wa_s, m_wb_1, m_wb_2, m_wb_s, m_ws_1, m_ws_b, m_ws_s, m_ws_e, m_we_1, m_we_b, m_we_s, m_we_e, mf_0, mf_1, mf_2, mf_3, mf_4, mf_5, mf_6, mf_7, mf_8, mf_9, mf_10, mf_11, mf_12, mf_13, mf_14, mf_15, mf_16, mf_17, mf_18, mf_19, mf_20, mf_21, mf_22, mf_23, mf_24, mf_25, mf_26, mf_27, mf_28, mf_29, mf_30, mp_4, mp_7, mp_9, mp_10, mp_12, mp_14, mp_15, mp_16, mp_17, mp_18, mp_19, mp_20, mi_0, x_or0, nI_1, V3]
    · obtain ⟨V, V1, V2, V3⟩ := ih (u + 1) (M + 2 ^ u) (by omega) (by omega)
      have ho := x_or1 u (by omega) M (by omega) hM
      refine ⟨V, V1, ?_, fun e f => ?_⟩
      · rw [s_96_4]
        simp (decide := true) only [s_96_0, s_96_9, s_96_12, s_96_15, s_96_18, s_96_22, s_96_26, s_96_29, s_96_33, s_96_36, s_96_39, s_96_45, s_96_51, Option.bind_some, x_tlv, x_tln, if_true, if_false, cr_isa, R_at, R_has, R_size, R_put, R_isFull, R_add, R_clear, c_has_eq, c_wa_1, c_wa_2, c_ws_1, c_ws_2, cf_0_0, cf_0_1, cf_0_2, cf_0_3, cf_0_4, cf_0_5, cf_0_6, cf_0_7, cf_0_8, cf_0_9, cf_0_10, cf_0_11, cf_0_12, cf_0_13, cp_0_12, cp_0_13, ci_0, cf_1_0, cf_1_1, cf_1_2, cf_1_3, cf_1_4, cp_1_1, cp_1_2, cp_1_3, cp_1_4, ci_1, cf_4_0, cf_4_1, cf_4_2, cf_4_3, cf_4_4, cf_4_5, cf_4_6, cf_4_7, cf_4_8, cf_4_9, cf_4_10, cp_4_0, cp_4_1, ci_4, cf_23_0, cf_23_1, cf_23_2, cf_23_3, cf_23_4, cf_23_5, cf_23_6, cf_23_7, cf_23_8, cf_23_9, cf_23_10, cp_23_0, cp_23_1, ci_23, cf_42_0, cf_42_1, cf_42_2, cf_42_3, cp_42_2, cp_42_3, ci_42, cf_47_0, cf_47_1, cf_47_2, cp_47_1, cp_47_2, ci_47, cf_50_0, cf_50_1, cf_50_2, ci_50, cf_57_0, cf_57_1, ci_57, cf_62_0, cf_62_1, ci_62, cf_67_0, cf_67_1, cf_67_2, cf_67_3, cf_67_4, cf_67_5, cp_67_1, cp_67_2, ci_67, cf_76_0, cf_76_1, cf_76_2, cf_76_3, cf_76_4, cf_76_5, cp_76_1, cp_76_2, cp_76_3, ci_76, c3.2, e0, a1, r_31, s_31_0]
        rw [show x_E x_P (dC + 2) x_c31 2 [.ref 50, .int (μ.1 1 (6 + u)), .int 0] [] (CG σ) = _ from v3]
        simp (decide := true) only [s_96_0, s_96_9, s_96_12, s_96_15, s_96_18, s_96_22, s_96_26, s_96_29, s_96_33, s_96_36, s_96_39, s_96_45, s_96_51, Option.bind_some, x_tlv, x_tln, if_true, if_false, cr_isa, R_at, R_has, R_size, R_put, R_isFull, R_add, R_clear, c_has_eq, c_wa_1, c_wa_2, c_ws_1, c_ws_2, cf_0_0, cf_0_1, cf_0_2, cf_0_3, cf_0_4, cf_0_5, cf_0_6, cf_0_7, cf_0_8, cf_0_9, cf_0_10, cf_0_11, cf_0_12, cf_0_13, cp_0_12, cp_0_13, ci_0, cf_1_0, cf_1_1, cf_1_2, cf_1_3, cf_1_4, cp_1_1, cp_1_2, cp_1_3, cp_1_4, ci_1, cf_4_0, cf_4_1, cf_4_2, cf_4_3, cf_4_4, cf_4_5, cf_4_6, cf_4_7, cf_4_8, cf_4_9, cf_4_10, cp_4_0, cp_4_1, ci_4, cf_23_0, cf_23_1, cf_23_2, cf_23_3, cf_23_4, cf_23_5, cf_23_6, cf_23_7, cf_23_8, cf_23_9, cf_23_10, cp_23_0, cp_23_1, ci_23, cf_42_0, cf_42_1, cf_42_2, cf_42_3, cp_42_2, cp_42_3, ci_42, cf_47_0, cf_47_1, cf_47_2, cp_47_1, cp_47_2, ci_47, cf_50_0, cf_50_1, cf_50_2, ci_50, cf_57_0, cf_57_1, ci_57, cf_62_0, cf_62_1, ci_62, cf_67_0, cf_67_1, cf_67_2, cf_67_3, cf_67_4, cf_67_5, cp_67_1, cp_67_2, ci_67, cf_76_0, cf_76_1, cf_76_2, cf_76_3, cf_76_4, cf_76_5, cp_76_1, cp_76_2, cp_76_3, ci_76, nI_1, ho, V2]
      · rw [s_170_4]
        simp (decide := true) only [s_170_9, s_170_11, s_170_14, Option.bind_some, x_tlv, x_tln, if_true, if_false, m_wa_1, m_wa_s, m_wb_1, m_wb_2, m_wb_s, m_ws_1, m_ws_b, m_ws_s, m_ws_e, m_we_1, m_we_b, m_we_s, m_we_e, mf_0, mf_1, mf_2, mf_3, mf_4, mf_5, mf_6, mf_7, mf_8, mf_9, mf_10, mf_11, mf_12, mf_13, mf_14, mf_15, mf_16, mf_17, mf_18, mf_19, mf_20, mf_21, mf_22, mf_23, mf_24, mf_25, mf_26, mf_27, mf_28, mf_29, mf_30, mp_4, mp_7, mp_9, mp_10, mp_12, mp_14, mp_15, mp_16, mp_17, mp_18, mp_19, mp_20, mi_0, md1_2, c3.1, e0]
        rw [show x_E x_P dM x_c170 19 [.ref 0, .int (nI M), .int (nI u), .int 1, .int 0] [] (MG μ) = _ from w3]
        simp (decide := true) only [s_170_89, s_170_94, s_170_100, Option.bind_some, x_tlv, x_tln, if_true, if_false, m_wa_1, m_wa_s, m_wb_1, m_wb_2, m_wb_s, m_ws_1, m_ws_b, m_ws_s, m_ws_e, m_we_1, m_we_b, m_we_s, m_we_e, mf_0, mf_1, mf_2, mf_3, mf_4, mf_5, mf_6, mf_7, mf_8, mf_9, mf_10, mf_11, mf_12, mf_13, mf_14, mf_15, mf_16, mf_17, mf_18, mf_19, mf_20, mf_21, mf_22, mf_23, mf_24, mf_25, mf_26, mf_27, mf_28, mf_29, mf_30, mp_4, mp_7, mp_9, mp_10, mp_12, mp_14, mp_15, mp_16, mp_17, mp_18, mp_19, mp_20, mi_0, ho, nI_1, V3]
theorem R_uses {σ : x_S} {μ : x_U} (dC dM : Nat) (hS : SIM σ μ) : ∃ V : Nat, V < 64 ∧ x_R x_P (dC + 4) 96 [.ref 0] (CG σ) = some (some (.int (nI V)), CG σ) ∧ x_R x_P (dM + 1) 170 [.ref 0] (MG μ) = some (some (.int (nI V)), MG μ) := by
  obtain ⟨U, T, P, N, ⟨⟨hU, hT, hP, hN⟩, c1, c2, c3, c4, c5, c6⟩, hu, ht, hp, hw, hn, hpa, hi, ⟨m, l1, l2, l3, l4, l5, l6⟩, hb, hx, hm⟩ := hS
  obtain ⟨V, V1, V2, V3⟩ := E_uses dC dM hU l1 c3 hu l2 l3 l6 U 0 0 (by omega) (by decide)
  refine ⟨V, V1, ?_, ?_⟩
  · rw [r_96, s_96_0]; exact V2
  · rw [r_170, s_170_0]; exact V3 _ _
theorem sim_boughtFor : Sim 96 171 [] := Sim.same fun σ μ hS => by
  obtain ⟨V, V1, V2, V3⟩ := R_uses 26 28 hS
  refine ⟨nI V, V2, ?_⟩
  simp (decide := true) only [r_171, s_171_0, s_171_4, Option.bind_some, x_tlv, x_tln, if_true, if_false, m_wa_1, m_wa_s, m_wb_1, m_wb_2, m_wb_s, m_ws_1, m_ws_b, m_ws_s, m_ws_e, m_we_1, m_we_b, m_we_s, m_we_e, mf_0, mf_1, mf_2, mf_3, mf_4, mf_5, mf_6, mf_7, mf_8, mf_9, mf_10, mf_11, mf_12, mf_13, mf_14, mf_15, mf_16, mf_17, mf_18, mf_19, mf_20, mf_21, mf_22, mf_23, mf_24, mf_25, mf_26, mf_27, mf_28, mf_29, mf_30, mp_4, mp_7, mp_9, mp_10, mp_12, mp_14, mp_15, mp_16, mp_17, mp_18, mp_19, mp_20, mi_0]
  rw [V3]
  simp (decide := true) only [s_171_0, s_171_4, Option.bind_some, x_tlv, x_tln, if_true, if_false, m_wa_1, m_wa_s, m_wb_1, m_wb_2, m_wb_s, m_ws_1, m_ws_b, m_ws_s, m_ws_e, m_we_1, m_we_b, m_we_s, m_we_e, mf_0, mf_1, mf_2, mf_3, mf_4, mf_5, mf_6, mf_7, mf_8, mf_9, mf_10, mf_11, mf_12, mf_13, mf_14, mf_15, mf_16, mf_17, mf_18, mf_19, mf_20, mf_21, mf_22, mf_23, mf_24, mf_25, mf_26, mf_27, mf_28, mf_29, mf_30, mp_4, mp_7, mp_9, mp_10, mp_12, mp_14, mp_15, mp_16, mp_17, mp_18, mp_19, mp_20, mi_0]
