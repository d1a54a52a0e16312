/-! gain, least dues -/
/-- the user that gains most, and how much: from so many on -/
def gn (μ : x_U) (D T : Nat) : Nat → Nat → Nat → Nat → Nat × Nat
  | 0, _, c, e => (c, e)
  | m + 1, u, c, e => if e < mk μ D T u 4 then gn μ D T m (u + 1) (u + 1) (mk μ D T u 4) else gn μ D T m (u + 1) c e
theorem gn_inv {μ : x_U} {D T U : Nat} : ∀ m u c e, u + m = U → ((c = 0 ∧ e = 21) ∨ ∃ a, a < U ∧ c = a + 1 ∧ e = mk μ D T a 4) → (((gn μ D T m u c e).1 = 0 ∧ (gn μ D T m u c e).2 = 21) ∨ ∃ a, a < U ∧ (gn μ D T m u c e).1 = a + 1 ∧ (gn μ D T m u c e).2 = mk μ D T a 4) := by
  intro m
  induction m with
  | zero => intro u c e _ h; exact h
  | succ m ih =>
    intro u c e hu h
    unfold gn
    by_cases h1 : e < mk μ D T u 4
    · rw [if_pos h1]; exact ih _ _ _ (by omega) (Or.inr ⟨u, by omega, rfl, rfl⟩)
    · rw [if_neg h1]; exact ih _ _ _ (by omega) h
theorem gn_pos {μ : x_U} {D T : Nat} : ∀ m u c e, 0 < c → 0 < (gn μ D T m u c e).1 := by
  intro m
  induction m with
  | zero => intro u c e h; exact h
  | succ m ih =>
    intro u c e h
    unfold gn
    by_cases h1 : e < mk μ D T u 4
    · rw [if_pos h1]; exact ih _ _ _ (by omega)
    · rw [if_neg h1]; exact ih _ _ _ h
theorem gn_none {μ : x_U} {D T : Nat} : ∀ m u, ((gn μ D T m u 0 21).1 = 0 ↔ ∀ w, u ≤ w → w < u + m → mk μ D T w 4 ≤ 21) := by
  intro m
  induction m with
  | zero => intro u; exact ⟨fun _ w h1 h2 => by omega, fun _ => rfl⟩
  | succ m ih =>
    intro u
    unfold gn
    by_cases h1 : 21 < mk μ D T u 4
    · rw [if_pos h1]
      have := gn_pos (μ := μ) (D := D) (T := T) m (u + 1) (u + 1) (mk μ D T u 4) (by omega)
      exact ⟨fun z => by omega, fun z => by have := z u (Nat.le_refl _) (by omega); omega⟩
    · rw [if_neg h1, ih (u + 1)]
      refine ⟨fun z w h2 h3 => ?_, fun z w h2 h3 => z w (by omega) (by omega)⟩
      by_cases hw : w = u
      · subst hw; omega
      · exact z w (by omega) (by omega)
theorem C_gn {σ : x_S} {μ : x_U} {U T : Nat} (b : Int32) (hU : U ≤ 6) (hT : T ≤ 8) (c3 : σ.2 5 1 = nI U) (c4 : σ.2 7 1 = nI T) (ht : S_tab σ μ U T) : ∀ m u c e (F G : Nat → Int32) (g : Value), u + m = U → e < 2 ^ 31 → ∃ F' G' g', x_E x_P 29 x_c89 20 [.ref 0, .int b, .int (eN c), .int (eN e), .int (nI u), g] [] (CG (WW σ F G)) = x_E x_P 29 x_c89 69 [.ref 0, .int b, .int (eN (gn μ 0 T m u c e).1), .int (eN (gn μ 0 T m u c e).2), .int (nI U), g'] [] (CG (WW σ F' G')) := by
  have hTT : ∀ t, t < T → 1 ≤ tGv μ t ∧ tGt μ t ≤ 20 := fun t h => ⟨(TB.of hU ht h).g1, (TB.of hU ht h).h2⟩
  have cw : ∀ F G, (WW σ F G).2 5 1 = nI U := fun _ _ => c3
  intro m
  induction m with
  | zero =>
    intro u c e F G g hm he
    obtain rfl : u = U := by omega
    refine ⟨F, G, g, ?_⟩
    rw [s_89_20]; simp (decide := true) only [s_89_26, s_89_29, s_89_32, Option.bind_some, x_tlv, x_tln, if_true, if_false, cr_isa, R_at, R_has, R_size, R_put, R_isFull, R_add, R_clear, c_has_eq, c_wa_1, c_wa_2, c_ws_1, c_ws_2, cf_0_0, cf_0_1, cf_0_2, cf_0_3, cf_0_4, cf_0_5, cf_0_6, cf_0_7, cf_0_8, cf_0_9, cf_0_10, cf_0_11, cf_0_12, cf_0_13, cp_0_12, cp_0_13, ci_0, cf_1_0, cf_1_1, cf_1_2, cf_1_3, cf_1_4, cp_1_1, cp_1_2, cp_1_3, cp_1_4, ci_1, cf_4_0, cf_4_1, cf_4_2, cf_4_3, cf_4_4, cf_4_5, cf_4_6, cf_4_7, cf_4_8, cf_4_9, cf_4_10, cp_4_0, cp_4_1, ci_4, cf_23_0, cf_23_1, cf_23_2, cf_23_3, cf_23_4, cf_23_5, cf_23_6, cf_23_7, cf_23_8, cf_23_9, cf_23_10, cp_23_0, cp_23_1, ci_23, cf_42_0, cf_42_1, cf_42_2, cf_42_3, cp_42_2, cp_42_3, ci_42, cf_47_0, cf_47_1, cf_47_2, cp_47_1, cp_47_2, ci_47, cf_50_0, cf_50_1, cf_50_2, ci_50, cf_57_0, cf_57_1, ci_57, cf_62_0, cf_62_1, ci_62, cf_67_0, cf_67_1, cf_67_2, cf_67_3, cf_67_4, cf_67_5, cp_67_1, cp_67_2, ci_67, cf_76_0, cf_76_1, cf_76_2, cf_76_3, cf_76_4, cf_76_5, cp_76_1, cp_76_2, cp_76_3, ci_76, cw, Int32.le_refl]
    rfl
  | succ m ih =>
    intro u c e F G g hm he
    have e0 : ¬ nI U ≤ nI u := nI_ge (by omega) (by omega)
    obtain ⟨F1, G1, h1⟩ := C_mostRound (σ := σ) (μ := μ) (D := 0) (u := u) 24 hU hT c4 ht (by omega) (by omega) F G
    have h1 : x_R x_P 29 69 [.ref 67, .ref 4, .int (nI u), .int 0] (CG (WW σ F G)) = _ := h1
    have b1 := mk_le (D := 0) (u := u) hTT 4 (by omega)
    unfold gn
    by_cases hl : e < mk μ 0 T u 4
    · have e1 : ¬ eN (mk μ 0 T u 4) ≤ eN e := fun q => absurd ((eN_le (by omega) he).mp q) (by omega)
      obtain ⟨F', G', g', j1⟩ := ih (u + 1) (u + 1) (mk μ 0 T u 4) F1 G1 (.int (eN (mk μ 0 T u 4))) (by omega) (by omega)
      rw [eN_s] at j1
      rw [if_pos hl]
      refine ⟨F', G', g', ?_⟩
      rw [s_89_20]; simp (decide := true) only [s_89_26, s_89_29, s_89_32, s_89_35, s_89_39, s_89_43, Option.bind_some, x_tlv, x_tln, if_true, if_false, cr_isa, R_at, R_has, R_size, R_put, R_isFull, R_add, R_clear, c_has_eq, c_wa_1, c_wa_2, c_ws_1, c_ws_2, cf_0_0, cf_0_1, cf_0_2, cf_0_3, cf_0_4, cf_0_5, cf_0_6, cf_0_7, cf_0_8, cf_0_9, cf_0_10, cf_0_11, cf_0_12, cf_0_13, cp_0_12, cp_0_13, ci_0, cf_1_0, cf_1_1, cf_1_2, cf_1_3, cf_1_4, cp_1_1, cp_1_2, cp_1_3, cp_1_4, ci_1, cf_4_0, cf_4_1, cf_4_2, cf_4_3, cf_4_4, cf_4_5, cf_4_6, cf_4_7, cf_4_8, cf_4_9, cf_4_10, cp_4_0, cp_4_1, ci_4, cf_23_0, cf_23_1, cf_23_2, cf_23_3, cf_23_4, cf_23_5, cf_23_6, cf_23_7, cf_23_8, cf_23_9, cf_23_10, cp_23_0, cp_23_1, ci_23, cf_42_0, cf_42_1, cf_42_2, cf_42_3, cp_42_2, cp_42_3, ci_42, cf_47_0, cf_47_1, cf_47_2, cp_47_1, cp_47_2, ci_47, cf_50_0, cf_50_1, cf_50_2, ci_50, cf_57_0, cf_57_1, ci_57, cf_62_0, cf_62_1, ci_62, cf_67_0, cf_67_1, cf_67_2, cf_67_3, cf_67_4, cf_67_5, cp_67_1, cp_67_2, ci_67, cf_76_0, cf_76_1, cf_76_2, cf_76_3, cf_76_4, cf_76_5, cp_76_1, cp_76_2, cp_76_3, ci_76, cw, e0]
      rw [h1]
      simp (decide := true) only [s_89_49, s_89_57, Option.bind_some, x_tlv, x_tln, if_true, if_false, cr_isa, R_at, R_has, R_size, R_put, R_isFull, R_add, R_clear, c_has_eq, c_wa_1, c_wa_2, c_ws_1, c_ws_2, cf_0_0, cf_0_1, cf_0_2, cf_0_3, cf_0_4, cf_0_5, cf_0_6, cf_0_7, cf_0_8, cf_0_9, cf_0_10, cf_0_11, cf_0_12, cf_0_13, cp_0_12, cp_0_13, ci_0, cf_1_0, cf_1_1, cf_1_2, cf_1_3, cf_1_4, cp_1_1, cp_1_2, cp_1_3, cp_1_4, ci_1, cf_4_0, cf_4_1, cf_4_2, cf_4_3, cf_4_4, cf_4_5, cf_4_6, cf_4_7, cf_4_8, cf_4_9, cf_4_10, cp_4_0, cp_4_1, ci_4, cf_23_0, cf_23_1, cf_23_2, cf_23_3, cf_23_4, cf_23_5, cf_23_6, cf_23_7, cf_23_8, cf_23_9, cf_23_10, cp_23_0, cp_23_1, ci_23, cf_42_0, cf_42_1, cf_42_2, cf_42_3, cp_42_2, cp_42_3, ci_42, cf_47_0, cf_47_1, cf_47_2, cp_47_1, cp_47_2, ci_47, cf_50_0, cf_50_1, cf_50_2, ci_50, cf_57_0, cf_57_1, ci_57, cf_62_0, cf_62_1, ci_62, cf_67_0, cf_67_1, cf_67_2, cf_67_3, cf_67_4, cf_67_5, cp_67_1, cp_67_2, ci_67, cf_76_0, cf_76_1, cf_76_2, cf_76_3, cf_76_4, cf_76_5, cp_76_1, cp_76_2, cp_76_3, ci_76, e1, nI_1]
      exact j1
    · have e1 : eN (mk μ 0 T u 4) ≤ eN e := (eN_le (by omega) he).mpr (by omega)
      obtain ⟨F', G', g', j1⟩ := ih (u + 1) c e F1 G1 (.int (eN (mk μ 0 T u 4))) (by omega) he
      rw [if_neg hl]
      refine ⟨F', G', g', ?_⟩
      rw [s_89_20]; simp (decide := true) only [s_89_26, s_89_29, s_89_32, s_89_35, s_89_39, s_89_43, Option.bind_some, x_tlv, x_tln, if_true, if_false, cr_isa, R_at, R_has, R_size, R_put, R_isFull, R_add, R_clear, c_has_eq, c_wa_1, c_wa_2, c_ws_1, c_ws_2, cf_0_0, cf_0_1, cf_0_2, cf_0_3, cf_0_4, cf_0_5, cf_0_6, cf_0_7, cf_0_8, cf_0_9, cf_0_10, cf_0_11, cf_0_12, cf_0_13, cp_0_12, cp_0_13, ci_0, cf_1_0, cf_1_1, cf_1_2, cf_1_3, cf_1_4, cp_1_1, cp_1_2, cp_1_3, cp_1_4, ci_1, cf_4_0, cf_4_1, cf_4_2, cf_4_3, cf_4_4, cf_4_5, cf_4_6, cf_4_7, cf_4_8, cf_4_9, cf_4_10, cp_4_0, cp_4_1, ci_4, cf_23_0, cf_23_1, cf_23_2, cf_23_3, cf_23_4, cf_23_5, cf_23_6, cf_23_7, cf_23_8, cf_23_9, cf_23_10, cp_23_0, cp_23_1, ci_23, cf_42_0, cf_42_1, cf_42_2, cf_42_3, cp_42_2, cp_42_3, ci_42, cf_47_0, cf_47_1, cf_47_2, cp_47_1, cp_47_2, ci_47, cf_50_0, cf_50_1, cf_50_2, ci_50, cf_57_0, cf_57_1, ci_57, cf_62_0, cf_62_1, ci_62, cf_67_0, cf_67_1, cf_67_2, cf_67_3, cf_67_4, cf_67_5, cp_67_1, cp_67_2, ci_67, cf_76_0, cf_76_1, cf_76_2, cf_76_3, cf_76_4, cf_76_5, cp_76_1, cp_76_2, cp_76_3, ci_76, cw, e0]
      rw [h1]
      simp (decide := true) only [s_89_49, s_89_63, Option.bind_some, x_tlv, x_tln, if_true, if_false, cr_isa, R_at, R_has, R_size, R_put, R_isFull, R_add, R_clear, c_has_eq, c_wa_1, c_wa_2, c_ws_1, c_ws_2, cf_0_0, cf_0_1, cf_0_2, cf_0_3, cf_0_4, cf_0_5, cf_0_6, cf_0_7, cf_0_8, cf_0_9, cf_0_10, cf_0_11, cf_0_12, cf_0_13, cp_0_12, cp_0_13, ci_0, cf_1_0, cf_1_1, cf_1_2, cf_1_3, cf_1_4, cp_1_1, cp_1_2, cp_1_3, cp_1_4, ci_1, cf_4_0, cf_4_1, cf_4_2, cf_4_3, cf_4_4, cf_4_5, cf_4_6, cf_4_7, cf_4_8, cf_4_9, cf_4_10, cp_4_0, cp_4_1, ci_4, cf_23_0, cf_23_1, cf_23_2, cf_23_3, cf_23_4, cf_23_5, cf_23_6, cf_23_7, cf_23_8, cf_23_9, cf_23_10, cp_23_0, cp_23_1, ci_23, cf_42_0, cf_42_1, cf_42_2, cf_42_3, cp_42_2, cp_42_3, ci_42, cf_47_0, cf_47_1, cf_47_2, cp_47_1, cp_47_2, ci_47, cf_50_0, cf_50_1, cf_50_2, ci_50, cf_57_0, cf_57_1, ci_57, cf_62_0, cf_62_1, ci_62, cf_67_0, cf_67_1, cf_67_2, cf_67_3, cf_67_4, cf_67_5, cp_67_1, cp_67_2, ci_67, cf_76_0, cf_76_1, cf_76_2, cf_76_3, cf_76_4, cf_76_5, cp_76_1, cp_76_2, cp_76_3, ci_76, e1, nI_1]
      exact j1
theorem M_gn {σ : x_S} {μ : x_U} {U T D : Nat} (d : Nat) (hU : U ≤ 6) (hT : T ≤ 8) (c3 : μ.1 1 2 = nI U) (c4 : μ.1 1 3 = nI T) (ht : S_tab σ μ U T) (hD : D < 100) : ∀ m u c e (F G : Nat → Int32) (g : Value), u + m = U → e < 2 ^ 31 → ∃ F' G', x_E x_P (d + 2) x_c161 8 [.ref 0, .int (nI D), .int (eN c), .int (eN e), .int (nI u), g] [] (MG (VV μ F G)) = some (some (.int (eN (gn μ D T m u c e).1)), MG (VV μ F' G')) := by
  have hTT : ∀ t, t < T → 1 ≤ tGv μ t ∧ tGt μ t ≤ 20 := fun t h => ⟨(TB.of hU ht h).g1, (TB.of hU ht h).h2⟩
  intro m
  induction m with
  | zero =>
    intro u c e F G g hm he
    obtain rfl : u = U := by omega
    refine ⟨F, G, ?_⟩
    rw [s_161_8]; simp (decide := true) only [s_161_14, s_161_16, s_161_60, Option.bind_some, x_tlv, x_tln, if_true, if_false, m_wa_1, m_wa_s, m_wb_1, m_wb_2, m_wb_s, m_ws_1, m_ws_b, m_ws_s, m_ws_e, m_we_1, m_we_b, m_we_s, m_we_e, mf_0, mf_1, mf_2, mf_3, mf_4, mf_5, mf_6, mf_7, mf_8, mf_9, mf_10, mf_11, mf_12, mf_13, mf_14, mf_15, mf_16, mf_17, mf_18, mf_19, mf_20, mf_21, mf_22, mf_23, mf_24, mf_25, mf_26, mf_27, mf_28, mf_29, mf_30, mp_4, mp_7, mp_9, mp_10, mp_12, mp_14, mp_15, mp_16, mp_17, mp_18, mp_19, mp_20, mi_0, VV_2', c3, Int32.le_refl]
    rfl
  | succ m ih =>
    intro u c e F G g hm he
    have e0 : ¬ nI U ≤ nI u := nI_ge (by omega) (by omega)
    obtain ⟨F1, G1, h1⟩ := M_becomes (σ := σ) (μ := μ) (D := D) (u := u) d hU hT c4 ht hD (by omega) F G
    have b1 := mk_le (D := D) (u := u) hTT 4 (by omega)
    unfold gn
    by_cases hl : e < mk μ D T u 4
    · have e1 : ¬ eN (mk μ D T u 4) ≤ eN e := fun q => absurd ((eN_le (by omega) he).mp q) (by omega)
      obtain ⟨F', G', j1⟩ := ih (u + 1) (u + 1) (mk μ D T u 4) F1 G1 (.int (eN (mk μ D T u 4))) (by omega) (by omega)
      rw [eN_s] at j1
      rw [if_pos hl]
      refine ⟨F', G', ?_⟩
      rw [s_161_8]; simp (decide := true) only [s_161_14, s_161_16, s_161_19, Option.bind_some, x_tlv, x_tln, if_true, if_false, m_wa_1, m_wa_s, m_wb_1, m_wb_2, m_wb_s, m_ws_1, m_ws_b, m_ws_s, m_ws_e, m_we_1, m_we_b, m_we_s, m_we_e, mf_0, mf_1, mf_2, mf_3, mf_4, mf_5, mf_6, mf_7, mf_8, mf_9, mf_10, mf_11, mf_12, mf_13, mf_14, mf_15, mf_16, mf_17, mf_18, mf_19, mf_20, mf_21, mf_22, mf_23, mf_24, mf_25, mf_26, mf_27, mf_28, mf_29, mf_30, mp_4, mp_7, mp_9, mp_10, mp_12, mp_14, mp_15, mp_16, mp_17, mp_18, mp_19, mp_20, mi_0, VV_2', c3, e0]
      rw [h1]
      simp (decide := true) only [s_161_26, s_161_34, s_161_47, Option.bind_some, x_tlv, x_tln, if_true, if_false, m_wa_1, m_wa_s, m_wb_1, m_wb_2, m_wb_s, m_ws_1, m_ws_b, m_ws_s, m_ws_e, m_we_1, m_we_b, m_we_s, m_we_e, mf_0, mf_1, mf_2, mf_3, mf_4, mf_5, mf_6, mf_7, mf_8, mf_9, mf_10, mf_11, mf_12, mf_13, mf_14, mf_15, mf_16, mf_17, mf_18, mf_19, mf_20, mf_21, mf_22, mf_23, mf_24, mf_25, mf_26, mf_27, mf_28, mf_29, mf_30, mp_4, mp_7, mp_9, mp_10, mp_12, mp_14, mp_15, mp_16, mp_17, mp_18, mp_19, mp_20, mi_0, e1, nI_1]
      exact j1
    · have e1 : eN (mk μ D T u 4) ≤ eN e := (eN_le (by omega) he).mpr (by omega)
      obtain ⟨F', G', j1⟩ := ih (u + 1) c e F1 G1 (.int (eN (mk μ D T u 4))) (by omega) he
      rw [if_neg hl]
      refine ⟨F', G', ?_⟩
      rw [s_161_8]; simp (decide := true) only [s_161_14, s_161_16, s_161_19, Option.bind_some, x_tlv, x_tln, if_true, if_false, m_wa_1, m_wa_s, m_wb_1, m_wb_2, m_wb_s, m_ws_1, m_ws_b, m_ws_s, m_ws_e, m_we_1, m_we_b, m_we_s, m_we_e, mf_0, mf_1, mf_2, mf_3, mf_4, mf_5, mf_6, mf_7, mf_8, mf_9, mf_10, mf_11, mf_12, mf_13, mf_14, mf_15, mf_16, mf_17, mf_18, mf_19, mf_20, mf_21, mf_22, mf_23, mf_24, mf_25, mf_26, mf_27, mf_28, mf_29, mf_30, mp_4, mp_7, mp_9, mp_10, mp_12, mp_14, mp_15, mp_16, mp_17, mp_18, mp_19, mp_20, mi_0, VV_2', c3, e0]
      rw [h1]
      simp (decide := true) only [s_161_26, s_161_39, s_161_52, Option.bind_some, x_tlv, x_tln, if_true, if_false, m_wa_1, m_wa_s, m_wb_1, m_wb_2, m_wb_s, m_ws_1, m_ws_b, m_ws_s, m_ws_e, m_we_1, m_we_b, m_we_s, m_we_e, mf_0, mf_1, mf_2, mf_3, mf_4, mf_5, mf_6, mf_7, mf_8, mf_9, mf_10, mf_11, mf_12, mf_13, mf_14, mf_15, mf_16, mf_17, mf_18, mf_19, mf_20, mf_21, mf_22, mf_23, mf_24, mf_25, mf_26, mf_27, mf_28, mf_29, mf_30, mp_4, mp_7, mp_9, mp_10, mp_12, mp_14, mp_15, mp_16, mp_17, mp_18, mp_19, mp_20, mi_0, e1, nI_1]
      exact j1
theorem M_gains {σ : x_S} {μ : x_U} {U T D : Nat} (d : Nat) (hU : U ≤ 6) (hT : T ≤ 8) (c3 : μ.1 1 2 = nI U) (c4 : μ.1 1 3 = nI T) (ht : S_tab σ μ U T) (hD : D < 100) (F G : Nat → Int32) : ∃ F' G', x_R x_P (d + 3) 161 [.ref 0, .int (nI D)] (MG (VV μ F G)) = some (some (.int (eN (gn μ D T U 0 0 21).1)), MG (VV μ F' G')) := by
  obtain ⟨F', G', h⟩ := M_gn d hU hT c3 c4 ht hD U 0 0 21 F G x_j (by omega) (by omega)
  refine ⟨F', G', ?_⟩
  rw [r_161, s_161_0]
  exact h
theorem SIM_WV {σ : x_S} {μ : x_U} (h : SIM σ μ) (F G F' G' : Nat → Int32) : SIM (WW σ F G) (VV μ F' G') := by
  obtain ⟨U, T, P, N, hc, hu, ht, hp, hw, hn, hpa, hi, hl, hb, hx, hm⟩ := h
  exact ⟨U, T, P, N, hc, hu, ht, hp, hw, hn, hpa, hi, hl, hb, hx, hm⟩
theorem sim_gain (w : Int32) : Sim 89 162 [.int w] := Sim.of fun σ μ hS => by
  have hS' := hS
  obtain ⟨U, T, P, N, ⟨⟨hU, hT, hP, hN⟩, c1, c2, c3, c4, c5, c6⟩, hu, ht, hp, hw, hn, hpa, hi, hl, hb, hx, hm⟩ := hS
  by_cases h1 : (0 : Int32) ≤ w ∧ w ≤ 1
  · have g1 : ¬ w < 0 := Int32.not_lt.mpr h1.1
    obtain ⟨F1, G1, g', k1⟩ := C_gn (σ := σ) (μ := μ) w hU hT c3.2 c4.2 ht U 0 0 21 (σ.1 73) (σ.1 75) x_j (by omega) (by omega)
    rw [WW_id] at k1
    obtain ⟨F2, G2, k2⟩ := M_gains (σ := σ) (μ := μ) (D := 0) 26 hU hT c3.1 c4.1 ht (by omega) (μ.1 14) (μ.1 15)
    rw [VV_id] at k2
    have k2 : x_R x_P 29 161 [.ref 0, .int 0] (MG μ) = _ := k2
    have inv := gn_inv (μ := μ) (D := 0) (T := T) (U := U) U 0 0 21 (by omega) (Or.inl ⟨rfl, rfl⟩)
    rcases inv with ⟨i1, i2⟩ | ⟨a, i1, i2, i3⟩
    · rw [i1] at k1 k2
      rw [i2] at k1
      refine ⟨-1, WW σ F1 G1, VV μ F2 G2, ?_, ?_, SIM_WV hS' _ _ _ _⟩
      · rw [r_89, s_89_0, if_neg g1, s_89_4, if_pos h1.2, s_89_12]
        refine Eq.trans k1 ?_
        rw [s_89_69, if_pos (show eN 0 = -1 from rfl), s_89_74]
      · simp (decide := true) only [r_162, s_162_0, s_162_7, s_162_13, Option.bind_some, x_tlv, x_tln, if_true, if_false, m_wa_1, m_wa_s, m_wb_1, m_wb_2, m_wb_s, m_ws_1, m_ws_b, m_ws_s, m_ws_e, m_we_1, m_we_b, m_we_s, m_we_e, mf_0, mf_1, mf_2, mf_3, mf_4, mf_5, mf_6, mf_7, mf_8, mf_9, mf_10, mf_11, mf_12, mf_13, mf_14, mf_15, mf_16, mf_17, mf_18, mf_19, mf_20, mf_21, mf_22, mf_23, mf_24, mf_25, mf_26, mf_27, mf_28, mf_29, mf_30, mp_4, mp_7, mp_9, mp_10, mp_12, mp_14, mp_15, mp_16, mp_17, mp_18, mp_19, mp_20, mi_0, M_in, x_w0, x_w1, x_wle, x_b_t h1]
        rw [k2]
        simp (decide := true) only [s_162_18, s_162_28, Option.bind_some, x_tlv, x_tln, if_true, if_false, m_wa_1, m_wa_s, m_wb_1, m_wb_2, m_wb_s, m_ws_1, m_ws_b, m_ws_s, m_ws_e, m_we_1, m_we_b, m_we_s, m_we_e, mf_0, mf_1, mf_2, mf_3, mf_4, mf_5, mf_6, mf_7, mf_8, mf_9, mf_10, mf_11, mf_12, mf_13, mf_14, mf_15, mf_16, mf_17, mf_18, mf_19, mf_20, mf_21, mf_22, mf_23, mf_24, mf_25, mf_26, mf_27, mf_28, mf_29, mf_30, mp_4, mp_7, mp_9, mp_10, mp_12, mp_14, mp_15, mp_16, mp_17, mp_18, mp_19, mp_20, mi_0, eN_0]
    · rw [i2] at k1 k2
      rw [i3] at k1
      have e1 : ¬ nI a = -1 := by rw [← eN_s, eN_neg (by omega)]; omega
      rw [eN_s a] at k1 k2
      by_cases hw0 : w = 0
      · refine ⟨nI a, WW σ F1 G1, VV μ F2 G2, ?_, ?_, SIM_WV hS' _ _ _ _⟩
        · rw [r_89, s_89_0, if_neg g1, s_89_4, if_pos h1.2, s_89_12]
          refine Eq.trans k1 ?_
          rw [s_89_69, if_neg e1, s_89_76, if_pos hw0, s_89_80]
        · simp (decide := true) only [r_162, s_162_0, s_162_7, s_162_13, Option.bind_some, x_tlv, x_tln, if_true, if_false, m_wa_1, m_wa_s, m_wb_1, m_wb_2, m_wb_s, m_ws_1, m_ws_b, m_ws_s, m_ws_e, m_we_1, m_we_b, m_we_s, m_we_e, mf_0, mf_1, mf_2, mf_3, mf_4, mf_5, mf_6, mf_7, mf_8, mf_9, mf_10, mf_11, mf_12, mf_13, mf_14, mf_15, mf_16, mf_17, mf_18, mf_19, mf_20, mf_21, mf_22, mf_23, mf_24, mf_25, mf_26, mf_27, mf_28, mf_29, mf_30, mp_4, mp_7, mp_9, mp_10, mp_12, mp_14, mp_15, mp_16, mp_17, mp_18, mp_19, mp_20, mi_0, M_in, x_w0, x_w1, x_wle, x_b_t h1]
          rw [k2]
          simp (decide := true) only [s_162_18, s_162_24, s_162_28, Option.bind_some, x_tlv, x_tln, if_true, if_false, m_wa_1, m_wa_s, m_wb_1, m_wb_2, m_wb_s, m_ws_1, m_ws_b, m_ws_s, m_ws_e, m_we_1, m_we_b, m_we_s, m_we_e, mf_0, mf_1, mf_2, mf_3, mf_4, mf_5, mf_6, mf_7, mf_8, mf_9, mf_10, mf_11, mf_12, mf_13, mf_14, mf_15, mf_16, mf_17, mf_18, mf_19, mf_20, mf_21, mf_22, mf_23, mf_24, mf_25, mf_26, mf_27, mf_28, mf_29, mf_30, mp_4, mp_7, mp_9, mp_10, mp_12, mp_14, mp_15, mp_16, mp_17, mp_18, mp_19, mp_20, mi_0, e1, hw0]
      · obtain ⟨F3, G3, k3⟩ := M_becomes (σ := σ) (μ := μ) (D := 0) (u := a) 27 hU hT c4.1 ht (by omega) (by omega) F2 G2
        have k3 : x_R x_P 29 160 [.ref 0, .int (nI a), .int 0] (MG (VV μ F2 G2)) = _ := k3
        refine ⟨eN (mk μ 0 T a 4), WW σ F1 G1, VV μ F3 G3, ?_, ?_, SIM_WV hS' _ _ _ _⟩
        · rw [r_89, s_89_0, if_neg g1, s_89_4, if_pos h1.2, s_89_12]
          refine Eq.trans k1 ?_
          rw [s_89_69, if_neg e1, s_89_76, if_neg hw0, s_89_84]
        · simp (decide := true) only [r_162, s_162_0, s_162_7, s_162_13, Option.bind_some, x_tlv, x_tln, if_true, if_false, m_wa_1, m_wa_s, m_wb_1, m_wb_2, m_wb_s, m_ws_1, m_ws_b, m_ws_s, m_ws_e, m_we_1, m_we_b, m_we_s, m_we_e, mf_0, mf_1, mf_2, mf_3, mf_4, mf_5, mf_6, mf_7, mf_8, mf_9, mf_10, mf_11, mf_12, mf_13, mf_14, mf_15, mf_16, mf_17, mf_18, mf_19, mf_20, mf_21, mf_22, mf_23, mf_24, mf_25, mf_26, mf_27, mf_28, mf_29, mf_30, mp_4, mp_7, mp_9, mp_10, mp_12, mp_14, mp_15, mp_16, mp_17, mp_18, mp_19, mp_20, mi_0, M_in, x_w0, x_w1, x_wle, x_b_t h1]
          rw [k2]
          simp (decide := true) only [s_162_18, s_162_24, s_162_32, Option.bind_some, x_tlv, x_tln, if_true, if_false, m_wa_1, m_wa_s, m_wb_1, m_wb_2, m_wb_s, m_ws_1, m_ws_b, m_ws_s, m_ws_e, m_we_1, m_we_b, m_we_s, m_we_e, mf_0, mf_1, mf_2, mf_3, mf_4, mf_5, mf_6, mf_7, mf_8, mf_9, mf_10, mf_11, mf_12, mf_13, mf_14, mf_15, mf_16, mf_17, mf_18, mf_19, mf_20, mf_21, mf_22, mf_23, mf_24, mf_25, mf_26, mf_27, mf_28, mf_29, mf_30, mp_4, mp_7, mp_9, mp_10, mp_12, mp_14, mp_15, mp_16, mp_17, mp_18, mp_19, mp_20, mi_0, e1, hw0]
          rw [k3]
          simp (decide := true) only [s_162_38, Option.bind_some, x_tlv, x_tln, if_true, if_false, m_wa_1, m_wa_s, m_wb_1, m_wb_2, m_wb_s, m_ws_1, m_ws_b, m_ws_s, m_ws_e, m_we_1, m_we_b, m_we_s, m_we_e, mf_0, mf_1, mf_2, mf_3, mf_4, mf_5, mf_6, mf_7, mf_8, mf_9, mf_10, mf_11, mf_12, mf_13, mf_14, mf_15, mf_16, mf_17, mf_18, mf_19, mf_20, mf_21, mf_22, mf_23, mf_24, mf_25, mf_26, mf_27, mf_28, mf_29, mf_30, mp_4, mp_7, mp_9, mp_10, mp_12, mp_14, mp_15, mp_16, mp_17, mp_18, mp_19, mp_20, mi_0]
  · refine ⟨-1000000002, σ, μ, ?_, ?_, hS'⟩
    · rw [r_89, s_89_0]
      by_cases h0 : w < 0
      · rw [if_pos h0, s_89_9]
      · rw [if_neg h0, s_89_4, if_neg (fun z => h1 ⟨Int32.not_lt.mp h0, z⟩), s_89_9]
    · simp (decide := true) only [r_162, s_162_0, s_162_7, s_162_10, Option.bind_some, x_tlv, x_tln, if_true, if_false, m_wa_1, m_wa_s, m_wb_1, m_wb_2, m_wb_s, m_ws_1, m_ws_b, m_ws_s, m_ws_e, m_we_1, m_we_b, m_we_s, m_we_e, mf_0, mf_1, mf_2, mf_3, mf_4, mf_5, mf_6, mf_7, mf_8, mf_9, mf_10, mf_11, mf_12, mf_13, mf_14, mf_15, mf_16, mf_17, mf_18, mf_19, mf_20, mf_21, mf_22, mf_23, mf_24, mf_25, mf_26, mf_27, mf_28, mf_29, mf_30, mp_4, mp_7, mp_9, mp_10, mp_12, mp_14, mp_15, mp_16, mp_17, mp_18, mp_19, mp_20, mi_0, M_in, x_w0, x_w1, x_wle, x_b_f h1]
/-- so high dues that nobody gains -/
def fin (μ : x_U) (T U D : Nat) : Prop := ∀ w, w < U → mk μ D T w 4 ≤ 21
theorem C_up {σ : x_S} {μ : x_U} {U T : Nat} (u : Nat) (hU : U ≤ 6) (hT : T ≤ 8) (c4 : σ.2 7 1 = nI T) (ht : S_tab σ μ U T) (hu : u < U) : ∀ m D (F G : Nat → Int32), D + m = 100 → ∃ D' F' G', D ≤ D' ∧ D' ≤ 100 ∧ (∀ E, D ≤ E → E < D' → ¬ fin μ T U E) ∧ (D' < 100 → mk μ D' T u 4 ≤ 21) ∧ x_E x_P 29 x_c90 18 [.ref 0, .int (nI D), .int (nI u)] [] (CG (WW σ F G)) = x_E x_P 29 x_c90 4 [.ref 0, .int (nI D'), .int (nI (u + 1))] [] (CG (WW σ F' G')) := by
  have hTT : ∀ t, t < T → 1 ≤ tGv μ t ∧ tGt μ t ≤ 20 := fun t h => ⟨(TB.of hU ht h).g1, (TB.of hU ht h).h2⟩
  intro m
  induction m with
  | zero =>
    intro D F G hm
    obtain rfl : D = 100 := by omega
    have e : (99 : Int32) < nI 100 := by decide
    refine ⟨100, F, G, Nat.le_refl _, Nat.le_refl _, fun E h1 h2 => by omega, fun h => by omega, ?_⟩
    rw [s_90_18, if_pos e, s_90_48, nI_1]
  | succ m ih =>
    intro D F G hm
    have e : ¬ (99 : Int32) < nI D := nI_nlt (a := 99) (by omega) (by omega)
    obtain ⟨F1, G1, h1⟩ := C_mostRound (σ := σ) (μ := μ) (D := D) (u := u) 24 hU hT c4 ht (by omega) (by omega) F G
    have b1 := mk_le (D := D) (u := u) hTT 4 (by omega)
    by_cases hl : mk μ D T u 4 ≤ 21
    · have e1 : eN (mk μ D T u 4) ≤ 20 := (eN_le (b := 21) (by omega) (by omega)).mpr hl
      refine ⟨D, F1, G1, Nat.le_refl _, by omega, fun E h1 h2 => by omega, fun _ => hl, ?_⟩
      rw [s_90_18, if_neg e]; simp (decide := true) only [s_90_24, s_90_28, s_90_32, Option.bind_some, x_tlv, x_tln, if_true, if_false, cr_isa, R_at, R_has, R_size, R_put, R_isFull, R_add, R_clear, c_has_eq, c_wa_1, c_wa_2, c_ws_1, c_ws_2, cf_0_0, cf_0_1, cf_0_2, cf_0_3, cf_0_4, cf_0_5, cf_0_6, cf_0_7, cf_0_8, cf_0_9, cf_0_10, cf_0_11, cf_0_12, cf_0_13, cp_0_12, cp_0_13, ci_0, cf_1_0, cf_1_1, cf_1_2, cf_1_3, cf_1_4, cp_1_1, cp_1_2, cp_1_3, cp_1_4, ci_1, cf_4_0, cf_4_1, cf_4_2, cf_4_3, cf_4_4, cf_4_5, cf_4_6, cf_4_7, cf_4_8, cf_4_9, cf_4_10, cp_4_0, cp_4_1, ci_4, cf_23_0, cf_23_1, cf_23_2, cf_23_3, cf_23_4, cf_23_5, cf_23_6, cf_23_7, cf_23_8, cf_23_9, cf_23_10, cp_23_0, cp_23_1, ci_23, cf_42_0, cf_42_1, cf_42_2, cf_42_3, cp_42_2, cp_42_3, ci_42, cf_47_0, cf_47_1, cf_47_2, cp_47_1, cp_47_2, ci_47, cf_50_0, cf_50_1, cf_50_2, ci_50, cf_57_0, cf_57_1, ci_57, cf_62_0, cf_62_1, ci_62, cf_67_0, cf_67_1, cf_67_2, cf_67_3, cf_67_4, cf_67_5, cp_67_1, cp_67_2, ci_67, cf_76_0, cf_76_1, cf_76_2, cf_76_3, cf_76_4, cf_76_5, cp_76_1, cp_76_2, cp_76_3, ci_76]
      rw [h1]
      simp (decide := true) only [s_90_37, s_90_48, Option.bind_some, x_tlv, x_tln, if_true, if_false, cr_isa, R_at, R_has, R_size, R_put, R_isFull, R_add, R_clear, c_has_eq, c_wa_1, c_wa_2, c_ws_1, c_ws_2, cf_0_0, cf_0_1, cf_0_2, cf_0_3, cf_0_4, cf_0_5, cf_0_6, cf_0_7, cf_0_8, cf_0_9, cf_0_10, cf_0_11, cf_0_12, cf_0_13, cp_0_12, cp_0_13, ci_0, cf_1_0, cf_1_1, cf_1_2, cf_1_3, cf_1_4, cp_1_1, cp_1_2, cp_1_3, cp_1_4, ci_1, cf_4_0, cf_4_1, cf_4_2, cf_4_3, cf_4_4, cf_4_5, cf_4_6, cf_4_7, cf_4_8, cf_4_9, cf_4_10, cp_4_0, cp_4_1, ci_4, cf_23_0, cf_23_1, cf_23_2, cf_23_3, cf_23_4, cf_23_5, cf_23_6, cf_23_7, cf_23_8, cf_23_9, cf_23_10, cp_23_0, cp_23_1, ci_23, cf_42_0, cf_42_1, cf_42_2, cf_42_3, cp_42_2, cp_42_3, ci_42, cf_47_0, cf_47_1, cf_47_2, cp_47_1, cp_47_2, ci_47, cf_50_0, cf_50_1, cf_50_2, ci_50, cf_57_0, cf_57_1, ci_57, cf_62_0, cf_62_1, ci_62, cf_67_0, cf_67_1, cf_67_2, cf_67_3, cf_67_4, cf_67_5, cp_67_1, cp_67_2, ci_67, cf_76_0, cf_76_1, cf_76_2, cf_76_3, cf_76_4, cf_76_5, cp_76_1, cp_76_2, cp_76_3, ci_76, e1, nI_1]
    · have e1 : ¬ eN (mk μ D T u 4) ≤ 20 := fun q => hl ((eN_le (b := 21) (by omega) (by omega)).mp q)
      obtain ⟨D', F', G', j1, j2, j3, j4, j5⟩ := ih (D + 1) F1 G1 (by omega)
      refine ⟨D', F', G', by omega, j2, fun E q1 q2 q3 => ?_, j4, ?_⟩
      · by_cases hE : E = D
        · subst hE; exact hl (q3 u hu)
        · exact j3 E (by omega) q2 q3
      · rw [s_90_18, if_neg e]; simp (decide := true) only [s_90_24, s_90_28, s_90_32, Option.bind_some, x_tlv, x_tln, if_true, if_false, cr_isa, R_at, R_has, R_size, R_put, R_isFull, R_add, R_clear, c_has_eq, c_wa_1, c_wa_2, c_ws_1, c_ws_2, cf_0_0, cf_0_1, cf_0_2, cf_0_3, cf_0_4, cf_0_5, cf_0_6, cf_0_7, cf_0_8, cf_0_9, cf_0_10, cf_0_11, cf_0_12, cf_0_13, cp_0_12, cp_0_13, ci_0, cf_1_0, cf_1_1, cf_1_2, cf_1_3, cf_1_4, cp_1_1, cp_1_2, cp_1_3, cp_1_4, ci_1, cf_4_0, cf_4_1, cf_4_2, cf_4_3, cf_4_4, cf_4_5, cf_4_6, cf_4_7, cf_4_8, cf_4_9, cf_4_10, cp_4_0, cp_4_1, ci_4, cf_23_0, cf_23_1, cf_23_2, cf_23_3, cf_23_4, cf_23_5, cf_23_6, cf_23_7, cf_23_8, cf_23_9, cf_23_10, cp_23_0, cp_23_1, ci_23, cf_42_0, cf_42_1, cf_42_2, cf_42_3, cp_42_2, cp_42_3, ci_42, cf_47_0, cf_47_1, cf_47_2, cp_47_1, cp_47_2, ci_47, cf_50_0, cf_50_1, cf_50_2, ci_50, cf_57_0, cf_57_1, ci_57, cf_62_0, cf_62_1, ci_62, cf_67_0, cf_67_1, cf_67_2, cf_67_3, cf_67_4, cf_67_5, cp_67_1, cp_67_2, ci_67, cf_76_0, cf_76_1, cf_76_2, cf_76_3, cf_76_4, cf_76_5, cp_76_1, cp_76_2, cp_76_3, ci_76]
        rw [h1]
        simp (decide := true) only [s_90_37, s_90_42, Option.bind_some, x_tlv, x_tln, if_true, if_false, cr_isa, R_at, R_has, R_size, R_put, R_isFull, R_add, R_clear, c_has_eq, c_wa_1, c_wa_2, c_ws_1, c_ws_2, cf_0_0, cf_0_1, cf_0_2, cf_0_3, cf_0_4, cf_0_5, cf_0_6, cf_0_7, cf_0_8, cf_0_9, cf_0_10, cf_0_11, cf_0_12, cf_0_13, cp_0_12, cp_0_13, ci_0, cf_1_0, cf_1_1, cf_1_2, cf_1_3, cf_1_4, cp_1_1, cp_1_2, cp_1_3, cp_1_4, ci_1, cf_4_0, cf_4_1, cf_4_2, cf_4_3, cf_4_4, cf_4_5, cf_4_6, cf_4_7, cf_4_8, cf_4_9, cf_4_10, cp_4_0, cp_4_1, ci_4, cf_23_0, cf_23_1, cf_23_2, cf_23_3, cf_23_4, cf_23_5, cf_23_6, cf_23_7, cf_23_8, cf_23_9, cf_23_10, cp_23_0, cp_23_1, ci_23, cf_42_0, cf_42_1, cf_42_2, cf_42_3, cp_42_2, cp_42_3, ci_42, cf_47_0, cf_47_1, cf_47_2, cp_47_1, cp_47_2, ci_47, cf_50_0, cf_50_1, cf_50_2, ci_50, cf_57_0, cf_57_1, ci_57, cf_62_0, cf_62_1, ci_62, cf_67_0, cf_67_1, cf_67_2, cf_67_3, cf_67_4, cf_67_5, cp_67_1, cp_67_2, ci_67, cf_76_0, cf_76_1, cf_76_2, cf_76_3, cf_76_4, cf_76_5, cp_76_1, cp_76_2, cp_76_3, ci_76, e1, nI_1]
        exact j5
theorem C_ld {σ : x_S} {μ : x_U} {U T : Nat} (hU : U ≤ 6) (hT : T ≤ 8) (c3 : σ.2 5 1 = nI U) (c4 : σ.2 7 1 = nI T) (ht : S_tab σ μ U T) : ∀ m u D (F G : Nat → Int32), u + m = U → D ≤ 100 → (∀ E, E < D → ¬ fin μ T U E) → (D < 100 → ∀ w, w < u → mk μ D T w 4 ≤ 21) → ∃ D' F' G', D' ≤ 100 ∧ (∀ E, E < D' → ¬ fin μ T U E) ∧ (D' < 100 → fin μ T U D') ∧ x_E x_P 29 x_c90 4 [.ref 0, .int (nI D), .int (nI u)] [] (CG (WW σ F G)) = some (some (.int (if D' < 100 then nI D' else -1)), CG (WW σ F' G')) := by
  have cw : ∀ F G, (WW σ F G).2 5 1 = nI U := fun _ _ => c3
  intro m
  induction m with
  | zero =>
    intro u D F G hm hD h1 h2
    obtain rfl : u = U := by omega
    refine ⟨D, F, G, hD, h1, h2, ?_⟩
    by_cases h : D < 100
    · have e : ¬ (99 : Int32) < nI D := nI_nlt (a := 99) (by omega) (by omega)
      rw [s_90_4]; simp (decide := true) only [s_90_9, s_90_12, s_90_15, s_90_54, s_90_60, Option.bind_some, x_tlv, x_tln, if_true, if_false, cr_isa, R_at, R_has, R_size, R_put, R_isFull, R_add, R_clear, c_has_eq, c_wa_1, c_wa_2, c_ws_1, c_ws_2, cf_0_0, cf_0_1, cf_0_2, cf_0_3, cf_0_4, cf_0_5, cf_0_6, cf_0_7, cf_0_8, cf_0_9, cf_0_10, cf_0_11, cf_0_12, cf_0_13, cp_0_12, cp_0_13, ci_0, cf_1_0, cf_1_1, cf_1_2, cf_1_3, cf_1_4, cp_1_1, cp_1_2, cp_1_3, cp_1_4, ci_1, cf_4_0, cf_4_1, cf_4_2, cf_4_3, cf_4_4, cf_4_5, cf_4_6, cf_4_7, cf_4_8, cf_4_9, cf_4_10, cp_4_0, cp_4_1, ci_4, cf_23_0, cf_23_1, cf_23_2, cf_23_3, cf_23_4, cf_23_5, cf_23_6, cf_23_7, cf_23_8, cf_23_9, cf_23_10, cp_23_0, cp_23_1, ci_23, cf_42_0, cf_42_1, cf_42_2, cf_42_3, cp_42_2, cp_42_3, ci_42, cf_47_0, cf_47_1, cf_47_2, cp_47_1, cp_47_2, ci_47, cf_50_0, cf_50_1, cf_50_2, ci_50, cf_57_0, cf_57_1, ci_57, cf_62_0, cf_62_1, ci_62, cf_67_0, cf_67_1, cf_67_2, cf_67_3, cf_67_4, cf_67_5, cp_67_1, cp_67_2, ci_67, cf_76_0, cf_76_1, cf_76_2, cf_76_3, cf_76_4, cf_76_5, cp_76_1, cp_76_2, cp_76_3, ci_76, cw, Int32.le_refl, e, h]
    · have e : (99 : Int32) < nI D := nI_lt (a := 99) (by omega) (by omega)
      rw [s_90_4]; simp (decide := true) only [s_90_9, s_90_12, s_90_15, s_90_54, s_90_64, Option.bind_some, x_tlv, x_tln, if_true, if_false, cr_isa, R_at, R_has, R_size, R_put, R_isFull, R_add, R_clear, c_has_eq, c_wa_1, c_wa_2, c_ws_1, c_ws_2, cf_0_0, cf_0_1, cf_0_2, cf_0_3, cf_0_4, cf_0_5, cf_0_6, cf_0_7, cf_0_8, cf_0_9, cf_0_10, cf_0_11, cf_0_12, cf_0_13, cp_0_12, cp_0_13, ci_0, cf_1_0, cf_1_1, cf_1_2, cf_1_3, cf_1_4, cp_1_1, cp_1_2, cp_1_3, cp_1_4, ci_1, cf_4_0, cf_4_1, cf_4_2, cf_4_3, cf_4_4, cf_4_5, cf_4_6, cf_4_7, cf_4_8, cf_4_9, cf_4_10, cp_4_0, cp_4_1, ci_4, cf_23_0, cf_23_1, cf_23_2, cf_23_3, cf_23_4, cf_23_5, cf_23_6, cf_23_7, cf_23_8, cf_23_9, cf_23_10, cp_23_0, cp_23_1, ci_23, cf_42_0, cf_42_1, cf_42_2, cf_42_3, cp_42_2, cp_42_3, ci_42, cf_47_0, cf_47_1, cf_47_2, cp_47_1, cp_47_2, ci_47, cf_50_0, cf_50_1, cf_50_2, ci_50, cf_57_0, cf_57_1, ci_57, cf_62_0, cf_62_1, ci_62, cf_67_0, cf_67_1, cf_67_2, cf_67_3, cf_67_4, cf_67_5, cp_67_1, cp_67_2, ci_67, cf_76_0, cf_76_1, cf_76_2, cf_76_3, cf_76_4, cf_76_5, cp_76_1, cp_76_2, cp_76_3, ci_76, cw, Int32.le_refl, e, h]
  | succ m ih =>
    intro u D F G hm hD h1 h2
    have e0 : ¬ nI U ≤ nI u := nI_ge (by omega) (by omega)
    obtain ⟨D1, F1, G1, j1, j2, j3, j4, j5⟩ := C_up (σ := σ) (μ := μ) u hU hT c4 ht (by omega) (100 - D) D F G (by omega)
    obtain ⟨D', F', G', i1, i2, i3, i4⟩ := ih (u + 1) D1 F1 G1 (by omega) j2 (fun E q => by
      by_cases hE : E < D
      · exact h1 E hE
      · exact j3 E (by omega) q) (fun q w hw => by
      by_cases hwu : w = u
      · subst hwu; exact j4 q
      · exact Nat.le_trans (mk_mono j1 (by omega) 4) (h2 (by omega) w (by omega)))
    refine ⟨D', F', G', i1, i2, i3, ?_⟩
    rw [s_90_4]; simp (decide := true) only [s_90_9, s_90_12, s_90_15, Option.bind_some, x_tlv, x_tln, if_true, if_false, cr_isa, R_at, R_has, R_size, R_put, R_isFull, R_add, R_clear, c_has_eq, c_wa_1, c_wa_2, c_ws_1, c_ws_2, cf_0_0, cf_0_1, cf_0_2, cf_0_3, cf_0_4, cf_0_5, cf_0_6, cf_0_7, cf_0_8, cf_0_9, cf_0_10, cf_0_11, cf_0_12, cf_0_13, cp_0_12, cp_0_13, ci_0, cf_1_0, cf_1_1, cf_1_2, cf_1_3, cf_1_4, cp_1_1, cp_1_2, cp_1_3, cp_1_4, ci_1, cf_4_0, cf_4_1, cf_4_2, cf_4_3, cf_4_4, cf_4_5, cf_4_6, cf_4_7, cf_4_8, cf_4_9, cf_4_10, cp_4_0, cp_4_1, ci_4, cf_23_0, cf_23_1, cf_23_2, cf_23_3, cf_23_4, cf_23_5, cf_23_6, cf_23_7, cf_23_8, cf_23_9, cf_23_10, cp_23_0, cp_23_1, ci_23, cf_42_0, cf_42_1, cf_42_2, cf_42_3, cp_42_2, cp_42_3, ci_42, cf_47_0, cf_47_1, cf_47_2, cp_47_1, cp_47_2, ci_47, cf_50_0, cf_50_1, cf_50_2, ci_50, cf_57_0, cf_57_1, ci_57, cf_62_0, cf_62_1, ci_62, cf_67_0, cf_67_1, cf_67_2, cf_67_3, cf_67_4, cf_67_5, cp_67_1, cp_67_2, ci_67, cf_76_0, cf_76_1, cf_76_2, cf_76_3, cf_76_4, cf_76_5, cp_76_1, cp_76_2, cp_76_3, ci_76, cw, e0]
    exact j5.trans i4
theorem M_ld {σ : x_S} {μ : x_U} {U T D' : Nat} (hU : U ≤ 6) (hT : T ≤ 8) (c3 : μ.1 1 2 = nI U) (c4 : μ.1 1 3 = nI T) (ht : S_tab σ μ U T) (h0 : D' ≤ 100) (h1 : ∀ E, E < D' → ¬ fin μ T U E) (h2 : D' < 100 → fin μ T U D') : ∀ m D (F G : Nat → Int32), D + m = D' → ∃ F' G', x_E x_P 29 x_c163 2 [.ref 0, .int (nI D)] [] (MG (VV μ F G)) = some (some (.int (if D' < 100 then nI D' else -1)), MG (VV μ F' G')) := by
  have hfin : ∀ D, (gn μ D T U 0 0 21).1 = 0 ↔ fin μ T U D := fun D => by
    rw [gn_none]
    exact ⟨fun z w hw => z w (by omega) (by omega), fun z w _ hw => z w (by omega)⟩
  have hb : ∀ D, (gn μ D T U 0 0 21).1 < 2 ^ 31 := fun D => by
    rcases gn_inv (μ := μ) (D := D) (T := T) (U := U) U 0 0 21 (by omega) (Or.inl ⟨rfl, rfl⟩) with ⟨i1, -⟩ | ⟨a, i1, i2, -⟩ <;> omega
  intro m
  induction m with
  | zero =>
    intro D F G hm
    obtain rfl : D = D' := by omega
    by_cases h : D < 100
    · have e : ¬ (100 : Int32) ≤ nI D := nI_ge (b := 100) (by omega) (by omega)
      obtain ⟨F1, G1, k1⟩ := M_gains (σ := σ) (μ := μ) (D := D) 26 hU hT c3 c4 ht h F G
      rw [(hfin D).mpr (h2 h), eN_0] at k1
      refine ⟨F1, G1, ?_⟩
      rw [s_163_2, if_neg e]; simp (decide := true) only [s_163_8, Option.bind_some, x_tlv, x_tln, if_true, if_false, m_wa_1, m_wa_s, m_wb_1, m_wb_2, m_wb_s, m_ws_1, m_ws_b, m_ws_s, m_ws_e, m_we_1, m_we_b, m_we_s, m_we_e, mf_0, mf_1, mf_2, mf_3, mf_4, mf_5, mf_6, mf_7, mf_8, mf_9, mf_10, mf_11, mf_12, mf_13, mf_14, mf_15, mf_16, mf_17, mf_18, mf_19, mf_20, mf_21, mf_22, mf_23, mf_24, mf_25, mf_26, mf_27, mf_28, mf_29, mf_30, mp_4, mp_7, mp_9, mp_10, mp_12, mp_14, mp_15, mp_16, mp_17, mp_18, mp_19, mp_20, mi_0]
      rw [k1]
      simp (decide := true) only [s_163_13, s_163_17, Option.bind_some, x_tlv, x_tln, if_true, if_false, m_wa_1, m_wa_s, m_wb_1, m_wb_2, m_wb_s, m_ws_1, m_ws_b, m_ws_s, m_ws_e, m_we_1, m_we_b, m_we_s, m_we_e, mf_0, mf_1, mf_2, mf_3, mf_4, mf_5, mf_6, mf_7, mf_8, mf_9, mf_10, mf_11, mf_12, mf_13, mf_14, mf_15, mf_16, mf_17, mf_18, mf_19, mf_20, mf_21, mf_22, mf_23, mf_24, mf_25, mf_26, mf_27, mf_28, mf_29, mf_30, mp_4, mp_7, mp_9, mp_10, mp_12, mp_14, mp_15, mp_16, mp_17, mp_18, mp_19, mp_20, mi_0, h]
    · have e : (100 : Int32) ≤ nI D := nI_le (a := 100) (by omega) (by omega)
      refine ⟨F, G, ?_⟩
      rw [s_163_2, if_pos e, s_163_25, if_neg h]
  | succ m ih =>
    intro D F G hm
    have e : ¬ (100 : Int32) ≤ nI D := nI_ge (b := 100) (by omega) (by omega)
    obtain ⟨F1, G1, k1⟩ := M_gains (σ := σ) (μ := μ) (D := D) 26 hU hT c3 c4 ht (by omega) F G
    have e1 : ¬ eN (gn μ D T U 0 0 21).1 = -1 := fun q => h1 D (by omega) ((hfin D).mp ((eN_neg (hb D)).mp q))
    obtain ⟨F', G', j1⟩ := ih (D + 1) F1 G1 (by omega)
    refine ⟨F', G', ?_⟩
    rw [s_163_2, if_neg e]; simp (decide := true) only [s_163_8, Option.bind_some, x_tlv, x_tln, if_true, if_false, m_wa_1, m_wa_s, m_wb_1, m_wb_2, m_wb_s, m_ws_1, m_ws_b, m_ws_s, m_ws_e, m_we_1, m_we_b, m_we_s, m_we_e, mf_0, mf_1, mf_2, mf_3, mf_4, mf_5, mf_6, mf_7, mf_8, mf_9, mf_10, mf_11, mf_12, mf_13, mf_14, mf_15, mf_16, mf_17, mf_18, mf_19, mf_20, mf_21, mf_22, mf_23, mf_24, mf_25, mf_26, mf_27, mf_28, mf_29, mf_30, mp_4, mp_7, mp_9, mp_10, mp_12, mp_14, mp_15, mp_16, mp_17, mp_18, mp_19, mp_20, mi_0]
    rw [k1]
    simp (decide := true) only [s_163_13, s_163_19, Option.bind_some, x_tlv, x_tln, if_true, if_false, m_wa_1, m_wa_s, m_wb_1, m_wb_2, m_wb_s, m_ws_1, m_ws_b, m_ws_s, m_ws_e, m_we_1, m_we_b, m_we_s, m_we_e, mf_0, mf_1, mf_2, mf_3, mf_4, mf_5, mf_6, mf_7, mf_8, mf_9, mf_10, mf_11, mf_12, mf_13, mf_14, mf_15, mf_16, mf_17, mf_18, mf_19, mf_20, mf_21, mf_22, mf_23, mf_24, mf_25, mf_26, mf_27, mf_28, mf_29, mf_30, mp_4, mp_7, mp_9, mp_10, mp_12, mp_14, mp_15, mp_16, mp_17, mp_18, mp_19, mp_20, mi_0, e1, nI_1]
    exact j1
theorem sim_leastDues : Sim 90 163 [] := Sim.of fun σ μ hS => by
  have hS' := hS
  obtain ⟨U, T, P, N, ⟨⟨hU, hT, hP, hN⟩, c1, c2, c3, c4, c5, c6⟩, hu, ht, hp, hw, hn, hpa, hi, hl, hb, hx, hm⟩ := hS
  obtain ⟨D', F1, G1, i1, i2, i3, i4⟩ := C_ld (σ := σ) (μ := μ) hU hT c3.2 c4.2 ht U 0 0 (σ.1 73) (σ.1 75) (by omega) (by omega) (fun E h => by omega) (fun _ w h => by omega)
  obtain ⟨F2, G2, k2⟩ := M_ld (σ := σ) (μ := μ) hU hT c3.1 c4.1 ht i1 i2 i3 D' 0 (μ.1 14) (μ.1 15) (by omega)
  rw [WW_id] at i4
  rw [VV_id] at k2
  refine ⟨if D' < 100 then nI D' else -1, WW σ F1 G1, VV μ F2 G2, ?_, ?_, SIM_WV hS' _ _ _ _⟩
  · rw [r_90, s_90_0]; exact i4
  · rw [r_163, s_163_0]; exact k2
