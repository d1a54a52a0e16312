/-! cut, turn, change -/
theorem blk_len {P U : Nat} {f g : Nat → Int32} {p : Nat} {v : Int32} (hP : P ≤ 6) (hp : p < P) (hv : Rg v 0 9999) (h : blk P U f g) : blk P U (upd f p v) (upd g p v) := by
  obtain ⟨h1, h2, h3, h4⟩ := h
  refine ⟨fun j hj => ?_, ?_, ?_, fun j h5 h6 => ?_⟩
  · rw [upd_n f p (6 + j) _ (by omega), upd_n g p (6 + j) _ (by omega)]
    by_cases hjp : j = p
    · subst hjp
      rw [upd_s, upd_s]
      exact ⟨rfl, hv, (h1 j hj).2.2⟩
    · rw [upd_n _ _ _ _ hjp, upd_n _ _ _ _ hjp]
      exact h1 j hj
  · rw [upd_n _ _ _ _ (by omega), upd_n _ _ _ _ (by omega)]; exact h2
  · rw [upd_n _ _ _ _ (by omega), upd_n _ _ _ _ (by omega)]; exact h3
  · rw [upd_n _ _ _ _ (by omega)]; exact h4 j h5 h6
theorem blk_use {P U : Nat} {f g : Nat → Int32} {p : Nat} {v : Int32} (hP : P ≤ 6) (hp : p < P) (hv : Rl v U) (h : blk P U f g) : blk P U (upd f (6 + p) v) (upd g (6 + p) v) := by
  obtain ⟨h1, h2, h3, h4⟩ := h
  refine ⟨fun j hj => ?_, ?_, ?_, fun j h5 h6 => ?_⟩
  · rw [upd_n f (6 + p) j _ (by omega), upd_n g (6 + p) j _ (by omega)]
    by_cases hjp : j = p
    · subst hjp
      rw [upd_s, upd_s]
      exact ⟨(h1 j hj).1, (h1 j hj).2.1, rfl, hv⟩
    · rw [upd_n _ _ (6 + j) _ (by omega), upd_n _ _ (6 + j) _ (by omega)]
      exact h1 j hj
  · rw [upd_n _ _ _ _ (by omega), upd_n _ _ _ _ (by omega)]; exact h2
  · rw [upd_n _ _ _ _ (by omega), upd_n _ _ _ _ (by omega)]; exact h3
  · rw [upd_n _ _ _ _ (by omega)]; exact h4 j h5 h6
theorem blk_12 {P U : Nat} {f g : Nat → Int32} {v : Int32} (hP : P ≤ 6) (hv : Rg v 0 999999) (h : blk P U f g) : blk P U (upd f 12 v) (upd g 12 v) := by
  obtain ⟨h1, h2, h3, h4⟩ := h
  refine ⟨fun j hj => ?_, ?_, ?_, fun j h5 h6 => ?_⟩
  · rw [upd_n _ _ _ _ (by omega), upd_n _ _ _ _ (by omega), upd_n _ _ (6 + j) _ (by omega), upd_n _ _ (6 + j) _ (by omega)]
    exact h1 j hj
  · rw [upd_s, upd_s]; exact ⟨rfl, hv⟩
  · rw [upd_n _ _ _ _ (by omega), upd_n _ _ _ _ (by omega)]; exact h3
  · rw [upd_n _ _ _ _ (by omega)]; exact h4 j h5 h6
theorem blk_13 {P U : Nat} {f g : Nat → Int32} {v : Int32} (hP : P ≤ 6) (hv : Rg v 0 999999) (h : blk P U f g) : blk P U (upd f 13 v) (upd g 13 v) := by
  obtain ⟨h1, h2, h3, h4⟩ := h
  refine ⟨fun j hj => ?_, ?_, ?_, fun j h5 h6 => ?_⟩
  · rw [upd_n _ _ _ _ (by omega), upd_n _ _ _ _ (by omega), upd_n _ _ (6 + j) _ (by omega), upd_n _ _ (6 + j) _ (by omega)]
    exact h1 j hj
  · rw [upd_n _ _ _ _ (by omega), upd_n _ _ _ _ (by omega)]; exact h2
  · rw [upd_s, upd_s]; exact ⟨rfl, hv⟩
  · rw [upd_n _ _ _ _ (by omega)]; exact h4 j h5 h6
/-- the class's fourteen as each of its cells is written -/
theorem n14_44 (σ : x_S) {p k : Nat} {v : Int32} (hp : p < 6) : n14 (c_wa σ 44 (upd (σ.1 44) p v)) k = upd (n14 σ) p v k := by
  simp only [n14, upd]
  by_cases h : k = p
  · subst h
    rw [if_pos hp, if_pos rfl]
    show (if k = k then v else _) = _
    rw [if_pos rfl]
  · rw [if_neg h]
    by_cases h6 : k < 6
    · rw [if_pos h6, if_pos h6]
      show (if k = p then v else σ.1 44 k) = _
      rw [if_neg h]
    · rw [if_neg h6, if_neg h6]
      rfl
theorem n14_46 (σ : x_S) {p k : Nat} {v : Int32} (hp : p < 6) : n14 (c_wa σ 46 (upd (σ.1 46) p v)) k = upd (n14 σ) (6 + p) v k := by
  simp only [n14, upd]
  by_cases h6 : k < 6
  · rw [if_pos h6, if_neg (show ¬ k = 6 + p by omega), if_pos h6]
    rfl
  · rw [if_neg h6]
    by_cases h12 : k < 12
    · rw [if_pos h12, if_neg h6, if_pos h12]
      show (if k - 6 = p then v else σ.1 46 (k - 6)) = _
      by_cases h : k = 6 + p
      · rw [if_pos h, if_pos (by omega)]
      · rw [if_neg h, if_neg (by omega)]
    · rw [if_neg h12, if_neg (show ¬ k = 6 + p by omega), if_neg h6, if_neg h12]
      rfl
theorem n14_s2 (σ : x_S) {k : Nat} {v : Int32} : n14 (c_ws σ 42 2 v) k = upd (n14 σ) 12 v k := by
  simp only [n14, upd]
  by_cases h : k = 12
  · subst h; rfl
  · rw [if_neg h, if_neg h, if_neg h]
    rfl
theorem n14_s3 (σ : x_S) {k : Nat} {v : Int32} (hk : k < 14) : n14 (c_ws σ 42 3 v) k = upd (n14 σ) 13 v k := by
  simp only [n14, upd]
  by_cases h : k = 13
  · subst h; rfl
  · rw [if_neg h]
    by_cases h6 : k < 6
    · rw [if_pos h6, if_pos h6]; rfl
    · rw [if_neg h6, if_neg h6]
      by_cases h12 : k < 12
      · rw [if_pos h12, if_pos h12]; rfl
      · rw [if_neg h12, if_neg h12, if_pos (by omega), if_pos (by omega)]; rfl
theorem sim_cut (p u n : Int32) : Sim 80 144 [.int p, .int u, .int n] := Sim.of fun σ μ hS => by
  have hS' := hS
  obtain ⟨U, T, P, N, hc, hu, ht, hp, hw, ⟨n1, n2, nb⟩, hpa, hi, hl, hb, hx, hm⟩ := hS
  have hc' := hc
  obtain ⟨⟨hU, hT, hP, hN⟩, c1, c2, c3, c4, c5, c6⟩ := hc'
  rcases x_hv_cases (U := P) (by omega) p with h | ⟨k, hk, rfl, h⟩
  · refine ⟨-1000000001, σ, μ, ?_, ?_, hS'⟩
    · simp (decide := true) only [r_80, s_80_0, s_80_4, s_80_7, s_80_11, s_80_14, s_80_18, s_80_21, s_80_25, s_80_28, s_80_31, s_80_36, s_80_42, s_80_45, s_80_49, s_80_52, s_80_56, s_80_61, s_80_64, s_80_68, s_80_77, s_80_80, s_80_84, s_80_88, s_80_91, s_80_95, s_80_98, s_80_104, Option.bind_some, x_tlv, x_tln, if_true, if_false, cr_isa, R_at, R_has, R_size, R_put, R_isFull, R_add, R_clear, c_has_eq, c_wa_1, c_wa_2, c_ws_1, c_ws_2, cf_0_0, cf_0_1, cf_0_2, cf_0_3, cf_0_4, cf_0_5, cf_0_6, cf_0_7, cf_0_8, cf_0_9, cf_0_10, cf_0_11, cf_0_12, cf_0_13, cp_0_12, cp_0_13, ci_0, cf_1_0, cf_1_1, cf_1_2, cf_1_3, cf_1_4, cp_1_1, cp_1_2, cp_1_3, cp_1_4, ci_1, cf_4_0, cf_4_1, cf_4_2, cf_4_3, cf_4_4, cf_4_5, cf_4_6, cf_4_7, cf_4_8, cf_4_9, cf_4_10, cp_4_0, cp_4_1, ci_4, cf_23_0, cf_23_1, cf_23_2, cf_23_3, cf_23_4, cf_23_5, cf_23_6, cf_23_7, cf_23_8, cf_23_9, cf_23_10, cp_23_0, cp_23_1, ci_23, cf_42_0, cf_42_1, cf_42_2, cf_42_3, cp_42_2, cp_42_3, ci_42, cf_47_0, cf_47_1, cf_47_2, cp_47_1, cp_47_2, ci_47, cf_50_0, cf_50_1, cf_50_2, ci_50, cf_57_0, cf_57_1, ci_57, cf_62_0, cf_62_1, ci_62, cf_67_0, cf_67_1, cf_67_2, cf_67_3, cf_67_4, cf_67_5, cp_67_1, cp_67_2, ci_67, cf_76_0, cf_76_1, cf_76_2, cf_76_3, cf_76_4, cf_76_5, cp_76_1, cp_76_2, cp_76_3, ci_76, c5.2, h]
    · simp (decide := true) only [r_144, s_144_0, s_144_5, s_144_8, s_144_13, s_144_16, s_144_19, s_144_28, s_144_31, s_144_34, s_144_39, s_144_44, s_144_51, s_144_55, s_144_60, s_144_63, s_144_67, s_144_71, s_144_76, s_144_80, s_144_84, s_144_88, Option.bind_some, x_tlv, x_tln, if_true, if_false, m_wa_1, m_wa_s, m_wb_1, m_wb_2, m_wb_s, m_ws_1, m_ws_b, m_ws_s, m_ws_e, m_we_1, m_we_b, m_we_s, m_we_e, mf_0, mf_1, mf_2, mf_3, mf_4, mf_5, mf_6, mf_7, mf_8, mf_9, mf_10, mf_11, mf_12, mf_13, mf_14, mf_15, mf_16, mf_17, mf_18, mf_19, mf_20, mf_21, mf_22, mf_23, mf_24, mf_25, mf_26, mf_27, mf_28, mf_29, mf_30, mp_4, mp_7, mp_9, mp_10, mp_12, mp_14, mp_15, mp_16, mp_17, mp_18, mp_19, mp_20, mi_0, M_isPiece _ _ (show P < 1000 by omega) c5.1, h]
  rcases x_hv_cases (U := U) (by omega) u with h2 | ⟨a, ha, rfl, h2⟩
  · refine ⟨-1000000001, σ, μ, ?_, ?_, hS'⟩
    · simp (decide := true) only [r_80, s_80_0, s_80_4, s_80_7, s_80_11, s_80_14, s_80_18, s_80_21, s_80_25, s_80_28, s_80_31, s_80_36, s_80_42, s_80_45, s_80_49, s_80_52, s_80_56, s_80_61, s_80_64, s_80_68, s_80_77, s_80_80, s_80_84, s_80_88, s_80_91, s_80_95, s_80_98, s_80_104, Option.bind_some, x_tlv, x_tln, if_true, if_false, cr_isa, R_at, R_has, R_size, R_put, R_isFull, R_add, R_clear, c_has_eq, c_wa_1, c_wa_2, c_ws_1, c_ws_2, cf_0_0, cf_0_1, cf_0_2, cf_0_3, cf_0_4, cf_0_5, cf_0_6, cf_0_7, cf_0_8, cf_0_9, cf_0_10, cf_0_11, cf_0_12, cf_0_13, cp_0_12, cp_0_13, ci_0, cf_1_0, cf_1_1, cf_1_2, cf_1_3, cf_1_4, cp_1_1, cp_1_2, cp_1_3, cp_1_4, ci_1, cf_4_0, cf_4_1, cf_4_2, cf_4_3, cf_4_4, cf_4_5, cf_4_6, cf_4_7, cf_4_8, cf_4_9, cf_4_10, cp_4_0, cp_4_1, ci_4, cf_23_0, cf_23_1, cf_23_2, cf_23_3, cf_23_4, cf_23_5, cf_23_6, cf_23_7, cf_23_8, cf_23_9, cf_23_10, cp_23_0, cp_23_1, ci_23, cf_42_0, cf_42_1, cf_42_2, cf_42_3, cp_42_2, cp_42_3, ci_42, cf_47_0, cf_47_1, cf_47_2, cp_47_1, cp_47_2, ci_47, cf_50_0, cf_50_1, cf_50_2, ci_50, cf_57_0, cf_57_1, ci_57, cf_62_0, cf_62_1, ci_62, cf_67_0, cf_67_1, cf_67_2, cf_67_3, cf_67_4, cf_67_5, cp_67_1, cp_67_2, ci_67, cf_76_0, cf_76_1, cf_76_2, cf_76_3, cf_76_4, cf_76_5, cp_76_1, cp_76_2, cp_76_3, ci_76, c5.2, h, c3.2, h2]
    · simp (decide := true) only [r_144, s_144_0, s_144_5, s_144_8, s_144_13, s_144_16, s_144_19, s_144_28, s_144_31, s_144_34, s_144_39, s_144_44, s_144_51, s_144_55, s_144_60, s_144_63, s_144_67, s_144_71, s_144_76, s_144_80, s_144_84, s_144_88, Option.bind_some, x_tlv, x_tln, if_true, if_false, m_wa_1, m_wa_s, m_wb_1, m_wb_2, m_wb_s, m_ws_1, m_ws_b, m_ws_s, m_ws_e, m_we_1, m_we_b, m_we_s, m_we_e, mf_0, mf_1, mf_2, mf_3, mf_4, mf_5, mf_6, mf_7, mf_8, mf_9, mf_10, mf_11, mf_12, mf_13, mf_14, mf_15, mf_16, mf_17, mf_18, mf_19, mf_20, mf_21, mf_22, mf_23, mf_24, mf_25, mf_26, mf_27, mf_28, mf_29, mf_30, mp_4, mp_7, mp_9, mp_10, mp_12, mp_14, mp_15, mp_16, mp_17, mp_18, mp_19, mp_20, mi_0, M_isPiece _ _ (show P < 1000 by omega) c5.1, h, M_isUse _ _ (show U < 1000 by omega) c3.1, h2]
  by_cases h3 : (1 : Int32) ≤ n ∧ n ≤ 40
  · obtain ⟨j, rfl, j1, j2⟩ := (x_rng 1 40 (by omega) (by omega)).mp h3
    have g1 : ¬ nI j < 1 := nI_nlt (b := 1) j1 (by omega)
    have g2 : nI j ≤ 40 := h3.2
    obtain ⟨b1, ⟨L, b2, b3, b4⟩, b5⟩ := nb.1 k hk
    rw [n14_l σ (by omega)] at b1
    obtain ⟨u1, y, u2, u3, u4⟩ := hu a ha
    have hy : j * y ≤ 40 * 99 := Nat.mul_le_mul j2 u4
    have a1 : c_at σ 43 (nI k) = nI L := by rw [c_at_n (q := 43) (by show k < 6; omega), b1, b2]
    have a2 : c_at σ 5 (nI a) = nI y := by rw [c_at_n (q := 5) (by show a < 6; omega), u1, u2]
    by_cases h4 : j * y ≤ L
    · have g3 : (0 : Int32) ≤ nI L - nI (j * y) := by rw [pk_sub h4]; exact nI_pos' (by omega)
      have g4 : nI (j * y) ≤ nI L := nI_le h4 (by omega)
      obtain ⟨F, A, B, G, C, p1, p2, p3⟩ := push_sim (σ := σ) (μ := μ) hP hpa nb
      have p1 := p1 26
      have p2 := p2 27
      have a3 : c_pt (c_ws (c_ws (c_wa σ 49 F) 47 1 A) 47 2 B) 43 (nI k) (nI (L - j * y)) = c_wa (c_ws (c_ws (c_wa σ 49 F) 47 1 A) 47 2 B) 44 (upd (σ.1 44) k (nI (L - j * y))) := c_pt_n (q := 43) (by show k < 6; omega)
      refine ⟨nI (L - j * y), c_wa (c_ws (c_ws (c_wa σ 49 F) 47 1 A) 47 2 B) 44 (upd (σ.1 44) k (nI (L - j * y))), m_wa (m_ws (m_wa μ 4 G) 4 C) 3 (upd (μ.1 3) k (nI (L - j * y))), ?_, ?_, ?_⟩
      · simp (decide := true) only [r_80, s_80_0, s_80_4, s_80_7, s_80_11, s_80_14, s_80_18, s_80_21, s_80_25, s_80_28, s_80_31, s_80_36, s_80_42, s_80_45, s_80_49, s_80_52, s_80_56, s_80_61, s_80_64, s_80_68, s_80_77, s_80_80, s_80_84, s_80_88, s_80_91, s_80_95, s_80_98, s_80_104, Option.bind_some, x_tlv, x_tln, if_true, if_false, cr_isa, R_at, R_has, R_size, R_put, R_isFull, R_add, R_clear, c_has_eq, c_wa_1, c_wa_2, c_ws_1, c_ws_2, cf_0_0, cf_0_1, cf_0_2, cf_0_3, cf_0_4, cf_0_5, cf_0_6, cf_0_7, cf_0_8, cf_0_9, cf_0_10, cf_0_11, cf_0_12, cf_0_13, cp_0_12, cp_0_13, ci_0, cf_1_0, cf_1_1, cf_1_2, cf_1_3, cf_1_4, cp_1_1, cp_1_2, cp_1_3, cp_1_4, ci_1, cf_4_0, cf_4_1, cf_4_2, cf_4_3, cf_4_4, cf_4_5, cf_4_6, cf_4_7, cf_4_8, cf_4_9, cf_4_10, cp_4_0, cp_4_1, ci_4, cf_23_0, cf_23_1, cf_23_2, cf_23_3, cf_23_4, cf_23_5, cf_23_6, cf_23_7, cf_23_8, cf_23_9, cf_23_10, cp_23_0, cp_23_1, ci_23, cf_42_0, cf_42_1, cf_42_2, cf_42_3, cp_42_2, cp_42_3, ci_42, cf_47_0, cf_47_1, cf_47_2, cp_47_1, cp_47_2, ci_47, cf_50_0, cf_50_1, cf_50_2, ci_50, cf_57_0, cf_57_1, ci_57, cf_62_0, cf_62_1, ci_62, cf_67_0, cf_67_1, cf_67_2, cf_67_3, cf_67_4, cf_67_5, cp_67_1, cp_67_2, ci_67, cf_76_0, cf_76_1, cf_76_2, cf_76_3, cf_76_4, cf_76_5, cp_76_1, cp_76_2, cp_76_3, ci_76, c5.2, h, c3.2, h2, g1, g2, a1, a2, pk_mul, g3]
        rw [p1]
        simp (decide := true) only [s_80_0, s_80_4, s_80_7, s_80_11, s_80_14, s_80_18, s_80_21, s_80_25, s_80_28, s_80_31, s_80_36, s_80_42, s_80_45, s_80_49, s_80_52, s_80_56, s_80_61, s_80_64, s_80_68, s_80_77, s_80_80, s_80_84, s_80_88, s_80_91, s_80_95, s_80_98, s_80_104, Option.bind_some, x_tlv, x_tln, if_true, if_false, cr_isa, R_at, R_has, R_size, R_put, R_isFull, R_add, R_clear, c_has_eq, c_wa_1, c_wa_2, c_ws_1, c_ws_2, cf_0_0, cf_0_1, cf_0_2, cf_0_3, cf_0_4, cf_0_5, cf_0_6, cf_0_7, cf_0_8, cf_0_9, cf_0_10, cf_0_11, cf_0_12, cf_0_13, cp_0_12, cp_0_13, ci_0, cf_1_0, cf_1_1, cf_1_2, cf_1_3, cf_1_4, cp_1_1, cp_1_2, cp_1_3, cp_1_4, ci_1, cf_4_0, cf_4_1, cf_4_2, cf_4_3, cf_4_4, cf_4_5, cf_4_6, cf_4_7, cf_4_8, cf_4_9, cf_4_10, cp_4_0, cp_4_1, ci_4, cf_23_0, cf_23_1, cf_23_2, cf_23_3, cf_23_4, cf_23_5, cf_23_6, cf_23_7, cf_23_8, cf_23_9, cf_23_10, cp_23_0, cp_23_1, ci_23, cf_42_0, cf_42_1, cf_42_2, cf_42_3, cp_42_2, cp_42_3, ci_42, cf_47_0, cf_47_1, cf_47_2, cp_47_1, cp_47_2, ci_47, cf_50_0, cf_50_1, cf_50_2, ci_50, cf_57_0, cf_57_1, ci_57, cf_62_0, cf_62_1, ci_62, cf_67_0, cf_67_1, cf_67_2, cf_67_3, cf_67_4, cf_67_5, cp_67_1, cp_67_2, ci_67, cf_76_0, cf_76_1, cf_76_2, cf_76_3, cf_76_4, cf_76_5, cp_76_1, cp_76_2, cp_76_3, ci_76, pk_sub h4, a3]
      · simp (disch := first | decide | omega) only [r_144, s_144_0, s_144_5, s_144_8, s_144_13, s_144_16, s_144_19, s_144_28, s_144_31, s_144_34, s_144_39, s_144_44, s_144_51, s_144_55, s_144_60, s_144_63, s_144_67, s_144_71, s_144_76, s_144_80, s_144_84, s_144_88, Option.bind_some, x_tlv, x_tln, if_true, if_false, m_wa_1, m_wa_s, m_wb_1, m_wb_2, m_wb_s, m_ws_1, m_ws_b, m_ws_s, m_ws_e, m_we_1, m_we_b, m_we_s, m_we_e, mf_0, mf_1, mf_2, mf_3, mf_4, mf_5, mf_6, mf_7, mf_8, mf_9, mf_10, mf_11, mf_12, mf_13, mf_14, mf_15, mf_16, mf_17, mf_18, mf_19, mf_20, mf_21, mf_22, mf_23, mf_24, mf_25, mf_26, mf_27, mf_28, mf_29, mf_30, mp_4, mp_7, mp_9, mp_10, mp_12, mp_14, mp_15, mp_16, mp_17, mp_18, mp_19, mp_20, mi_0, M_isPiece _ _ (show P < 1000 by omega) c5.1, h, M_isUse _ _ (show U < 1000 by omega) c3.1, h2, M_in, x_w1, x_w40, x_wle, x_b_t h3, x_a6, x_a0, md1n, md3n, u2, b2, pk_mul, g4]
        rw [p2]
        simp (disch := first | decide | omega) only [s_144_0, s_144_5, s_144_8, s_144_13, s_144_16, s_144_19, s_144_28, s_144_31, s_144_34, s_144_39, s_144_44, s_144_51, s_144_55, s_144_60, s_144_63, s_144_67, s_144_71, s_144_76, s_144_80, s_144_84, s_144_88, Option.bind_some, x_tlv, x_tln, if_true, if_false, m_wa_1, m_wa_s, m_wb_1, m_wb_2, m_wb_s, m_ws_1, m_ws_b, m_ws_s, m_ws_e, m_we_1, m_we_b, m_we_s, m_we_e, mf_0, mf_1, mf_2, mf_3, mf_4, mf_5, mf_6, mf_7, mf_8, mf_9, mf_10, mf_11, mf_12, mf_13, mf_14, mf_15, mf_16, mf_17, mf_18, mf_19, mf_20, mf_21, mf_22, mf_23, mf_24, mf_25, mf_26, mf_27, mf_28, mf_29, mf_30, mp_4, mp_7, mp_9, mp_10, mp_12, mp_14, mp_15, mp_16, mp_17, mp_18, mp_19, mp_20, mi_0, x_a0, md3n, mt3n, b2, pk_sub h4, upd_s]
        simp (decide := true) only [if_false, if_true]
        simp (disch := first | decide | omega) only [b2, pk_sub h4, upd_s]
      · refine ⟨U, T, P, N, hc, hu, ht, hp, hw, ⟨n1, n2, ?_⟩, p3, hi, hl, hb, hx, hm⟩
        refine blk_congr hP (fun z hz => ?_) (fun z hz => ?_) (blk_len hP hk (v := nI (L - j * y)) ⟨_, rfl, by omega, by omega⟩ nb)
        · exact n14_44 (σ := c_ws (c_ws (c_wa σ 49 F) 47 1 A) 47 2 B) (by omega)
        · rfl
    · have g3 : ¬ (0 : Int32) ≤ nI L - nI (j * y) := Int32.not_le.mpr (pk_sneg (by omega) (by omega))
      have g4 : ¬ nI (j * y) ≤ nI L := nI_ge (by omega) (by omega)
      refine ⟨-1000000003, σ, μ, ?_, ?_, hS'⟩
      · simp (decide := true) only [r_80, s_80_0, s_80_4, s_80_7, s_80_11, s_80_14, s_80_18, s_80_21, s_80_25, s_80_28, s_80_31, s_80_36, s_80_42, s_80_45, s_80_49, s_80_52, s_80_56, s_80_61, s_80_64, s_80_68, s_80_77, s_80_80, s_80_84, s_80_88, s_80_91, s_80_95, s_80_98, s_80_104, Option.bind_some, x_tlv, x_tln, if_true, if_false, cr_isa, R_at, R_has, R_size, R_put, R_isFull, R_add, R_clear, c_has_eq, c_wa_1, c_wa_2, c_ws_1, c_ws_2, cf_0_0, cf_0_1, cf_0_2, cf_0_3, cf_0_4, cf_0_5, cf_0_6, cf_0_7, cf_0_8, cf_0_9, cf_0_10, cf_0_11, cf_0_12, cf_0_13, cp_0_12, cp_0_13, ci_0, cf_1_0, cf_1_1, cf_1_2, cf_1_3, cf_1_4, cp_1_1, cp_1_2, cp_1_3, cp_1_4, ci_1, cf_4_0, cf_4_1, cf_4_2, cf_4_3, cf_4_4, cf_4_5, cf_4_6, cf_4_7, cf_4_8, cf_4_9, cf_4_10, cp_4_0, cp_4_1, ci_4, cf_23_0, cf_23_1, cf_23_2, cf_23_3, cf_23_4, cf_23_5, cf_23_6, cf_23_7, cf_23_8, cf_23_9, cf_23_10, cp_23_0, cp_23_1, ci_23, cf_42_0, cf_42_1, cf_42_2, cf_42_3, cp_42_2, cp_42_3, ci_42, cf_47_0, cf_47_1, cf_47_2, cp_47_1, cp_47_2, ci_47, cf_50_0, cf_50_1, cf_50_2, ci_50, cf_57_0, cf_57_1, ci_57, cf_62_0, cf_62_1, ci_62, cf_67_0, cf_67_1, cf_67_2, cf_67_3, cf_67_4, cf_67_5, cp_67_1, cp_67_2, ci_67, cf_76_0, cf_76_1, cf_76_2, cf_76_3, cf_76_4, cf_76_5, cp_76_1, cp_76_2, cp_76_3, ci_76, c5.2, h, c3.2, h2, g1, g2, a1, a2, pk_mul, g3]
      · simp (disch := first | decide | omega) only [r_144, s_144_0, s_144_5, s_144_8, s_144_13, s_144_16, s_144_19, s_144_28, s_144_31, s_144_34, s_144_39, s_144_44, s_144_51, s_144_55, s_144_60, s_144_63, s_144_67, s_144_71, s_144_76, s_144_80, s_144_84, s_144_88, Option.bind_some, x_tlv, x_tln, if_true, if_false, m_wa_1, m_wa_s, m_wb_1, m_wb_2, m_wb_s, m_ws_1, m_ws_b, m_ws_s, m_ws_e, m_we_1, m_we_b, m_we_s, m_we_e, mf_0, mf_1, mf_2, mf_3, mf_4, mf_5, mf_6, mf_7, mf_8, mf_9, mf_10, mf_11, mf_12, mf_13, mf_14, mf_15, mf_16, mf_17, mf_18, mf_19, mf_20, mf_21, mf_22, mf_23, mf_24, mf_25, mf_26, mf_27, mf_28, mf_29, mf_30, mp_4, mp_7, mp_9, mp_10, mp_12, mp_14, mp_15, mp_16, mp_17, mp_18, mp_19, mp_20, mi_0, M_isPiece _ _ (show P < 1000 by omega) c5.1, h, M_isUse _ _ (show U < 1000 by omega) c3.1, h2, M_in, x_w1, x_w40, x_wle, x_b_t h3, x_a6, x_a0, md1n, md3n, u2, b2, pk_mul, g4]
        simp (decide := true) only [if_false, if_true]
  · refine ⟨-1000000002, σ, μ, ?_, ?_, hS'⟩
    · simp (decide := true) only [r_80, s_80_0, s_80_4, s_80_7, s_80_11, s_80_14, s_80_18, s_80_21, s_80_25, s_80_28, s_80_31, s_80_36, s_80_42, s_80_45, s_80_49, s_80_52, s_80_56, s_80_61, s_80_64, s_80_68, s_80_77, s_80_80, s_80_84, s_80_88, s_80_91, s_80_95, s_80_98, s_80_104, Option.bind_some, x_tlv, x_tln, if_true, if_false, cr_isa, R_at, R_has, R_size, R_put, R_isFull, R_add, R_clear, c_has_eq, c_wa_1, c_wa_2, c_ws_1, c_ws_2, cf_0_0, cf_0_1, cf_0_2, cf_0_3, cf_0_4, cf_0_5, cf_0_6, cf_0_7, cf_0_8, cf_0_9, cf_0_10, cf_0_11, cf_0_12, cf_0_13, cp_0_12, cp_0_13, ci_0, cf_1_0, cf_1_1, cf_1_2, cf_1_3, cf_1_4, cp_1_1, cp_1_2, cp_1_3, cp_1_4, ci_1, cf_4_0, cf_4_1, cf_4_2, cf_4_3, cf_4_4, cf_4_5, cf_4_6, cf_4_7, cf_4_8, cf_4_9, cf_4_10, cp_4_0, cp_4_1, ci_4, cf_23_0, cf_23_1, cf_23_2, cf_23_3, cf_23_4, cf_23_5, cf_23_6, cf_23_7, cf_23_8, cf_23_9, cf_23_10, cp_23_0, cp_23_1, ci_23, cf_42_0, cf_42_1, cf_42_2, cf_42_3, cp_42_2, cp_42_3, ci_42, cf_47_0, cf_47_1, cf_47_2, cp_47_1, cp_47_2, ci_47, cf_50_0, cf_50_1, cf_50_2, ci_50, cf_57_0, cf_57_1, ci_57, cf_62_0, cf_62_1, ci_62, cf_67_0, cf_67_1, cf_67_2, cf_67_3, cf_67_4, cf_67_5, cp_67_1, cp_67_2, ci_67, cf_76_0, cf_76_1, cf_76_2, cf_76_3, cf_76_4, cf_76_5, cp_76_1, cp_76_2, cp_76_3, ci_76, c5.2, h, c3.2, h2]
      by_cases h0 : n < 1
      · rw [if_pos h0]
      · rw [if_neg h0, if_neg (fun z => h3 ⟨Int32.not_lt.mp h0, z⟩)]
    · simp (decide := true) only [r_144, s_144_0, s_144_5, s_144_8, s_144_13, s_144_16, s_144_19, s_144_28, s_144_31, s_144_34, s_144_39, s_144_44, s_144_51, s_144_55, s_144_60, s_144_63, s_144_67, s_144_71, s_144_76, s_144_80, s_144_84, s_144_88, Option.bind_some, x_tlv, x_tln, if_true, if_false, m_wa_1, m_wa_s, m_wb_1, m_wb_2, m_wb_s, m_ws_1, m_ws_b, m_ws_s, m_ws_e, m_we_1, m_we_b, m_we_s, m_we_e, mf_0, mf_1, mf_2, mf_3, mf_4, mf_5, mf_6, mf_7, mf_8, mf_9, mf_10, mf_11, mf_12, mf_13, mf_14, mf_15, mf_16, mf_17, mf_18, mf_19, mf_20, mf_21, mf_22, mf_23, mf_24, mf_25, mf_26, mf_27, mf_28, mf_29, mf_30, mp_4, mp_7, mp_9, mp_10, mp_12, mp_14, mp_15, mp_16, mp_17, mp_18, mp_19, mp_20, mi_0, M_isPiece _ _ (show P < 1000 by omega) c5.1, h, M_isUse _ _ (show U < 1000 by omega) c3.1, h2, M_in, x_w1, x_w40, x_wle, x_b_f h3]
