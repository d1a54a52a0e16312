/-! what is told: feed, left, write, tear, judge, seed -/
theorem c_add_n {σ : x_S} {q n : Nat} {v : Int32} (hn : σ.2 q 1 = nI n) (h : n < c_room q) : c_add σ q v = c_ws (c_wa σ (q + 1) (upd (σ.1 (q + 1)) n v)) q 1 (nI (n + 1)) := by
  have hr := c_room_lt q
  unfold c_add
  rw [hn, if_neg (by rw [nI_def, nI_leI hr (by omega)]; omega), c_pt_n h, nI_1]
theorem c_full_n {σ : x_S} {q n : Nat} (hn : σ.2 q 1 = nI n) (hn2 : n < 2 ^ 31) : c_full σ q = x_b (c_room q ≤ n) := by
  have hr := c_room_lt q
  unfold c_full x_b
  rw [hn, nI_def]
  simp only [nI_leI hr hn2]
theorem x_bt (n : Nat) (h : n < 2 ^ 31) {P : Prop} [Decidable P] {v lo hi : Int32} : True := trivial
/-- within two bounds -/
theorem x_rng {v : Int32} (lo hi : Nat) (hh : hi < 2 ^ 31) (hl : lo < 2 ^ 31) : (nI lo ≤ v ∧ v ≤ nI hi) ↔ ∃ j : Nat, v = nI j ∧ lo ≤ j ∧ j ≤ hi := by
  constructor
  · rintro ⟨h1, h2⟩
    have h0 : ¬ v < 0 := by
      have a1 := Int32.le_iff_toInt_le.mp h1
      rw [nI_toInt hl] at a1
      rw [Int32.lt_iff_toInt_lt]
      have : (0 : Int32).toInt = 0 := rfl
      omega
    obtain ⟨j, hj, rfl⟩ := nI_of h0
    exact ⟨j, rfl, (nI_leI hl hj).mp h1, (nI_leI hj hh).mp h2⟩
  · rintro ⟨j, rfl, h1, h2⟩
    exact ⟨nI_le h1 (by omega), nI_le h2 hh⟩
theorem x_rng_c {v : Int32} (lo hi : Nat) (hh : hi < 2 ^ 31) (hl : lo < 2 ^ 31) (h : ¬ (nI lo ≤ v ∧ v ≤ nI hi)) : v < nI lo ∨ nI hi < v := by
  by_cases h1 : nI lo ≤ v
  · exact Or.inr (Int32.not_le.mp fun h2 => h ⟨h1, h2⟩)
  · exact Or.inl (Int32.not_le.mp h1)
theorem sim_feed (b : Int32) : Sim 72 115 [.int b] := Sim.of fun σ μ hS => by
  have hS' := hS
  obtain ⟨U, T, P, N, hc, hu, ht, hp, hw, hn, hpa, hi, hl, hb, ⟨n, x1, x2, x3, x4⟩, hm⟩ := hS
  by_cases h1 : (0 : Int32) ≤ b ∧ b ≤ 255
  · obtain ⟨j, rfl, -, hj⟩ := (x_rng 0 255 (by omega) (by omega)).mp h1
    have e1 : ¬ nI j < 0 := nI_pos (by omega)
    have e2 : nI j ≤ 255 := h1.2
    by_cases h2 : n = 240
    · subst h2
      refine ⟨-1000000004, σ, μ, ?_, ?_, hS'⟩
      · simp (decide := true) only [r_72, s_72_0, s_72_4, s_72_11, s_72_14, s_72_18, s_72_21, s_72_24, s_72_27, s_72_30, s_72_34, s_72_37, s_72_41, s_72_45, s_72_48, s_72_51, Option.bind_some, x_tlv, x_tln, if_true, if_false, cr_isa, R_at, R_has, R_size, R_put, R_isFull, R_add, R_clear, c_has_eq, c_wa_1, c_wa_2, c_ws_1, c_ws_2, cf_0_0, cf_0_1, cf_0_2, cf_0_3, cf_0_4, cf_0_5, cf_0_6, cf_0_7, cf_0_8, cf_0_9, cf_0_10, cf_0_11, cf_0_12, cf_0_13, cp_0_12, cp_0_13, ci_0, cf_1_0, cf_1_1, cf_1_2, cf_1_3, cf_1_4, cp_1_1, cp_1_2, cp_1_3, cp_1_4, ci_1, cf_4_0, cf_4_1, cf_4_2, cf_4_3, cf_4_4, cf_4_5, cf_4_6, cf_4_7, cf_4_8, cf_4_9, cf_4_10, cp_4_0, cp_4_1, ci_4, cf_23_0, cf_23_1, cf_23_2, cf_23_3, cf_23_4, cf_23_5, cf_23_6, cf_23_7, cf_23_8, cf_23_9, cf_23_10, cp_23_0, cp_23_1, ci_23, cf_42_0, cf_42_1, cf_42_2, cf_42_3, cp_42_2, cp_42_3, ci_42, cf_47_0, cf_47_1, cf_47_2, cp_47_1, cp_47_2, ci_47, cf_50_0, cf_50_1, cf_50_2, ci_50, cf_57_0, cf_57_1, ci_57, cf_62_0, cf_62_1, ci_62, cf_67_0, cf_67_1, cf_67_2, cf_67_3, cf_67_4, cf_67_5, cp_67_1, cp_67_2, ci_67, cf_76_0, cf_76_1, cf_76_2, cf_76_3, cf_76_4, cf_76_5, cp_76_1, cp_76_2, cp_76_3, ci_76, e1, e2, c_full_n x3 (by omega)]
      · simp (decide := true) only [r_115, s_115_0, s_115_9, s_115_12, s_115_15, s_115_19, s_115_25, s_115_28, s_115_32, s_115_36, s_115_38, s_115_43, s_115_48, s_115_52, Option.bind_some, x_tlv, x_tln, if_true, if_false, m_wa_1, m_wa_s, m_wb_1, m_wb_2, m_wb_s, m_ws_1, m_ws_b, m_ws_s, m_ws_e, m_we_1, m_we_b, m_we_s, m_we_e, mf_0, mf_1, mf_2, mf_3, mf_4, mf_5, mf_6, mf_7, mf_8, mf_9, mf_10, mf_11, mf_12, mf_13, mf_14, mf_15, mf_16, mf_17, mf_18, mf_19, mf_20, mf_21, mf_22, mf_23, mf_24, mf_25, mf_26, mf_27, mf_28, mf_29, mf_30, mp_4, mp_7, mp_9, mp_10, mp_12, mp_14, mp_15, mp_16, mp_17, mp_18, mp_19, mp_20, mi_0, M_in, x_w0, x_w255, x_wle, h1, x_b_t, x2]
    · have e3 : x_b (c_room 2 ≤ n) = 0 := x_b_f (by show ¬ 240 ≤ n; omega)
      have e4 : ¬ nI n = 240 := fun z => h2 ((nI_eq (b := 240) (by omega) (by omega)).mp z)
      refine ⟨nI (n + 1), c_add σ 2 (nI j), m_ws (m_wa μ 7 (upd (μ.1 7) n (nI j))) 9 (nI (n + 1)), ?_, ?_, ?_⟩
      · simp (decide := true) only [r_72, s_72_0, s_72_4, s_72_11, s_72_14, s_72_18, s_72_21, s_72_24, s_72_27, s_72_30, s_72_34, s_72_37, s_72_41, s_72_45, s_72_48, s_72_51, Option.bind_some, x_tlv, x_tln, if_true, if_false, cr_isa, R_at, R_has, R_size, R_put, R_isFull, R_add, R_clear, c_has_eq, c_wa_1, c_wa_2, c_ws_1, c_ws_2, cf_0_0, cf_0_1, cf_0_2, cf_0_3, cf_0_4, cf_0_5, cf_0_6, cf_0_7, cf_0_8, cf_0_9, cf_0_10, cf_0_11, cf_0_12, cf_0_13, cp_0_12, cp_0_13, ci_0, cf_1_0, cf_1_1, cf_1_2, cf_1_3, cf_1_4, cp_1_1, cp_1_2, cp_1_3, cp_1_4, ci_1, cf_4_0, cf_4_1, cf_4_2, cf_4_3, cf_4_4, cf_4_5, cf_4_6, cf_4_7, cf_4_8, cf_4_9, cf_4_10, cp_4_0, cp_4_1, ci_4, cf_23_0, cf_23_1, cf_23_2, cf_23_3, cf_23_4, cf_23_5, cf_23_6, cf_23_7, cf_23_8, cf_23_9, cf_23_10, cp_23_0, cp_23_1, ci_23, cf_42_0, cf_42_1, cf_42_2, cf_42_3, cp_42_2, cp_42_3, ci_42, cf_47_0, cf_47_1, cf_47_2, cp_47_1, cp_47_2, ci_47, cf_50_0, cf_50_1, cf_50_2, ci_50, cf_57_0, cf_57_1, ci_57, cf_62_0, cf_62_1, ci_62, cf_67_0, cf_67_1, cf_67_2, cf_67_3, cf_67_4, cf_67_5, cp_67_1, cp_67_2, ci_67, cf_76_0, cf_76_1, cf_76_2, cf_76_3, cf_76_4, cf_76_5, cp_76_1, cp_76_2, cp_76_3, ci_76, e1, e2, c_full_n x3 (show n < 2 ^ 31 by omega), e3]
        rw [c_add_n x3 (by show n < 240; omega)]
        rfl
      · simp (disch := first | decide | omega) only [r_115, s_115_0, s_115_9, s_115_12, s_115_15, s_115_19, s_115_25, s_115_28, s_115_32, s_115_36, s_115_38, s_115_43, s_115_48, s_115_52, Option.bind_some, x_tlv, x_tln, if_true, if_false, m_wa_1, m_wa_s, m_wb_1, m_wb_2, m_wb_s, m_ws_1, m_ws_b, m_ws_s, m_ws_e, m_we_1, m_we_b, m_we_s, m_we_e, mf_0, mf_1, mf_2, mf_3, mf_4, mf_5, mf_6, mf_7, mf_8, mf_9, mf_10, mf_11, mf_12, mf_13, mf_14, mf_15, mf_16, mf_17, mf_18, mf_19, mf_20, mf_21, mf_22, mf_23, mf_24, mf_25, mf_26, mf_27, mf_28, mf_29, mf_30, mp_4, mp_7, mp_9, mp_10, mp_12, mp_14, mp_15, mp_16, mp_17, mp_18, mp_19, mp_20, mi_0, M_in, x_w0, x_w255, x_wle, h1, x_b_t, x2, e4, mt7n, nI_1]
        rfl
      · rw [c_add_n x3 (by show n < 240; omega)]
        refine ⟨U, T, P, N, hc, hu, ht, hp, hw, hn, hpa, hi, hl, hb, ⟨n + 1, by omega, rfl, rfl, fun k hk => ?_⟩, hm⟩
        show upd (σ.1 3) n (nI j) k = upd (μ.1 7) n (nI j) k ∧ Rg (upd (μ.1 7) n (nI j) k) 0 255
        unfold upd
        by_cases hkn : k = n
        · rw [if_pos hkn, if_pos hkn]; exact ⟨rfl, j, rfl, Nat.zero_le _, hj⟩
        · rw [if_neg hkn, if_neg hkn]; exact x4 k (by omega)
  · have h3 : b < 0 ∨ ¬ b ≤ 255 := by
      by_cases h0 : b < 0
      · exact Or.inl h0
      · exact Or.inr fun z => h1 ⟨Int32.not_lt.mp h0, z⟩
    refine ⟨-1000000002, σ, μ, ?_, ?_, hS'⟩
    · rw [r_72, s_72_0]
      rcases h3 with h3 | h3
      · rw [if_pos h3, s_72_11]
      · by_cases h0 : b < 0
        · rw [if_pos h0, s_72_11]
        · rw [if_neg h0, s_72_4, if_neg h3, s_72_11]
    · simp (decide := true) only [r_115, s_115_0, s_115_9, s_115_12, s_115_15, s_115_19, s_115_25, s_115_28, s_115_32, s_115_36, s_115_38, s_115_43, s_115_48, s_115_52, Option.bind_some, x_tlv, x_tln, if_true, if_false, m_wa_1, m_wa_s, m_wb_1, m_wb_2, m_wb_s, m_ws_1, m_ws_b, m_ws_s, m_ws_e, m_we_1, m_we_b, m_we_s, m_we_e, mf_0, mf_1, mf_2, mf_3, mf_4, mf_5, mf_6, mf_7, mf_8, mf_9, mf_10, mf_11, mf_12, mf_13, mf_14, mf_15, mf_16, mf_17, mf_18, mf_19, mf_20, mf_21, mf_22, mf_23, mf_24, mf_25, mf_26, mf_27, mf_28, mf_29, mf_30, mp_4, mp_7, mp_9, mp_10, mp_12, mp_14, mp_15, mp_16, mp_17, mp_18, mp_19, mp_20, mi_0, M_in, x_w0, x_w255, x_wle, x_b_f h1]
