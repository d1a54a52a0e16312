/-! undo, keep, goBack -/
theorem x_p20 (n : Nat) : nI n + 20 = nI (n + 20) := nI_add n 20
theorem x_p19 (n : Nat) : nI (n + 20) - 1 = nI (n + 19) := nI_pred (n + 19)
def c_pop (σ : x_S) (x n : Nat) : x_S := c_load (c_ws (c_ws σ 47 1 (nI ((x + 19) % 20))) 47 2 (nI n)) (fun j => σ.1 49 (14 * ((x + 19) % 20) + j))
theorem R_pop (d : Nat) (σ : x_S) {x n : Nat} (hx : x < 20) (hn : n < 20) (h1 : σ.2 47 1 = nI x) (h2 : σ.2 47 2 = nI (n + 1)) : x_R x_P (d + 3) 36 [.ref 47, .ref 42] (CG σ) = some (none, CG (c_pop σ x n)) := by
  have e1 : (nI (x + 19) - nI (x + 19) / 20 * 20) = nI ((x + 19) % 20) := pk_rem (a := x + 19) (d := 20) (by omega) (by omega) (by omega)
  have e0 : ¬ nI (n + 1) = 0 := nI_ne0 (by omega) (by omega)
  have e2 : nI (n + 1) - 1 = nI n := nI_pred n
  have e3 : (x + 19) % 20 * 14 = 14 * ((x + 19) % 20) := Nat.mul_comm _ _
  have hs := R_load d (c_ws (c_ws σ 47 1 (nI ((x + 19) % 20))) 47 2 (nI n)) 48 (14 * ((x + 19) % 20)) (by decide) (by decide) (by decide) (by show 14 * ((x + 19) % 20) + 14 ≤ 280; omega)
  simp (decide := true) only [r_36, s_36_0, s_36_4, s_36_7, s_36_8, s_36_13, s_36_24, s_36_29, s_36_34, s_36_39, s_36_43, s_36_49, Option.bind_some, x_tlv, x_tln, if_true, if_false, cr_isa, R_at, R_has, R_size, R_put, R_isFull, R_add, R_clear, c_has_eq, c_wa_1, c_wa_2, c_ws_1, c_ws_2, cf_0_0, cf_0_1, cf_0_2, cf_0_3, cf_0_4, cf_0_5, cf_0_6, cf_0_7, cf_0_8, cf_0_9, cf_0_10, cf_0_11, cf_0_12, cf_0_13, cp_0_12, cp_0_13, ci_0, cf_1_0, cf_1_1, cf_1_2, cf_1_3, cf_1_4, cp_1_1, cp_1_2, cp_1_3, cp_1_4, ci_1, cf_4_0, cf_4_1, cf_4_2, cf_4_3, cf_4_4, cf_4_5, cf_4_6, cf_4_7, cf_4_8, cf_4_9, cf_4_10, cp_4_0, cp_4_1, ci_4, cf_23_0, cf_23_1, cf_23_2, cf_23_3, cf_23_4, cf_23_5, cf_23_6, cf_23_7, cf_23_8, cf_23_9, cf_23_10, cp_23_0, cp_23_1, ci_23, cf_42_0, cf_42_1, cf_42_2, cf_42_3, cp_42_2, cp_42_3, ci_42, cf_47_0, cf_47_1, cf_47_2, cp_47_1, cp_47_2, ci_47, cf_50_0, cf_50_1, cf_50_2, ci_50, cf_57_0, cf_57_1, ci_57, cf_62_0, cf_62_1, ci_62, cf_67_0, cf_67_1, cf_67_2, cf_67_3, cf_67_4, cf_67_5, cp_67_1, cp_67_2, ci_67, cf_76_0, cf_76_1, cf_76_2, cf_76_3, cf_76_4, cf_76_5, cp_76_1, cp_76_2, cp_76_3, ci_76, h1, h2, e0, e1, e2, x_p20, x_p19, x_t14, e3, hs]
  rfl
theorem sim_undo : Sim 84 151 [] := Sim.of fun σ μ hS => by
  have hS' := hS
  obtain ⟨U, T, P, N, hc, hu, ht, hp, hw, ⟨n1, n2, nb⟩, ⟨n, x, q1, q2, q3, q4, q5, q6⟩, hi, hl, hb, hx, hm⟩ := hS
  rcases n with _ | n
  · refine ⟨-1000000003, σ, μ, ?_, ?_, hS'⟩
    · simp (decide := true) only [r_84, s_84_0, s_84_4, s_84_7, s_84_10, s_84_13, s_84_17, s_84_21, s_84_24, s_84_28, s_84_31, r_33, s_33_0, s_33_4, Option.bind_some, x_tlv, x_tln, if_true, if_false, cr_isa, R_at, R_has, R_size, R_put, R_isFull, R_add, R_clear, c_has_eq, c_wa_1, c_wa_2, c_ws_1, c_ws_2, cf_0_0, cf_0_1, cf_0_2, cf_0_3, cf_0_4, cf_0_5, cf_0_6, cf_0_7, cf_0_8, cf_0_9, cf_0_10, cf_0_11, cf_0_12, cf_0_13, cp_0_12, cp_0_13, ci_0, cf_1_0, cf_1_1, cf_1_2, cf_1_3, cf_1_4, cp_1_1, cp_1_2, cp_1_3, cp_1_4, ci_1, cf_4_0, cf_4_1, cf_4_2, cf_4_3, cf_4_4, cf_4_5, cf_4_6, cf_4_7, cf_4_8, cf_4_9, cf_4_10, cp_4_0, cp_4_1, ci_4, cf_23_0, cf_23_1, cf_23_2, cf_23_3, cf_23_4, cf_23_5, cf_23_6, cf_23_7, cf_23_8, cf_23_9, cf_23_10, cp_23_0, cp_23_1, ci_23, cf_42_0, cf_42_1, cf_42_2, cf_42_3, cp_42_2, cp_42_3, ci_42, cf_47_0, cf_47_1, cf_47_2, cp_47_1, cp_47_2, ci_47, cf_50_0, cf_50_1, cf_50_2, ci_50, cf_57_0, cf_57_1, ci_57, cf_62_0, cf_62_1, ci_62, cf_67_0, cf_67_1, cf_67_2, cf_67_3, cf_67_4, cf_67_5, cp_67_1, cp_67_2, ci_67, cf_76_0, cf_76_1, cf_76_2, cf_76_3, cf_76_4, cf_76_5, cp_76_1, cp_76_2, cp_76_3, ci_76, q4]
    · simp (decide := true) only [r_151, s_151_0, s_151_4, s_151_7, s_151_10, s_151_15, s_151_20, s_151_24, s_151_30, s_151_35, s_151_39, s_151_43, Option.bind_some, x_tlv, x_tln, if_true, if_false, m_wa_1, m_wa_s, m_wb_1, m_wb_2, m_wb_s, m_ws_1, m_ws_b, m_ws_s, m_ws_e, m_we_1, m_we_b, m_we_s, m_we_e, mf_0, mf_1, mf_2, mf_3, mf_4, mf_5, mf_6, mf_7, mf_8, mf_9, mf_10, mf_11, mf_12, mf_13, mf_14, mf_15, mf_16, mf_17, mf_18, mf_19, mf_20, mf_21, mf_22, mf_23, mf_24, mf_25, mf_26, mf_27, mf_28, mf_29, mf_30, mp_4, mp_7, mp_9, mp_10, mp_12, mp_14, mp_15, mp_16, mp_17, mp_18, mp_19, mp_20, mi_0, q3]
  · have e0 : ¬ nI (n + 1) = 0 := nI_ne0 (by omega) (by omega)
    have e2 : nI (n + 1) - 1 = nI n := nI_pred n
    refine ⟨nI n, c_pop σ x n, m_wa (m_ws μ 4 (nI n)) 3 (blkw (μ.1 3) 0 (fun j => μ.1 4 (14 * n + j))), ?_, ?_, ?_⟩
    · have h1 := R_pop 26 σ q2 (by omega) q5 q4
      have h3 : (c_pop σ x n).2 47 2 = nI n := rfl
      simp (decide := true) only [r_84, s_84_0, s_84_4, s_84_7, s_84_10, s_84_13, s_84_17, s_84_21, s_84_24, s_84_28, s_84_31, r_33, s_33_0, s_33_4, Option.bind_some, x_tlv, x_tln, if_true, if_false, cr_isa, R_at, R_has, R_size, R_put, R_isFull, R_add, R_clear, c_has_eq, c_wa_1, c_wa_2, c_ws_1, c_ws_2, cf_0_0, cf_0_1, cf_0_2, cf_0_3, cf_0_4, cf_0_5, cf_0_6, cf_0_7, cf_0_8, cf_0_9, cf_0_10, cf_0_11, cf_0_12, cf_0_13, cp_0_12, cp_0_13, ci_0, cf_1_0, cf_1_1, cf_1_2, cf_1_3, cf_1_4, cp_1_1, cp_1_2, cp_1_3, cp_1_4, ci_1, cf_4_0, cf_4_1, cf_4_2, cf_4_3, cf_4_4, cf_4_5, cf_4_6, cf_4_7, cf_4_8, cf_4_9, cf_4_10, cp_4_0, cp_4_1, ci_4, cf_23_0, cf_23_1, cf_23_2, cf_23_3, cf_23_4, cf_23_5, cf_23_6, cf_23_7, cf_23_8, cf_23_9, cf_23_10, cp_23_0, cp_23_1, ci_23, cf_42_0, cf_42_1, cf_42_2, cf_42_3, cp_42_2, cp_42_3, ci_42, cf_47_0, cf_47_1, cf_47_2, cp_47_1, cp_47_2, ci_47, cf_50_0, cf_50_1, cf_50_2, ci_50, cf_57_0, cf_57_1, ci_57, cf_62_0, cf_62_1, ci_62, cf_67_0, cf_67_1, cf_67_2, cf_67_3, cf_67_4, cf_67_5, cp_67_1, cp_67_2, ci_67, cf_76_0, cf_76_1, cf_76_2, cf_76_3, cf_76_4, cf_76_5, cp_76_1, cp_76_2, cp_76_3, ci_76, q4, e0]
      rw [h1]
      simp (decide := true) only [s_84_0, s_84_4, s_84_7, s_84_10, s_84_13, s_84_17, s_84_21, s_84_24, s_84_28, s_84_31, Option.bind_some, x_tlv, x_tln, if_true, if_false, cr_isa, R_at, R_has, R_size, R_put, R_isFull, R_add, R_clear, c_has_eq, c_wa_1, c_wa_2, c_ws_1, c_ws_2, cf_0_0, cf_0_1, cf_0_2, cf_0_3, cf_0_4, cf_0_5, cf_0_6, cf_0_7, cf_0_8, cf_0_9, cf_0_10, cf_0_11, cf_0_12, cf_0_13, cp_0_12, cp_0_13, ci_0, cf_1_0, cf_1_1, cf_1_2, cf_1_3, cf_1_4, cp_1_1, cp_1_2, cp_1_3, cp_1_4, ci_1, cf_4_0, cf_4_1, cf_4_2, cf_4_3, cf_4_4, cf_4_5, cf_4_6, cf_4_7, cf_4_8, cf_4_9, cf_4_10, cp_4_0, cp_4_1, ci_4, cf_23_0, cf_23_1, cf_23_2, cf_23_3, cf_23_4, cf_23_5, cf_23_6, cf_23_7, cf_23_8, cf_23_9, cf_23_10, cp_23_0, cp_23_1, ci_23, cf_42_0, cf_42_1, cf_42_2, cf_42_3, cp_42_2, cp_42_3, ci_42, cf_47_0, cf_47_1, cf_47_2, cp_47_1, cp_47_2, ci_47, cf_50_0, cf_50_1, cf_50_2, ci_50, cf_57_0, cf_57_1, ci_57, cf_62_0, cf_62_1, ci_62, cf_67_0, cf_67_1, cf_67_2, cf_67_3, cf_67_4, cf_67_5, cp_67_1, cp_67_2, ci_67, cf_76_0, cf_76_1, cf_76_2, cf_76_3, cf_76_4, cf_76_5, cp_76_1, cp_76_2, cp_76_3, ci_76, r_33, s_33_0, s_33_4, h3]
    · have h1 := M_cpy 28 (m_ws μ 4 (nI n)) 4 3 (14 * n) 0 280 14 (by decide) (by omega) (by omega) (fun μ k hk => md4n μ hk) (fun μ k v hk => mt3n μ v hk)
      simp (decide := true) only [r_151, s_151_0, s_151_4, s_151_7, s_151_10, s_151_15, s_151_20, s_151_24, s_151_30, s_151_35, s_151_39, s_151_43, Option.bind_some, x_tlv, x_tln, if_true, if_false, m_wa_1, m_wa_s, m_wb_1, m_wb_2, m_wb_s, m_ws_1, m_ws_b, m_ws_s, m_ws_e, m_we_1, m_we_b, m_we_s, m_we_e, mf_0, mf_1, mf_2, mf_3, mf_4, mf_5, mf_6, mf_7, mf_8, mf_9, mf_10, mf_11, mf_12, mf_13, mf_14, mf_15, mf_16, mf_17, mf_18, mf_19, mf_20, mf_21, mf_22, mf_23, mf_24, mf_25, mf_26, mf_27, mf_28, mf_29, mf_30, mp_4, mp_7, mp_9, mp_10, mp_12, mp_14, mp_15, mp_16, mp_17, mp_18, mp_19, mp_20, mi_0, q3, e0, e2, x_14t]
      rw [show (0 : Int32) = nI 0 from rfl, h1]
      simp (decide := true) only [s_151_0, s_151_4, s_151_7, s_151_10, s_151_15, s_151_20, s_151_24, s_151_30, s_151_35, s_151_39, s_151_43, Option.bind_some, x_tlv, x_tln, if_true, if_false, m_wa_1, m_wa_s, m_wb_1, m_wb_2, m_wb_s, m_ws_1, m_ws_b, m_ws_s, m_ws_e, m_we_1, m_we_b, m_we_s, m_we_e, mf_0, mf_1, mf_2, mf_3, mf_4, mf_5, mf_6, mf_7, mf_8, mf_9, mf_10, mf_11, mf_12, mf_13, mf_14, mf_15, mf_16, mf_17, mf_18, mf_19, mf_20, mf_21, mf_22, mf_23, mf_24, mf_25, mf_26, mf_27, mf_28, mf_29, mf_30, mp_4, mp_7, mp_9, mp_10, mp_12, mp_14, mp_15, mp_16, mp_17, mp_18, mp_19, mp_20, mi_0]
    · refine ⟨U, T, P, N, hc, hu, ht, hp, hw, ⟨n1, n2, ?_⟩, ⟨n, (x + 19) % 20, by omega, by omega, rfl, rfl, rfl, fun k hk => ?_⟩, hi, hl, hb, hx, hm⟩
      · refine blk_congr hc.1.2.2.1 (fun j hj => ?_) (fun j hj => ?_) (q6 0 (by omega))
        · show n14 (c_load _ _) j = _
          rw [n14_load _ _ _ hj]
          rfl
        · show blkw (μ.1 3) 0 (fun j => μ.1 4 (14 * n + j)) j = _
          unfold blkw
          rw [if_pos (by omega)]
          exact congrArg (μ.1 4) (by omega)
      · refine blk_congr hc.1.2.2.1 (fun j hj => ?_) (fun j hj => ?_) (q6 (k + 1) (by omega))
        · show σ.1 49 (14 * (((x + 19) % 20 + 19 - k) % 20) + j) = _
          exact congrArg (σ.1 49) (by omega)
        · show μ.1 4 (14 * (n - 1 - k) + j) = _
          exact congrArg (μ.1 4) (by omega)
theorem x_keep : ∀ m, m < 4 → ∀ i, i < 2 → (nI m ||| (1 <<< (nI i &&& 31))) = nI (m ||| 2 ^ i) ∧ (m ||| 2 ^ i) < 4 ∧ (∀ j, j < 2 → ((m ||| 2 ^ i) / 2 ^ j % 2 = 1 ↔ (j = i ∨ m / 2 ^ j % 2 = 1))) ∧ (((nI m >>> (nI i &&& 31)) &&& 1) = 0 ↔ ¬ m / 2 ^ i % 2 = 1) := by decide +kernel
theorem x_t15 (n : Nat) : nI n * 15 = nI (n * 15) := pk_mul n 15
theorem x_15t (n : Nat) : (15 : Int32) * nI n = nI (15 * n) := pk_mul 15 n
theorem x_nb1 : vp_nar .boolean 1 = 1 := by decide
theorem x_i01 {i : Int32} : (¬ i < 0 ∧ i < 2) ∨ ((i < 0 ∨ (¬ i < 0 ∧ ¬ i < 2)) ∧ ¬ ((0 : Int32) ≤ i ∧ i ≤ 1)) := by
  by_cases h0 : i < 0
  · exact Or.inr ⟨Or.inl h0, fun z => absurd h0 (Int32.not_lt.mpr z.1)⟩
  · by_cases h1 : i < 2
    · exact Or.inl ⟨h0, h1⟩
    · obtain ⟨j, hj, rfl⟩ := nI_of h0
      refine Or.inr ⟨Or.inr ⟨h0, h1⟩, fun z => h1 ?_⟩
      have := (nI_leI (b := 1) hj (by omega)).mp z.2
      exact nI_lt (b := 2) (by omega) (by omega)
def c_kep (σ : x_S) (i m s : Nat) : x_S := c_ws (c_ws (c_wa σ 86 (upd (blkw (σ.1 86) (15 * i) (n14 σ)) (15 * i + 14) (nI s))) 0 12 (nI (m ||| 2 ^ i))) 47 2 0
def m_kep (μ : x_U) (i s : Nat) : x_U := m_ws (m_wa (m_wa μ 5 (upd (blkw (μ.1 5) (15 * i) (μ.1 3)) (15 * i + 14) (nI s))) 6 (upd (μ.1 6) i 1)) 4 0
theorem sim_keep (i : Int32) : Sim 102 177 [.int i] := Sim.of fun σ μ hS => by
  have hS' := hS
  obtain ⟨U, T, P, N, hc, hu, ht, hp, hw, ⟨n1, n2, nb⟩, ⟨n, x, q1, q2, q3, q4, q5, q6⟩, ⟨⟨m, i1, i2, i3⟩, i4⟩, hl, hb, hx, ⟨m1, s, m2, m3, m4⟩⟩ := hS
  rcases x_i01 (i := i) with ⟨g1, g2⟩ | ⟨g1, g2⟩
  · obtain ⟨k, hk, rfl⟩ := nI_of g1
    have hk2 : k < 2 := (nI_ltI (b := 2) hk (by omega)).mp g2
    have g3 : (0 : Int32) ≤ nI k ∧ nI k ≤ 1 := ⟨nI_le (a := 0) (by omega) (by omega), nI_le (b := 1) (by omega) (by omega)⟩
    obtain ⟨k1, k2, k3, k4⟩ := x_keep m i1 k hk2
    refine ⟨1, c_kep σ k m s, m_kep μ k s, ?_, ?_, ?_⟩
    · have hs := R_save 27 σ 85 (15 * k) (by decide) (by decide) (by decide) (by show 15 * k + 14 ≤ 30; omega)
      simp (decide := true) only [r_102, s_102_0, s_102_4, s_102_9, s_102_12, s_102_16, s_102_20, s_102_27, s_102_31, s_102_42, s_102_45, s_102_50, s_102_57, s_102_61, s_102_64, Option.bind_some, x_tlv, x_tln, if_true, if_false, cr_isa, R_at, R_has, R_size, R_put, R_isFull, R_add, R_clear, c_has_eq, c_wa_1, c_wa_2, c_ws_1, c_ws_2, cf_0_0, cf_0_1, cf_0_2, cf_0_3, cf_0_4, cf_0_5, cf_0_6, cf_0_7, cf_0_8, cf_0_9, cf_0_10, cf_0_11, cf_0_12, cf_0_13, cp_0_12, cp_0_13, ci_0, cf_1_0, cf_1_1, cf_1_2, cf_1_3, cf_1_4, cp_1_1, cp_1_2, cp_1_3, cp_1_4, ci_1, cf_4_0, cf_4_1, cf_4_2, cf_4_3, cf_4_4, cf_4_5, cf_4_6, cf_4_7, cf_4_8, cf_4_9, cf_4_10, cp_4_0, cp_4_1, ci_4, cf_23_0, cf_23_1, cf_23_2, cf_23_3, cf_23_4, cf_23_5, cf_23_6, cf_23_7, cf_23_8, cf_23_9, cf_23_10, cp_23_0, cp_23_1, ci_23, cf_42_0, cf_42_1, cf_42_2, cf_42_3, cp_42_2, cp_42_3, ci_42, cf_47_0, cf_47_1, cf_47_2, cp_47_1, cp_47_2, ci_47, cf_50_0, cf_50_1, cf_50_2, ci_50, cf_57_0, cf_57_1, ci_57, cf_62_0, cf_62_1, ci_62, cf_67_0, cf_67_1, cf_67_2, cf_67_3, cf_67_4, cf_67_5, cp_67_1, cp_67_2, ci_67, cf_76_0, cf_76_1, cf_76_2, cf_76_3, cf_76_4, cf_76_5, cp_76_1, cp_76_2, cp_76_3, ci_76, g1, g2, x_t15, Nat.mul_comm k 15, hs, m3, x_p14]
      have e2 := c_pt_wa (σ := σ) (q := 85) (i := 15 * k + 14) (F := blkw (σ.1 86) (15 * k) (n14 σ)) (v := nI s) (by show 15 * k + 14 < 30; omega)
      simp (decide := true) only [s_102_0, s_102_4, s_102_9, s_102_12, s_102_16, s_102_20, s_102_27, s_102_31, s_102_42, s_102_45, s_102_50, s_102_57, s_102_61, s_102_64, r_34, s_34_0, s_34_5, Option.bind_some, x_tlv, x_tln, if_true, if_false, cr_isa, R_at, R_has, R_size, R_put, R_isFull, R_add, R_clear, c_has_eq, c_wa_1, c_wa_2, c_ws_1, c_ws_2, cf_0_0, cf_0_1, cf_0_2, cf_0_3, cf_0_4, cf_0_5, cf_0_6, cf_0_7, cf_0_8, cf_0_9, cf_0_10, cf_0_11, cf_0_12, cf_0_13, cp_0_12, cp_0_13, ci_0, cf_1_0, cf_1_1, cf_1_2, cf_1_3, cf_1_4, cp_1_1, cp_1_2, cp_1_3, cp_1_4, ci_1, cf_4_0, cf_4_1, cf_4_2, cf_4_3, cf_4_4, cf_4_5, cf_4_6, cf_4_7, cf_4_8, cf_4_9, cf_4_10, cp_4_0, cp_4_1, ci_4, cf_23_0, cf_23_1, cf_23_2, cf_23_3, cf_23_4, cf_23_5, cf_23_6, cf_23_7, cf_23_8, cf_23_9, cf_23_10, cp_23_0, cp_23_1, ci_23, cf_42_0, cf_42_1, cf_42_2, cf_42_3, cp_42_2, cp_42_3, ci_42, cf_47_0, cf_47_1, cf_47_2, cp_47_1, cp_47_2, ci_47, cf_50_0, cf_50_1, cf_50_2, ci_50, cf_57_0, cf_57_1, ci_57, cf_62_0, cf_62_1, ci_62, cf_67_0, cf_67_1, cf_67_2, cf_67_3, cf_67_4, cf_67_5, cp_67_1, cp_67_2, ci_67, cf_76_0, cf_76_1, cf_76_2, cf_76_3, cf_76_4, cf_76_5, cp_76_1, cp_76_2, cp_76_3, ci_76, e2, i2, k1]
      rfl
    · have hs := M_cpy 28 μ 3 5 0 (15 * k) 14 30 (by decide) (by omega) (by omega) (fun μ k hk => md3n μ hk) (fun μ k v hk => mt5n μ v hk)
      rw [x_z0] at hs
      have hs : x_R x_P 29 141 [.ref 3, .int 0, .ref 5, .int (nI (15 * k))] (MG μ) = _ := hs
      simp (disch := first | decide | omega) only [r_177, s_177_0, s_177_7, s_177_10, s_177_13, s_177_17, s_177_22, s_177_29, s_177_33, s_177_44, s_177_46, s_177_50, s_177_53, s_177_58, Option.bind_some, x_tlv, x_tln, if_true, if_false, m_wa_1, m_wa_s, m_wb_1, m_wb_2, m_wb_s, m_ws_1, m_ws_b, m_ws_s, m_ws_e, m_we_1, m_we_b, m_we_s, m_we_e, mf_0, mf_1, mf_2, mf_3, mf_4, mf_5, mf_6, mf_7, mf_8, mf_9, mf_10, mf_11, mf_12, mf_13, mf_14, mf_15, mf_16, mf_17, mf_18, mf_19, mf_20, mf_21, mf_22, mf_23, mf_24, mf_25, mf_26, mf_27, mf_28, mf_29, mf_30, mp_4, mp_7, mp_9, mp_10, mp_12, mp_14, mp_15, mp_16, mp_17, mp_18, mp_19, mp_20, mi_0, M_in, x_w0, x_w1, x_wle, x_b_t g3, x_15t, hs, m4, lN_i, x_p14, x_nb1, mt5n, mt6n, m_wa_wa]
      rfl
    · refine ⟨U, T, P, N, hc, hu, ht, hp, hw, ⟨n1, n2, nb⟩, ⟨0, x, by omega, q2, rfl, rfl, q5, fun k hk => absurd hk (Nat.not_lt_zero k)⟩, ⟨⟨m ||| 2 ^ k, k2, rfl, fun j hj => ?_⟩, fun j hj => ?_⟩, hl, hb, hx, ⟨m1, s, m2, m3, m4⟩⟩
      · show (upd (μ.1 6) k 1 j = 0 ∨ upd (μ.1 6) k 1 j = 1) ∧ ((m ||| 2 ^ k) / 2 ^ j % 2 = 1 ↔ upd (μ.1 6) k 1 j = 1)
        by_cases hj2 : j = k
        · subst hj2
          rw [upd_s]
          exact ⟨Or.inr rfl, fun _ => rfl, fun _ => (k3 j hj).mpr (Or.inl rfl)⟩
        · rw [upd_n _ _ _ _ hj2]
          obtain ⟨a1, a2⟩ := i3 j hj
          exact ⟨a1, fun z => a2.mp (((k3 j hj).mp z).resolve_left hj2), fun z => (k3 j hj).mpr (Or.inr (a2.mpr z))⟩
      · show upd (μ.1 6) k 1 j = 1 → blk P U (fun z => upd (blkw (σ.1 86) (15 * k) (n14 σ)) (15 * k + 14) (nI s) (15 * j + z)) (fun z => upd (blkw (μ.1 5) (15 * k) (μ.1 3)) (15 * k + 14) (nI s) (15 * j + z)) ∧ upd (blkw (σ.1 86) (15 * k) (n14 σ)) (15 * k + 14) (nI s) (15 * j + 14) = upd (blkw (μ.1 5) (15 * k) (μ.1 3)) (15 * k + 14) (nI s) (15 * j + 14) ∧ Rg (upd (blkw (μ.1 5) (15 * k) (μ.1 3)) (15 * k + 14) (nI s) (15 * j + 14)) 0 2147483647
        intro h1
        by_cases hj2 : j = k
        · subst hj2
          refine ⟨blk_congr hc.1.2.2.1 (fun z hz => ?_) (fun z hz => ?_) nb, ?_, ?_⟩
          · show upd (blkw (σ.1 86) (15 * j) (n14 σ)) (15 * j + 14) (nI s) (15 * j + z) = _
            rw [upd_n _ _ _ _ (by omega)]
            unfold blkw
            rw [if_pos (by omega), Nat.add_sub_cancel_left]
          · show upd (blkw (μ.1 5) (15 * j) (μ.1 3)) (15 * j + 14) (nI s) (15 * j + z) = _
            rw [upd_n _ _ _ _ (by omega)]
            unfold blkw
            rw [if_pos (by omega), Nat.add_sub_cancel_left]
          · rw [upd_s, upd_s]
          · rw [upd_s]
            exact ⟨s, rfl, by omega, by omega⟩
        · rw [upd_n _ _ _ _ hj2] at h1
          obtain ⟨a1, a2, a3⟩ := i4 j hj h1
          have e : ∀ (f g : Nat → Int32) (v : Int32) (z : Nat), z < 15 → upd (blkw f (15 * k) g) (15 * k + 14) v (15 * j + z) = f (15 * j + z) := by
            intro f g v z hz
            rw [upd_n _ _ _ _ (by omega)]
            unfold blkw
            rw [if_neg (by omega)]
          refine ⟨blk_congr hc.1.2.2.1 (fun z hz => e _ _ _ z (by omega)) (fun z hz => e _ _ _ z (by omega)) a1, ?_, ?_⟩
          · rw [e _ _ _ 14 (by omega), e _ _ _ 14 (by omega)]; exact a2
          · rw [e _ _ _ 14 (by omega)]; exact a3
  · refine ⟨-1000000001, σ, μ, ?_, ?_, hS'⟩
    · rcases g1 with h | ⟨h, h'⟩
      · simp (decide := true) only [r_102, s_102_0, s_102_4, s_102_9, s_102_12, s_102_16, s_102_20, s_102_27, s_102_31, s_102_42, s_102_45, s_102_50, s_102_57, s_102_61, s_102_64, Option.bind_some, x_tlv, x_tln, if_true, if_false, cr_isa, R_at, R_has, R_size, R_put, R_isFull, R_add, R_clear, c_has_eq, c_wa_1, c_wa_2, c_ws_1, c_ws_2, cf_0_0, cf_0_1, cf_0_2, cf_0_3, cf_0_4, cf_0_5, cf_0_6, cf_0_7, cf_0_8, cf_0_9, cf_0_10, cf_0_11, cf_0_12, cf_0_13, cp_0_12, cp_0_13, ci_0, cf_1_0, cf_1_1, cf_1_2, cf_1_3, cf_1_4, cp_1_1, cp_1_2, cp_1_3, cp_1_4, ci_1, cf_4_0, cf_4_1, cf_4_2, cf_4_3, cf_4_4, cf_4_5, cf_4_6, cf_4_7, cf_4_8, cf_4_9, cf_4_10, cp_4_0, cp_4_1, ci_4, cf_23_0, cf_23_1, cf_23_2, cf_23_3, cf_23_4, cf_23_5, cf_23_6, cf_23_7, cf_23_8, cf_23_9, cf_23_10, cp_23_0, cp_23_1, ci_23, cf_42_0, cf_42_1, cf_42_2, cf_42_3, cp_42_2, cp_42_3, ci_42, cf_47_0, cf_47_1, cf_47_2, cp_47_1, cp_47_2, ci_47, cf_50_0, cf_50_1, cf_50_2, ci_50, cf_57_0, cf_57_1, ci_57, cf_62_0, cf_62_1, ci_62, cf_67_0, cf_67_1, cf_67_2, cf_67_3, cf_67_4, cf_67_5, cp_67_1, cp_67_2, ci_67, cf_76_0, cf_76_1, cf_76_2, cf_76_3, cf_76_4, cf_76_5, cp_76_1, cp_76_2, cp_76_3, ci_76, h]
      · simp (decide := true) only [r_102, s_102_0, s_102_4, s_102_9, s_102_12, s_102_16, s_102_20, s_102_27, s_102_31, s_102_42, s_102_45, s_102_50, s_102_57, s_102_61, s_102_64, Option.bind_some, x_tlv, x_tln, if_true, if_false, cr_isa, R_at, R_has, R_size, R_put, R_isFull, R_add, R_clear, c_has_eq, c_wa_1, c_wa_2, c_ws_1, c_ws_2, cf_0_0, cf_0_1, cf_0_2, cf_0_3, cf_0_4, cf_0_5, cf_0_6, cf_0_7, cf_0_8, cf_0_9, cf_0_10, cf_0_11, cf_0_12, cf_0_13, cp_0_12, cp_0_13, ci_0, cf_1_0, cf_1_1, cf_1_2, cf_1_3, cf_1_4, cp_1_1, cp_1_2, cp_1_3, cp_1_4, ci_1, cf_4_0, cf_4_1, cf_4_2, cf_4_3, cf_4_4, cf_4_5, cf_4_6, cf_4_7, cf_4_8, cf_4_9, cf_4_10, cp_4_0, cp_4_1, ci_4, cf_23_0, cf_23_1, cf_23_2, cf_23_3, cf_23_4, cf_23_5, cf_23_6, cf_23_7, cf_23_8, cf_23_9, cf_23_10, cp_23_0, cp_23_1, ci_23, cf_42_0, cf_42_1, cf_42_2, cf_42_3, cp_42_2, cp_42_3, ci_42, cf_47_0, cf_47_1, cf_47_2, cp_47_1, cp_47_2, ci_47, cf_50_0, cf_50_1, cf_50_2, ci_50, cf_57_0, cf_57_1, ci_57, cf_62_0, cf_62_1, ci_62, cf_67_0, cf_67_1, cf_67_2, cf_67_3, cf_67_4, cf_67_5, cp_67_1, cp_67_2, ci_67, cf_76_0, cf_76_1, cf_76_2, cf_76_3, cf_76_4, cf_76_5, cp_76_1, cp_76_2, cp_76_3, ci_76, h, h']
    · simp (decide := true) only [r_177, s_177_0, s_177_7, s_177_10, s_177_13, s_177_17, s_177_22, s_177_29, s_177_33, s_177_44, s_177_46, s_177_50, s_177_53, s_177_58, Option.bind_some, x_tlv, x_tln, if_true, if_false, m_wa_1, m_wa_s, m_wb_1, m_wb_2, m_wb_s, m_ws_1, m_ws_b, m_ws_s, m_ws_e, m_we_1, m_we_b, m_we_s, m_we_e, mf_0, mf_1, mf_2, mf_3, mf_4, mf_5, mf_6, mf_7, mf_8, mf_9, mf_10, mf_11, mf_12, mf_13, mf_14, mf_15, mf_16, mf_17, mf_18, mf_19, mf_20, mf_21, mf_22, mf_23, mf_24, mf_25, mf_26, mf_27, mf_28, mf_29, mf_30, mp_4, mp_7, mp_9, mp_10, mp_12, mp_14, mp_15, mp_16, mp_17, mp_18, mp_19, mp_20, mi_0, M_in, x_w0, x_w1, x_wle, x_b_f g2]
def c_bak (σ : x_S) (i s : Nat) : x_S := c_ws (c_ws (c_load σ (fun j => σ.1 86 (15 * i + j))) 0 13 (nI s)) 47 2 0
def m_bak (μ : x_U) (i s : Nat) : x_U := m_ws (m_we (m_wa μ 3 (blkw (μ.1 3) 0 (fun j => μ.1 5 (15 * i + j)))) (lN s)) 4 0
theorem sim_goBack (i : Int32) : Sim 103 178 [.int i] := Sim.of fun σ μ hS => by
  have hS' := hS
  obtain ⟨U, T, P, N, hc, hu, ht, hp, hw, ⟨n1, n2, nb⟩, ⟨n, x, q1, q2, q3, q4, q5, q6⟩, ⟨⟨m, i1, i2, i3⟩, i4⟩, hl, hb, hx, ⟨m1, s, m2, m3, m4⟩⟩ := hS
  rcases x_i01 (i := i) with ⟨g1, g2⟩ | ⟨g1, g2⟩
  · obtain ⟨k, hk, rfl⟩ := nI_of g1
    have hk2 : k < 2 := (nI_ltI (b := 2) hk (by omega)).mp g2
    have g3 : (0 : Int32) ≤ nI k ∧ nI k ≤ 1 := ⟨nI_le (a := 0) (by omega) (by omega), nI_le (b := 1) (by omega) (by omega)⟩
    obtain ⟨k1, k2, k3, k4⟩ := x_keep m i1 k hk2
    obtain ⟨a1, a2⟩ := i3 k hk2
    by_cases hh : μ.1 6 k = 1
    · have k5 : ¬ ((nI m >>> (nI k &&& 31)) &&& 1) = 0 := fun z => (k4.mp z) (a2.mpr hh)
      obtain ⟨b1, b2, v, b3, b4, b5⟩ := i4 k hk2 hh
      refine ⟨1, c_bak σ k v, m_bak μ k v, ?_, ?_, ?_⟩
      · have hs := R_load 27 σ 85 (15 * k) (by decide) (by decide) (by decide) (by show 15 * k + 14 ≤ 30; omega)
        have e1 : c_at (c_load σ (fun j => σ.1 86 (15 * k + j))) 85 (nI (15 * k + 14)) = nI v := by
          rw [c_at_n (by show 15 * k + 14 < 30; omega)]
          show σ.1 86 (15 * k + 14) = _
          rw [b2, b3]
        simp (decide := true) only [r_103, s_103_0, s_103_4, s_103_9, s_103_12, s_103_16, s_103_23, s_103_26, s_103_30, s_103_34, s_103_41, s_103_46, s_103_56, s_103_59, s_103_63, s_103_66, Option.bind_some, x_tlv, x_tln, if_true, if_false, cr_isa, R_at, R_has, R_size, R_put, R_isFull, R_add, R_clear, c_has_eq, c_wa_1, c_wa_2, c_ws_1, c_ws_2, cf_0_0, cf_0_1, cf_0_2, cf_0_3, cf_0_4, cf_0_5, cf_0_6, cf_0_7, cf_0_8, cf_0_9, cf_0_10, cf_0_11, cf_0_12, cf_0_13, cp_0_12, cp_0_13, ci_0, cf_1_0, cf_1_1, cf_1_2, cf_1_3, cf_1_4, cp_1_1, cp_1_2, cp_1_3, cp_1_4, ci_1, cf_4_0, cf_4_1, cf_4_2, cf_4_3, cf_4_4, cf_4_5, cf_4_6, cf_4_7, cf_4_8, cf_4_9, cf_4_10, cp_4_0, cp_4_1, ci_4, cf_23_0, cf_23_1, cf_23_2, cf_23_3, cf_23_4, cf_23_5, cf_23_6, cf_23_7, cf_23_8, cf_23_9, cf_23_10, cp_23_0, cp_23_1, ci_23, cf_42_0, cf_42_1, cf_42_2, cf_42_3, cp_42_2, cp_42_3, ci_42, cf_47_0, cf_47_1, cf_47_2, cp_47_1, cp_47_2, ci_47, cf_50_0, cf_50_1, cf_50_2, ci_50, cf_57_0, cf_57_1, ci_57, cf_62_0, cf_62_1, ci_62, cf_67_0, cf_67_1, cf_67_2, cf_67_3, cf_67_4, cf_67_5, cp_67_1, cp_67_2, ci_67, cf_76_0, cf_76_1, cf_76_2, cf_76_3, cf_76_4, cf_76_5, cp_76_1, cp_76_2, cp_76_3, ci_76, g1, g2, i2, k5, x_t15, Nat.mul_comm k 15, hs, x_p14, e1]
        simp (decide := true) only [s_103_0, s_103_4, s_103_9, s_103_12, s_103_16, s_103_23, s_103_26, s_103_30, s_103_34, s_103_41, s_103_46, s_103_56, s_103_59, s_103_63, s_103_66, r_34, s_34_0, s_34_5, Option.bind_some, x_tlv, x_tln, if_true, if_false, cr_isa, R_at, R_has, R_size, R_put, R_isFull, R_add, R_clear, c_has_eq, c_wa_1, c_wa_2, c_ws_1, c_ws_2, cf_0_0, cf_0_1, cf_0_2, cf_0_3, cf_0_4, cf_0_5, cf_0_6, cf_0_7, cf_0_8, cf_0_9, cf_0_10, cf_0_11, cf_0_12, cf_0_13, cp_0_12, cp_0_13, ci_0, cf_1_0, cf_1_1, cf_1_2, cf_1_3, cf_1_4, cp_1_1, cp_1_2, cp_1_3, cp_1_4, ci_1, cf_4_0, cf_4_1, cf_4_2, cf_4_3, cf_4_4, cf_4_5, cf_4_6, cf_4_7, cf_4_8, cf_4_9, cf_4_10, cp_4_0, cp_4_1, ci_4, cf_23_0, cf_23_1, cf_23_2, cf_23_3, cf_23_4, cf_23_5, cf_23_6, cf_23_7, cf_23_8, cf_23_9, cf_23_10, cp_23_0, cp_23_1, ci_23, cf_42_0, cf_42_1, cf_42_2, cf_42_3, cp_42_2, cp_42_3, ci_42, cf_47_0, cf_47_1, cf_47_2, cp_47_1, cp_47_2, ci_47, cf_50_0, cf_50_1, cf_50_2, ci_50, cf_57_0, cf_57_1, ci_57, cf_62_0, cf_62_1, ci_62, cf_67_0, cf_67_1, cf_67_2, cf_67_3, cf_67_4, cf_67_5, cp_67_1, cp_67_2, ci_67, cf_76_0, cf_76_1, cf_76_2, cf_76_3, cf_76_4, cf_76_5, cp_76_1, cp_76_2, cp_76_3, ci_76]
        rfl
      · have hs := M_cpy 28 μ 5 3 (15 * k) 0 30 14 (by decide) (by omega) (by omega) (fun μ k hk => md5n μ hk) (fun μ k v hk => mt3n μ v hk)
        have hs : x_R x_P 29 141 [.ref 5, .int (nI (15 * k)), .ref 3, .int 0] (MG μ) = _ := hs
        simp (disch := first | decide | omega) only [r_178, s_178_0, s_178_7, s_178_10, s_178_13, s_178_17, s_178_19, s_178_22, s_178_25, s_178_29, s_178_37, s_178_41, s_178_46, s_178_54, s_178_58, s_178_63, Option.bind_some, x_tlv, x_tln, if_true, if_false, m_wa_1, m_wa_s, m_wb_1, m_wb_2, m_wb_s, m_ws_1, m_ws_b, m_ws_s, m_ws_e, m_we_1, m_we_b, m_we_s, m_we_e, mf_0, mf_1, mf_2, mf_3, mf_4, mf_5, mf_6, mf_7, mf_8, mf_9, mf_10, mf_11, mf_12, mf_13, mf_14, mf_15, mf_16, mf_17, mf_18, mf_19, mf_20, mf_21, mf_22, mf_23, mf_24, mf_25, mf_26, mf_27, mf_28, mf_29, mf_30, mp_4, mp_7, mp_9, mp_10, mp_12, mp_14, mp_15, mp_16, mp_17, mp_18, mp_19, mp_20, mi_0, M_in, x_w0, x_w1, x_wle, x_b_t g3, x_15t, md6n, hh, hs, x_p14, md5n, b3]
        simp (decide := true) only [if_false, b3, nI_l (show v < 2 ^ 31 by omega)]
        rfl
      · refine ⟨U, T, P, N, hc, hu, ht, hp, hw, ⟨n1, n2, ?_⟩, ⟨0, x, by omega, q2, rfl, rfl, q5, fun k hk => absurd hk (Nat.not_lt_zero k)⟩, ⟨⟨m, i1, i2, i3⟩, i4⟩, hl, hb, hx, ⟨m1, v, by omega, rfl, rfl⟩⟩
        refine blk_congr hc.1.2.2.1 (fun j hj => ?_) (fun j hj => ?_) b1
        · show n14 (c_load σ (fun j => σ.1 86 (15 * k + j))) j = _
          rw [n14_load _ _ _ hj]
        · show blkw (μ.1 3) 0 (fun j => μ.1 5 (15 * k + j)) j = _
          unfold blkw
          rw [if_pos (by omega)]
          rfl
    · have hh0 : μ.1 6 k = 0 := a1.resolve_right hh
      have k5 : ((nI m >>> (nI k &&& 31)) &&& 1) = 0 := k4.mpr fun z => hh (a2.mp z)
      refine ⟨-1000000003, σ, μ, ?_, ?_, hS'⟩
      · simp (decide := true) only [r_103, s_103_0, s_103_4, s_103_9, s_103_12, s_103_16, s_103_23, s_103_26, s_103_30, s_103_34, s_103_41, s_103_46, s_103_56, s_103_59, s_103_63, s_103_66, Option.bind_some, x_tlv, x_tln, if_true, if_false, cr_isa, R_at, R_has, R_size, R_put, R_isFull, R_add, R_clear, c_has_eq, c_wa_1, c_wa_2, c_ws_1, c_ws_2, cf_0_0, cf_0_1, cf_0_2, cf_0_3, cf_0_4, cf_0_5, cf_0_6, cf_0_7, cf_0_8, cf_0_9, cf_0_10, cf_0_11, cf_0_12, cf_0_13, cp_0_12, cp_0_13, ci_0, cf_1_0, cf_1_1, cf_1_2, cf_1_3, cf_1_4, cp_1_1, cp_1_2, cp_1_3, cp_1_4, ci_1, cf_4_0, cf_4_1, cf_4_2, cf_4_3, cf_4_4, cf_4_5, cf_4_6, cf_4_7, cf_4_8, cf_4_9, cf_4_10, cp_4_0, cp_4_1, ci_4, cf_23_0, cf_23_1, cf_23_2, cf_23_3, cf_23_4, cf_23_5, cf_23_6, cf_23_7, cf_23_8, cf_23_9, cf_23_10, cp_23_0, cp_23_1, ci_23, cf_42_0, cf_42_1, cf_42_2, cf_42_3, cp_42_2, cp_42_3, ci_42, cf_47_0, cf_47_1, cf_47_2, cp_47_1, cp_47_2, ci_47, cf_50_0, cf_50_1, cf_50_2, ci_50, cf_57_0, cf_57_1, ci_57, cf_62_0, cf_62_1, ci_62, cf_67_0, cf_67_1, cf_67_2, cf_67_3, cf_67_4, cf_67_5, cp_67_1, cp_67_2, ci_67, cf_76_0, cf_76_1, cf_76_2, cf_76_3, cf_76_4, cf_76_5, cp_76_1, cp_76_2, cp_76_3, ci_76, g1, g2, i2, k5]
      · simp (disch := first | decide | omega) only [r_178, s_178_0, s_178_7, s_178_10, s_178_13, s_178_17, s_178_19, s_178_22, s_178_25, s_178_29, s_178_37, s_178_41, s_178_46, s_178_54, s_178_58, s_178_63, Option.bind_some, x_tlv, x_tln, if_true, if_false, m_wa_1, m_wa_s, m_wb_1, m_wb_2, m_wb_s, m_ws_1, m_ws_b, m_ws_s, m_ws_e, m_we_1, m_we_b, m_we_s, m_we_e, mf_0, mf_1, mf_2, mf_3, mf_4, mf_5, mf_6, mf_7, mf_8, mf_9, mf_10, mf_11, mf_12, mf_13, mf_14, mf_15, mf_16, mf_17, mf_18, mf_19, mf_20, mf_21, mf_22, mf_23, mf_24, mf_25, mf_26, mf_27, mf_28, mf_29, mf_30, mp_4, mp_7, mp_9, mp_10, mp_12, mp_14, mp_15, mp_16, mp_17, mp_18, mp_19, mp_20, mi_0, M_in, x_w0, x_w1, x_wle, x_b_t g3, x_15t, md6n, hh0]
        rw [if_neg (by decide)]
  · refine ⟨-1000000001, σ, μ, ?_, ?_, hS'⟩
    · rcases g1 with h | ⟨h, h'⟩
      · simp (decide := true) only [r_103, s_103_0, s_103_4, s_103_9, s_103_12, s_103_16, s_103_23, s_103_26, s_103_30, s_103_34, s_103_41, s_103_46, s_103_56, s_103_59, s_103_63, s_103_66, Option.bind_some, x_tlv, x_tln, if_true, if_false, cr_isa, R_at, R_has, R_size, R_put, R_isFull, R_add, R_clear, c_has_eq, c_wa_1, c_wa_2, c_ws_1, c_ws_2, cf_0_0, cf_0_1, cf_0_2, cf_0_3, cf_0_4, cf_0_5, cf_0_6, cf_0_7, cf_0_8, cf_0_9, cf_0_10, cf_0_11, cf_0_12, cf_0_13, cp_0_12, cp_0_13, ci_0, cf_1_0, cf_1_1, cf_1_2, cf_1_3, cf_1_4, cp_1_1, cp_1_2, cp_1_3, cp_1_4, ci_1, cf_4_0, cf_4_1, cf_4_2, cf_4_3, cf_4_4, cf_4_5, cf_4_6, cf_4_7, cf_4_8, cf_4_9, cf_4_10, cp_4_0, cp_4_1, ci_4, cf_23_0, cf_23_1, cf_23_2, cf_23_3, cf_23_4, cf_23_5, cf_23_6, cf_23_7, cf_23_8, cf_23_9, cf_23_10, cp_23_0, cp_23_1, ci_23, cf_42_0, cf_42_1, cf_42_2, cf_42_3, cp_42_2, cp_42_3, ci_42, cf_47_0, cf_47_1, cf_47_2, cp_47_1, cp_47_2, ci_47, cf_50_0, cf_50_1, cf_50_2, ci_50, cf_57_0, cf_57_1, ci_57, cf_62_0, cf_62_1, ci_62, cf_67_0, cf_67_1, cf_67_2, cf_67_3, cf_67_4, cf_67_5, cp_67_1, cp_67_2, ci_67, cf_76_0, cf_76_1, cf_76_2, cf_76_3, cf_76_4, cf_76_5, cp_76_1, cp_76_2, cp_76_3, ci_76, h]
      · simp (decide := true) only [r_103, s_103_0, s_103_4, s_103_9, s_103_12, s_103_16, s_103_23, s_103_26, s_103_30, s_103_34, s_103_41, s_103_46, s_103_56, s_103_59, s_103_63, s_103_66, Option.bind_some, x_tlv, x_tln, if_true, if_false, cr_isa, R_at, R_has, R_size, R_put, R_isFull, R_add, R_clear, c_has_eq, c_wa_1, c_wa_2, c_ws_1, c_ws_2, cf_0_0, cf_0_1, cf_0_2, cf_0_3, cf_0_4, cf_0_5, cf_0_6, cf_0_7, cf_0_8, cf_0_9, cf_0_10, cf_0_11, cf_0_12, cf_0_13, cp_0_12, cp_0_13, ci_0, cf_1_0, cf_1_1, cf_1_2, cf_1_3, cf_1_4, cp_1_1, cp_1_2, cp_1_3, cp_1_4, ci_1, cf_4_0, cf_4_1, cf_4_2, cf_4_3, cf_4_4, cf_4_5, cf_4_6, cf_4_7, cf_4_8, cf_4_9, cf_4_10, cp_4_0, cp_4_1, ci_4, cf_23_0, cf_23_1, cf_23_2, cf_23_3, cf_23_4, cf_23_5, cf_23_6, cf_23_7, cf_23_8, cf_23_9, cf_23_10, cp_23_0, cp_23_1, ci_23, cf_42_0, cf_42_1, cf_42_2, cf_42_3, cp_42_2, cp_42_3, ci_42, cf_47_0, cf_47_1, cf_47_2, cp_47_1, cp_47_2, ci_47, cf_50_0, cf_50_1, cf_50_2, ci_50, cf_57_0, cf_57_1, ci_57, cf_62_0, cf_62_1, ci_62, cf_67_0, cf_67_1, cf_67_2, cf_67_3, cf_67_4, cf_67_5, cp_67_1, cp_67_2, ci_67, cf_76_0, cf_76_1, cf_76_2, cf_76_3, cf_76_4, cf_76_5, cp_76_1, cp_76_2, cp_76_3, ci_76, h, h']
    · simp (decide := true) only [r_178, s_178_0, s_178_7, s_178_10, s_178_13, s_178_17, s_178_19, s_178_22, s_178_25, s_178_29, s_178_37, s_178_41, s_178_46, s_178_54, s_178_58, s_178_63, Option.bind_some, x_tlv, x_tln, if_true, if_false, m_wa_1, m_wa_s, m_wb_1, m_wb_2, m_wb_s, m_ws_1, m_ws_b, m_ws_s, m_ws_e, m_we_1, m_we_b, m_we_s, m_we_e, mf_0, mf_1, mf_2, mf_3, mf_4, mf_5, mf_6, mf_7, mf_8, mf_9, mf_10, mf_11, mf_12, mf_13, mf_14, mf_15, mf_16, mf_17, mf_18, mf_19, mf_20, mf_21, mf_22, mf_23, mf_24, mf_25, mf_26, mf_27, mf_28, mf_29, mf_30, mp_4, mp_7, mp_9, mp_10, mp_12, mp_14, mp_15, mp_16, mp_17, mp_18, mp_19, mp_20, mi_0, M_in, x_w0, x_w1, x_wle, x_b_f g2]
