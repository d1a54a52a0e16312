/-! shop: what is so behind it -/
/-- behind a text at fault all is as it was, but the text and the fault -/
theorem SIM_keep {σ σ' : x_S} {μ μ' : x_U} (hS : SIM σ μ) (o1 : ∀ x, 4 ≤ x → ¬ (23 ≤ x ∧ x ≤ 41) → σ'.1 x = σ.1 x) (o2 : ∀ x, x = 0 ∨ 4 ≤ x → ¬ (23 ≤ x ∧ x ≤ 41) → σ'.2 x = σ.2 x) (m1 : ∀ x, x ≠ 2 → μ'.1 x = μ.1 x) (m2 : ∀ k, k = 4 ∨ k = 12 ∨ k = 14 → μ'.2.2.1 k = μ.2.2.1 k) (me : μ'.2.2.2 = μ.2.2.2) (t1 : σ'.2 2 1 = 0) (t2 : μ'.2.2.1 9 = 0) (q1 : σ'.2 1 1 = μ'.2.2.1 10) : SIM σ' μ' := by
  obtain ⟨U, T, P, N, hc, hu, ht, hp, hw, ⟨n1, n2, nb⟩, hpa, hi, hl, hb, hx, hm⟩ := hS
  have e14 : n14 σ' = n14 σ := by unfold n14; rw [o1 44 (by omega) (by omega), o1 46 (by omega) (by omega), o2 42 (by omega) (by omega)]
  refine ⟨U, T, P, N, ?_, ?_, ?_, ?_, ?_, ⟨?_, ?_, ?_⟩, ?_, ?_, ?_, ?_, ?_, ?_⟩
  · unfold S_cnt; rw [o2 4 (by omega) (by omega), o2 5 (by omega) (by omega), o2 7 (by omega) (by omega), o2 15 (by omega) (by omega), o2 19 (by omega) (by omega), m1 1 (by omega)]; exact hc
  · unfold S_use; rw [o1 6 (by omega) (by omega), m1 1 (by omega)]; exact hu
  · unfold S_tab; rw [o1 8 (by omega) (by omega), o1 10 (by omega) (by omega), o1 12 (by omega) (by omega), o1 14 (by omega) (by omega), m1 1 (by omega)]; exact ht
  · unfold S_pie; rw [o1 16 (by omega) (by omega), o1 18 (by omega) (by omega), m1 1 (by omega)]; exact hp
  · unfold S_wan; rw [o1 20 (by omega) (by omega), o1 22 (by omega) (by omega), m1 1 (by omega)]; exact hw
  · rw [o2 43 (by omega) (by omega)]; exact n1
  · rw [o2 45 (by omega) (by omega)]; exact n2
  · rw [e14, m1 3 (by omega)]; exact nb
  · unfold S_past; rw [o2 47 (by omega) (by omega), o1 49 (by omega) (by omega), m1 4 (by omega), m2 4 (by omega)]; exact hpa
  · unfold S_img; rw [o2 0 (by omega) (by omega), o1 86 (by omega) (by omega), m1 6 (by omega), m1 5 (by omega)]; exact hi
  · unfold S_left; rw [o2 51 (by omega) (by omega), o2 53 (by omega) (by omega), o2 55 (by omega) (by omega), o1 52 (by omega) (by omega), o1 54 (by omega) (by omega), o1 56 (by omega) (by omega), m1 8 (by omega), m2 12 (by omega)]; exact hl
  · unfold S_book; rw [o2 58 (by omega) (by omega), o2 60 (by omega) (by omega), o1 59 (by omega) (by omega), o1 61 (by omega) (by omega), m1 9 (by omega), m2 14 (by omega)]; exact hb
  · exact ⟨0, by omega, t2, t1, fun k hk => absurd hk (Nat.not_lt_zero k)⟩
  · unfold S_misc at hm ⊢; rw [o2 0 (by omega) (by omega), me]; exact ⟨q1, hm.2⟩
/-- the text as numbers -/
theorem S_text_f {σ : x_S} {μ : x_U} (h : S_text σ μ) : ∃ n f, TX σ n f ∧ TM μ n f := by
  obtain ⟨n, hn, h1, h2, h3⟩ := h
  have g : ∀ k, k < n → σ.1 3 k = nI (μ.1 7 k).toNatClampNeg ∧ μ.1 7 k = nI (μ.1 7 k).toNatClampNeg ∧ (μ.1 7 k).toNatClampNeg ≤ 255 := fun k hk => by
    obtain ⟨e1, v, e2, -, e4⟩ := h3 k hk
    have e3 : (μ.1 7 k).toNatClampNeg = v := by rw [e2, nI_clamp (by omega)]
    rw [e3, e1]
    exact ⟨e2, e2, e4⟩
  exact ⟨n, fun k => (μ.1 7 k).toNatClampNeg, ⟨hn, h2, fun k hk => ⟨(g k hk).1, (g k hk).2.2⟩⟩, ⟨hn, h1, fun k hk => ⟨(g k hk).2.1, (g k hk).2.2⟩⟩⟩
theorem V_begin {P U : Nat} {x y w : Nat → Nat} {σ : x_S} (d : Nat) (hP : P ≤ 6) (hU : U ≤ 6) (h34 : σ.2 34 1 = nI P) (hp : ∀ p, p < P → σ.1 35 p = nI (x p) ∧ x p < U ∧ σ.1 37 p = nI (y p)) (hu : ∀ u, u < U → σ.1 25 u = nI (w u)) : ∃ σ', x_R x_P (d + 3) 7 [.ref 42, .ref 23] (CS σ) = some (none, CS σ') ∧ (∀ q, q ≠ 44 → q ≠ 46 → σ'.1 q = σ.1 q) ∧ (∀ q, q ≠ 42 → q ≠ 43 → q ≠ 45 → σ'.2 q = σ.2 q) ∧ σ'.2 43 1 = nI P ∧ σ'.2 45 1 = nI P ∧ σ'.2 42 2 = 0 ∧ σ'.2 42 3 = 0 ∧ ∀ p, p < P → σ'.1 44 p = nI (y p * w (x p)) ∧ σ'.1 46 p = nI (x p) := by
  obtain ⟨σ1, hσ⟩ : ∃ σ1, σ1 = c_ws (c_ws σ 43 1 0) 45 1 0 := ⟨_, rfl⟩
  have o1 : σ1.1 = σ.1 := by rw [hσ]; rfl
  have o2 : ∀ q, q ≠ 43 → q ≠ 45 → σ1.2 q = σ.2 q := fun q z1 z2 => by
    rw [hσ]
    show (if q = 45 then _ else if q = 43 then _ else σ.2 q) = _
    rw [if_neg z2, if_neg z1]
  obtain ⟨σ2, e', r1, r2, r3, r4, r5, r6⟩ := E_begin (x := x) (y := y) (w := w) d hP hU P 0 σ1 x_j (by omega) (by rw [o2 34 (by decide) (by decide)]; exact h34) (by rw [o1]; exact hp) (by rw [o1]; exact hu) (by rw [hσ]; rfl) (by rw [hσ]; rfl) (fun p hp => absurd hp (Nat.not_lt_zero p))
  have r1 : x_E x_P (d + 2) x_c7 16 [.ref 42, .ref 23, .int 0, x_j] [] (CS σ1) = _ := r1
  refine ⟨c_ws (c_ws σ2 42 2 0) 42 3 0, ?_, fun q z1 z2 => (r2 q z1 z2).trans (by rw [o1]), fun q z0 z1 z2 => ?_, r4, r5, rfl, rfl, r6⟩
  · rw [hσ] at r1
    simp (decide := true) only [r_7, s_7_0, s_7_4, s_7_7, s_7_11, s_7_14, Option.bind_some, x_tlv, x_tln, if_true, if_false, er_isa, V_at, V_has, V_size, V_put, V_isFull, V_add, V_clear, c_has_eq, c_wa_1, c_wa_2, c_ws_1, c_ws_2, ef_0_0, ef_0_1, ef_0_2, ef_0_3, ef_0_4, ef_0_5, ef_0_6, ef_0_7, ef_0_8, ef_0_9, ef_0_10, ef_0_11, ef_0_12, ef_0_13, ep_0_12, ep_0_13, ei_0, ef_1_0, ef_1_1, ef_1_2, ef_1_3, ef_1_4, ep_1_1, ep_1_2, ep_1_3, ep_1_4, ei_1, ef_4_0, ef_4_1, ef_4_2, ef_4_3, ef_4_4, ef_4_5, ef_4_6, ef_4_7, ef_4_8, ef_4_9, ef_4_10, ep_4_0, ep_4_1, ei_4, ef_23_0, ef_23_1, ef_23_2, ef_23_3, ef_23_4, ef_23_5, ef_23_6, ef_23_7, ef_23_8, ef_23_9, ef_23_10, ep_23_0, ep_23_1, ei_23, ef_42_0, ef_42_1, ef_42_2, ef_42_3, ep_42_2, ep_42_3, ei_42, ef_47_0, ef_47_1, ef_47_2, ep_47_1, ep_47_2, ei_47, ef_50_0, ef_50_1, ef_50_2, ei_50, ef_57_0, ef_57_1, ei_57, ef_62_0, ef_62_1, ei_62, ef_67_0, ef_67_1, ef_67_2, ef_67_3, ef_67_4, ef_67_5, ep_67_1, ep_67_2, ei_67, ef_76_0, ef_76_1, ef_76_2, ef_76_3, ef_76_4, ef_76_5, ep_76_1, ep_76_2, ep_76_3, ei_76]
    refine Eq.trans r1 ?_
    simp (decide := true) only [s_7_74, s_7_79, s_7_84, Option.bind_some, x_tlv, x_tln, if_true, if_false, er_isa, V_at, V_has, V_size, V_put, V_isFull, V_add, V_clear, c_has_eq, c_wa_1, c_wa_2, c_ws_1, c_ws_2, ef_0_0, ef_0_1, ef_0_2, ef_0_3, ef_0_4, ef_0_5, ef_0_6, ef_0_7, ef_0_8, ef_0_9, ef_0_10, ef_0_11, ef_0_12, ef_0_13, ep_0_12, ep_0_13, ei_0, ef_1_0, ef_1_1, ef_1_2, ef_1_3, ef_1_4, ep_1_1, ep_1_2, ep_1_3, ep_1_4, ei_1, ef_4_0, ef_4_1, ef_4_2, ef_4_3, ef_4_4, ef_4_5, ef_4_6, ef_4_7, ef_4_8, ef_4_9, ef_4_10, ep_4_0, ep_4_1, ei_4, ef_23_0, ef_23_1, ef_23_2, ef_23_3, ef_23_4, ef_23_5, ef_23_6, ef_23_7, ef_23_8, ef_23_9, ef_23_10, ep_23_0, ep_23_1, ei_23, ef_42_0, ef_42_1, ef_42_2, ef_42_3, ep_42_2, ep_42_3, ei_42, ef_47_0, ef_47_1, ef_47_2, ep_47_1, ep_47_2, ei_47, ef_50_0, ef_50_1, ef_50_2, ei_50, ef_57_0, ef_57_1, ei_57, ef_62_0, ef_62_1, ei_62, ef_67_0, ef_67_1, ef_67_2, ef_67_3, ef_67_4, ef_67_5, ep_67_1, ep_67_2, ei_67, ef_76_0, ef_76_1, ef_76_2, ef_76_3, ef_76_4, ef_76_5, ep_76_1, ep_76_2, ep_76_3, ei_76]
  · show (if q = 42 then _ else if q = 42 then _ else σ2.2 q) = _
    rw [if_neg z0, if_neg z0]
    exact (r3 q z1 z2).trans (o2 q z1 z2)
def TL (σ : x_S) : x_S := c_ws (c_ws (c_ws (c_ws (c_ws (c_ws (c_ws σ 51 1 0) 53 1 0) 55 1 0) 58 1 0) 60 1 0) 47 2 0) 0 12 0
theorem V_tail (d : Nat) (σ : x_S) (b : Int32) (c : Nat) : x_E x_P (d + 2) x_c73 50 [.ref 0, .int b, .ref c] [] (CS σ) = some (some (.int (σ.2 24 1)), CS (TL σ)) := by
  have e : (TL σ).2 24 1 = σ.2 24 1 := rfl
  rw [← e]
  simp (decide := true) only [s_73_50, s_73_54, s_73_57, s_73_61, s_73_64, s_73_68, s_73_71, s_73_76, s_73_80, s_73_83, s_73_86, r_30, s_30_0, s_30_4, s_30_7, s_30_11, s_30_14, s_30_18, s_30_21, r_4, s_4_0, s_4_4, s_4_7, s_4_11, s_4_14, r_34, s_34_0, s_34_5, Option.bind_some, x_tlv, x_tln, if_true, if_false, er_isa, V_at, V_has, V_size, V_put, V_isFull, V_add, V_clear, c_has_eq, c_wa_1, c_wa_2, c_ws_1, c_ws_2, ef_0_0, ef_0_1, ef_0_2, ef_0_3, ef_0_4, ef_0_5, ef_0_6, ef_0_7, ef_0_8, ef_0_9, ef_0_10, ef_0_11, ef_0_12, ef_0_13, ep_0_12, ep_0_13, ei_0, ef_1_0, ef_1_1, ef_1_2, ef_1_3, ef_1_4, ep_1_1, ep_1_2, ep_1_3, ep_1_4, ei_1, ef_4_0, ef_4_1, ef_4_2, ef_4_3, ef_4_4, ef_4_5, ef_4_6, ef_4_7, ef_4_8, ef_4_9, ef_4_10, ep_4_0, ep_4_1, ei_4, ef_23_0, ef_23_1, ef_23_2, ef_23_3, ef_23_4, ef_23_5, ef_23_6, ef_23_7, ef_23_8, ef_23_9, ef_23_10, ep_23_0, ep_23_1, ei_23, ef_42_0, ef_42_1, ef_42_2, ef_42_3, ep_42_2, ep_42_3, ei_42, ef_47_0, ef_47_1, ef_47_2, ep_47_1, ep_47_2, ei_47, ef_50_0, ef_50_1, ef_50_2, ei_50, ef_57_0, ef_57_1, ei_57, ef_62_0, ef_62_1, ei_62, ef_67_0, ef_67_1, ef_67_2, ef_67_3, ef_67_4, ef_67_5, ep_67_1, ep_67_2, ei_67, ef_76_0, ef_76_1, ef_76_2, ef_76_3, ef_76_4, ef_76_5, ep_76_1, ep_76_2, ep_76_3, ei_76]
  rfl
/-- the model begins -/
theorem M_begins {μ : x_U} {P U : Nat} {x y w : Nat → Nat} (d : Nat) (hP : P ≤ 6) (hU : U ≤ 6) (h4 : μ.1 1 4 = nI P) (hp : ∀ p, p < P → μ.1 1 (44 + p) = nI (x p) ∧ x p < U ∧ μ.1 1 (50 + p) = nI (y p)) (hu : ∀ u, u < U → μ.1 1 (6 + u) = nI (w u)) : ∃ μ', x_R x_P (d + 1) 114 [.ref 0] (MG μ) = some (none, MG μ') ∧ (∀ q, q ≠ 3 → q ≠ 6 → μ'.1 q = μ.1 q) ∧ (μ'.2.2.1 4 = 0 ∧ μ'.2.2.1 12 = 0 ∧ μ'.2.2.1 14 = 0) ∧ (∀ k, k ≠ 4 → k ≠ 12 → k ≠ 14 → μ'.2.2.1 k = μ.2.2.1 k) ∧ μ'.2.2.2 = μ.2.2.2 ∧ (∀ p, p < P → μ'.1 3 p = nI (y p * w (x p)) ∧ μ'.1 3 (6 + p) = nI (x p)) ∧ (∀ p, P ≤ p → p < 6 → μ'.1 3 p = 0) ∧ μ'.1 3 12 = 0 ∧ μ'.1 3 13 = 0 ∧ μ'.1 6 0 = 0 ∧ μ'.1 6 1 = 0 := by
  have z := M_bz μ d (μ.1 3) 14 0 rfl
  rw [x_fl_0, m_wa_id] at z
  obtain ⟨F', r1, r2, r3⟩ := M_bp (μ := μ) d hP hU h4 hp hu P 0 (x_fl (μ.1 3) 0 14) (by omega) (fun p hp => absurd hp (Nat.not_lt_zero p))
  have r1 : x_E x_P d x_c114 23 [.ref 0, .int 0] [] (MG (m_wa μ 3 (x_fl (μ.1 3) 0 14))) = _ := r1
  have nb : vp_nar .boolean 0 = 0 := by decide
  have k0 : ∀ ν : x_U, x_ist (MG ν) 6 2 0 0 = some (MG (m_wa ν 6 (upd (ν.1 6) 0 0))) := fun ν => mt6n ν (k := 0) 0 (by decide)
  have k1 : ∀ ν : x_U, x_ist (MG ν) 6 2 1 0 = some (MG (m_wa ν 6 (upd (ν.1 6) 1 0))) := fun ν => mt6n ν (k := 1) 0 (by decide)
  refine ⟨m_wa (m_wa (m_ws (m_ws (m_ws (m_wa μ 3 F') 4 0) 12 0) 14 0) 6 (upd (μ.1 6) 0 0)) 6 (upd (upd (μ.1 6) 0 0) 1 0), ?_, fun q z1 z2 => ?_, ⟨rfl, rfl, rfl⟩, fun k z1 z2 z3 => ?_, rfl, r2, fun p z1 z2 => ?_, ?_, ?_, rfl, rfl⟩
  · rw [r_114, s_114_0]
    refine Eq.trans z ?_
    rw [s_114_21]
    refine Eq.trans r1 ?_
    simp (decide := true) only [s_114_92, s_114_97, s_114_102, s_114_107, s_114_111, s_114_114, s_114_118, s_114_121, Option.bind_some, x_tlv, x_tln, if_true, if_false, m_wa_1, m_wa_s, m_wb_1, m_wb_2, m_wb_s, m_ws_1, m_ws_b, m_ws_s, m_ws_e, m_we_1, m_we_b, m_we_s, m_we_e, mf_0, mf_1, mf_2, mf_3, mf_4, mf_5, mf_6, mf_7, mf_8, mf_9, mf_10, mf_11, mf_12, mf_13, mf_14, mf_15, mf_16, mf_17, mf_18, mf_19, mf_20, mf_21, mf_22, mf_23, mf_24, mf_25, mf_26, mf_27, mf_28, mf_29, mf_30, mp_4, mp_7, mp_9, mp_10, mp_12, mp_14, mp_15, mp_16, mp_17, mp_18, mp_19, mp_20, mi_0, nb, k0, k1]
  · show (if q = 6 then _ else if q = 6 then _ else if q = 3 then _ else μ.1 q) = _
    rw [if_neg z2, if_neg z2, if_neg z1]
  · show (if k = 14 then _ else if k = 12 then _ else if k = 4 then _ else μ.2.2.1 k) = _
    rw [if_neg z3, if_neg z2, if_neg z1]
  · exact (r3 p z1 (Or.inl z2)).trans (if_pos (by omega))
  · exact (r3 12 (by omega) (Or.inr (by omega))).trans (if_pos (by omega))
  · exact (r3 13 (by omega) (Or.inr (by omega))).trans (if_pos (by omega))
