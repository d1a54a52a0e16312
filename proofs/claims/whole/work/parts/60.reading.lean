/-! reading: clause by clause, on both sides -/
theorem E_r68 (d : Nat) (σ : x_S) (a b c e k : Int32) : x_E x_P (d + 5) x_c38 68 [.ref 1, .ref 23, .int k] [] (CG (RD σ a b c e)) = some (some (.int b), CG (c_ws (RD σ a b c e) 2 1 0)) := by
  have e1 : (c_ws (RD σ a b c e) 2 1 0).2 1 2 = b := rfl
  simp (decide := true) only [s_38_68, s_38_72, s_38_75, s_38_79, cf_1_0, cr_isa, R_clear, cf_1_2, Option.bind_some, x_tlv, x_tln, if_true, e1]
/-- at fault: the loop ends -/
theorem E_rill {σ : x_S} {n p : Nat} {f : Nat → Nat} (d : Nat) (h : TX σ n f) (a W e k : Int32) (h0 : W ≠ 0) (hp : p ≤ 20000) : ∃ p', x_E x_P (d + 5) x_c38 58 [.ref 1, .ref 23, .int k] [] (CG (RD σ a W (nI p) e)) = some (some (.int W), CG (c_ws (RD σ a W (nI p') e) 2 1 0)) := by
  have hs : x_R x_P (d + 5) 48 [.ref 1] (CG (RD σ a W (nI p) e)) = some (none, CG (RD σ a W (nI (sk f n p)) e)) := R_skip (d + 3) h a W e (by omega)
  have h2 := h.2.1
  refine ⟨sk f n p, ?_⟩
  have t := E_r68 d σ a W (nI (sk f n p)) e (k + 1)
  rw [← t]
  simp (decide := true) only [s_38_58, s_38_62, Option.bind_some, x_tlv, x_tln, if_true, if_false, cr_isa, R_at, R_has, R_size, R_put, R_isFull, R_add, R_clear, c_has_eq, c_wa_1, c_wa_2, c_ws_1, c_ws_2, cf_0_0, cf_0_1, cf_0_2, cf_0_3, cf_0_4, cf_0_5, cf_0_6, cf_0_7, cf_0_8, cf_0_9, cf_0_10, cf_0_11, cf_0_12, cf_0_13, cp_0_12, cp_0_13, ci_0, cf_1_0, cf_1_1, cf_1_2, cf_1_3, cf_1_4, cp_1_1, cp_1_2, cp_1_3, cp_1_4, ci_1, cf_4_0, cf_4_1, cf_4_2, cf_4_3, cf_4_4, cf_4_5, cf_4_6, cf_4_7, cf_4_8, cf_4_9, cf_4_10, cp_4_0, cp_4_1, ci_4, cf_23_0, cf_23_1, cf_23_2, cf_23_3, cf_23_4, cf_23_5, cf_23_6, cf_23_7, cf_23_8, cf_23_9, cf_23_10, cp_23_0, cp_23_1, ci_23, cf_42_0, cf_42_1, cf_42_2, cf_42_3, cp_42_2, cp_42_3, ci_42, cf_47_0, cf_47_1, cf_47_2, cp_47_1, cp_47_2, ci_47, cf_50_0, cf_50_1, cf_50_2, ci_50, cf_57_0, cf_57_1, ci_57, cf_62_0, cf_62_1, ci_62, cf_67_0, cf_67_1, cf_67_2, cf_67_3, cf_67_4, cf_67_5, cp_67_1, cp_67_2, ci_67, cf_76_0, cf_76_1, cf_76_2, cf_76_3, cf_76_4, cf_76_5, cp_76_1, cp_76_2, cp_76_3, ci_76, hs]
  rw [s_38_25]
  by_cases c1 : (240 : Int32) ≤ k + 1
  · rw [if_pos c1]
  · rw [if_neg c1]
    by_cases c2 : σ.2 2 1 ≤ nI (sk f n p)
    · simp (decide := true) only [s_38_32, s_38_36, s_38_40, s_38_43, Option.bind_some, x_tlv, x_tln, if_true, if_false, cr_isa, R_at, R_has, R_size, R_put, R_isFull, R_add, R_clear, c_has_eq, c_wa_1, c_wa_2, c_ws_1, c_ws_2, cf_0_0, cf_0_1, cf_0_2, cf_0_3, cf_0_4, cf_0_5, cf_0_6, cf_0_7, cf_0_8, cf_0_9, cf_0_10, cf_0_11, cf_0_12, cf_0_13, cp_0_12, cp_0_13, ci_0, cf_1_0, cf_1_1, cf_1_2, cf_1_3, cf_1_4, cp_1_1, cp_1_2, cp_1_3, cp_1_4, ci_1, cf_4_0, cf_4_1, cf_4_2, cf_4_3, cf_4_4, cf_4_5, cf_4_6, cf_4_7, cf_4_8, cf_4_9, cf_4_10, cp_4_0, cp_4_1, ci_4, cf_23_0, cf_23_1, cf_23_2, cf_23_3, cf_23_4, cf_23_5, cf_23_6, cf_23_7, cf_23_8, cf_23_9, cf_23_10, cp_23_0, cp_23_1, ci_23, cf_42_0, cf_42_1, cf_42_2, cf_42_3, cp_42_2, cp_42_3, ci_42, cf_47_0, cf_47_1, cf_47_2, cp_47_1, cp_47_2, ci_47, cf_50_0, cf_50_1, cf_50_2, ci_50, cf_57_0, cf_57_1, ci_57, cf_62_0, cf_62_1, ci_62, cf_67_0, cf_67_1, cf_67_2, cf_67_3, cf_67_4, cf_67_5, cp_67_1, cp_67_2, ci_67, cf_76_0, cf_76_1, cf_76_2, cf_76_3, cf_76_4, cf_76_5, cp_76_1, cp_76_2, cp_76_3, ci_76, RD_c, RD_n, c2]
    · simp (decide := true) only [s_38_32, s_38_36, s_38_40, s_38_43, s_38_46, s_38_50, Option.bind_some, x_tlv, x_tln, if_true, if_false, cr_isa, R_at, R_has, R_size, R_put, R_isFull, R_add, R_clear, c_has_eq, c_wa_1, c_wa_2, c_ws_1, c_ws_2, cf_0_0, cf_0_1, cf_0_2, cf_0_3, cf_0_4, cf_0_5, cf_0_6, cf_0_7, cf_0_8, cf_0_9, cf_0_10, cf_0_11, cf_0_12, cf_0_13, cp_0_12, cp_0_13, ci_0, cf_1_0, cf_1_1, cf_1_2, cf_1_3, cf_1_4, cp_1_1, cp_1_2, cp_1_3, cp_1_4, ci_1, cf_4_0, cf_4_1, cf_4_2, cf_4_3, cf_4_4, cf_4_5, cf_4_6, cf_4_7, cf_4_8, cf_4_9, cf_4_10, cp_4_0, cp_4_1, ci_4, cf_23_0, cf_23_1, cf_23_2, cf_23_3, cf_23_4, cf_23_5, cf_23_6, cf_23_7, cf_23_8, cf_23_9, cf_23_10, cp_23_0, cp_23_1, ci_23, cf_42_0, cf_42_1, cf_42_2, cf_42_3, cp_42_2, cp_42_3, ci_42, cf_47_0, cf_47_1, cf_47_2, cp_47_1, cp_47_2, ci_47, cf_50_0, cf_50_1, cf_50_2, ci_50, cf_57_0, cf_57_1, ci_57, cf_62_0, cf_62_1, ci_62, cf_67_0, cf_67_1, cf_67_2, cf_67_3, cf_67_4, cf_67_5, cp_67_1, cp_67_2, ci_67, cf_76_0, cf_76_1, cf_76_2, cf_76_3, cf_76_4, cf_76_5, cp_76_1, cp_76_2, cp_76_3, ci_76, RD_c, RD_n, RD_b, c2, h0]
/-- the model at a clause's word -/
def HDn (f : Nat → Nat) (n q : Nat) (s a : Int32) : Prop := (q < n → (48 ≤ f q ∧ f q ≤ 57 → s = 48) ∧ (¬ (48 ≤ f q ∧ f q ≤ 57) → s = nI (f q) ∧ a = nI (q + 1)) ∧ ¬ s < 0) ∧ (¬ q < n → s < 0)
theorem M_head {μ : x_U} {n p : Nat} {f : Nat → Nat} (d : Nat) (h : TM μ n f) (A : Nat → Int32) (b s g v w : Int32) (hp : p < 2 ^ 27) : ∃ s' a' g' v', HDn f n (sk f n p) s' a' ∧ x_R x_P (d + 6) 117 [.ref 0] (MG (RM μ A (nI p) b s g v w)) = some (none, MG (RM μ A a' (nI (sk f n p)) s' g' v' w)) := by
  have h3 : ∀ k, k < n → f k ≤ 255 := fun k hk => (h.2.2 k hk).2
  by_cases hx : fig f n (sk f n p)
  · have hs := M_step_fig (d + 4) h A b s g v w hp rfl rfl hx
    exact ⟨_, _, _, _, ⟨fun _ => ⟨fun _ => rfl, fun z => absurd hx.2 z, by decide⟩, fun z => absurd hx.1 z⟩, hs⟩
  · have hs := M_step_non (d + 4) h A b s g v w hp rfl hx
    refine ⟨_, _, _, _, ⟨fun hq => ⟨fun z => absurd ⟨hq, z⟩ hx, fun _ => ⟨if_pos hq, by rw [if_pos hq]⟩, ?_⟩, fun hq => ?_⟩, hs⟩
    · have := h3 _ hq
      rw [if_pos hq]
      exact nI_pos (by omega)
    · rw [if_neg hq]
      decide
/-- the text as a whole: well read, or at fault -/
def Fin (σ : x_S) (μ : x_U) (dM : Nat) (rC rM : Option (Option Value × x_H)) : Prop := (∃ σ' A' p' e' a' b' s' g' v' w' U T P N, rC = some (some (.int 0), CG (c_ws (RD σ' (-1) 0 p' e') 2 1 0)) ∧ rM = x_E x_P (dM + 6) x_c128 64 [.ref 0, .int 1, x_j] [] (MG (RM μ A' a' b' s' g' v' w')) ∧ AG σ σ' ∧ DR σ' A' U T P N) ∨ (∃ σ' A' q p' e' a' s' g' v' W, W ≠ 0 ∧ rC = some (some (.int W), CG (c_ws (RD σ' q W p' e') 2 1 0)) ∧ rM = x_E x_P (dM + 6) x_c128 64 [.ref 0, .int 0, x_j] [] (MG (RM μ A' a' q s' g' v' W)) ∧ AG σ σ')
theorem Fin.tr {σ σ' : x_S} {μ : x_U} {dM : Nat} {rC rM : Option (Option Value × x_H)} (h : AG σ σ') (hF : Fin σ' μ dM rC rM) : Fin σ μ dM rC rM := by
  rcases hF with ⟨s', A', p', e', a', b', t', g', v', w', U, T, P, N, z1, z2, z3, z4⟩ | ⟨s', A', q, p', e', a', t', g', v', W, z0, z1, z2, z3⟩
  · exact Or.inl ⟨s', A', p', e', a', b', t', g', v', w', U, T, P, N, z1, z2, h.tr z3, z4⟩
  · exact Or.inr ⟨s', A', q, p', e', a', t', g', v', W, z0, z1, z2, h.tr z3⟩
theorem J_loop {μ : x_U} {n : Nat} {f : Nat → Nat} (dC dM : Nat) (hm : TM μ n f) : ∀ (m : Nat) (σ : x_S) (A : Nat → Int32) (U T P N q k : Nat) (e a' s g v w : Int32), n - q ≤ m → TX σ n f → DR σ A U T P N → k ≤ q → q ≤ n → HDn f n q s a' → Fin σ μ dM (x_E x_P (dC + 5) x_c38 25 [.ref 1, .ref 23, .int (nI k)] [] (CG (RD σ (-1) 0 (nI q) e))) (x_E x_P (dM + 6) x_c128 37 [.ref 0, .int 1, x_j] [] (MG (RM μ A a' (nI q) s g v w))) := by
  have h1 := hm.1
  have stop : ∀ (σ : x_S) (A : Nat → Int32) (U T P N q k : Nat) (e a' s g v w : Int32), TX σ n f → DR σ A U T P N → ¬ q < n → q ≤ n → HDn f n q s a' → Fin σ μ dM (x_E x_P (dC + 5) x_c38 25 [.ref 1, .ref 23, .int (nI k)] [] (CG (RD σ (-1) 0 (nI q) e))) (x_E x_P (dM + 6) x_c128 37 [.ref 0, .int 1, x_j] [] (MG (RM μ A a' (nI q) s g v w))) := by
    intro σ A U T P N q k e a' s g v w hx hD hq hqn hh
    have hs := hh.2 hq
    have h2 := hx.2.1
    refine Or.inl ⟨σ, A, nI q, e, a', nI q, s, g, v, w, U, T, P, N, ?_, ?_, AG.rf σ, hD⟩
    · rw [← E_r68 dC σ (-1) 0 (nI q) e (nI k), s_38_25]
      by_cases c1 : (240 : Int32) ≤ nI k
      · rw [if_pos c1]
      · have c2 : nI n ≤ nI q := nI_le (by omega) (by omega)
        rw [if_neg c1]
        simp (decide := true) only [s_38_32, s_38_36, s_38_40, s_38_43, Option.bind_some, x_tlv, x_tln, if_true, if_false, cr_isa, R_at, R_has, R_size, R_put, R_isFull, R_add, R_clear, c_has_eq, c_wa_1, c_wa_2, c_ws_1, c_ws_2, cf_0_0, cf_0_1, cf_0_2, cf_0_3, cf_0_4, cf_0_5, cf_0_6, cf_0_7, cf_0_8, cf_0_9, cf_0_10, cf_0_11, cf_0_12, cf_0_13, cp_0_12, cp_0_13, ci_0, cf_1_0, cf_1_1, cf_1_2, cf_1_3, cf_1_4, cp_1_1, cp_1_2, cp_1_3, cp_1_4, ci_1, cf_4_0, cf_4_1, cf_4_2, cf_4_3, cf_4_4, cf_4_5, cf_4_6, cf_4_7, cf_4_8, cf_4_9, cf_4_10, cp_4_0, cp_4_1, ci_4, cf_23_0, cf_23_1, cf_23_2, cf_23_3, cf_23_4, cf_23_5, cf_23_6, cf_23_7, cf_23_8, cf_23_9, cf_23_10, cp_23_0, cp_23_1, ci_23, cf_42_0, cf_42_1, cf_42_2, cf_42_3, cp_42_2, cp_42_3, ci_42, cf_47_0, cf_47_1, cf_47_2, cp_47_1, cp_47_2, ci_47, cf_50_0, cf_50_1, cf_50_2, ci_50, cf_57_0, cf_57_1, ci_57, cf_62_0, cf_62_1, ci_62, cf_67_0, cf_67_1, cf_67_2, cf_67_3, cf_67_4, cf_67_5, cp_67_1, cp_67_2, ci_67, cf_76_0, cf_76_1, cf_76_2, cf_76_3, cf_76_4, cf_76_5, cp_76_1, cp_76_2, cp_76_3, ci_76, RD_c, RD_n, h2, c2]
    · rw [s_128_37]
      simp (decide := true) only [s_128_41, Option.bind_some, x_tlv, x_tln, if_true, if_false, m_wa_1, m_wa_s, m_wb_1, m_wb_2, m_wb_s, m_ws_1, m_ws_b, m_ws_s, m_ws_e, m_we_1, m_we_b, m_we_s, m_we_e, mf_0, mf_1, mf_2, mf_3, mf_4, mf_5, mf_6, mf_7, mf_8, mf_9, mf_10, mf_11, mf_12, mf_13, mf_14, mf_15, mf_16, mf_17, mf_18, mf_19, mf_20, mf_21, mf_22, mf_23, mf_24, mf_25, mf_26, mf_27, mf_28, mf_29, mf_30, mp_4, mp_7, mp_9, mp_10, mp_12, mp_14, mp_15, mp_16, mp_17, mp_18, mp_19, mp_20, mi_0, RM_s, hs]
  intro m
  induction m with
  | zero =>
    intro σ A U T P N q k e a' s g v w hm0 hx hD hk hqn hh
    exact stop σ A U T P N q k e a' s g v w hx hD (by omega) hqn hh
  | succ m ih =>
    intro σ A U T P N q k e a' s g v w hm0 hx hD hk hqn hh
    by_cases hq : q < n
    · obtain ⟨hs1, hs2, hs3⟩ := hh.1 hq
      have h2 := hx.2.1
      have c1 : ¬ (240 : Int32) ≤ nI k := nI_ge (b := 240) (by omega) (by omega)
      have c2 : ¬ nI n ≤ nI q := nI_ge (by omega) (by omega)
      rcases J_clause dC dM hx hm hD hq (-1) e a' s g v w hs1 hs2 with ⟨σ', A', p', e', b', s', g', v', U', T', P', N', z1, z2, z3, z4, z5, z6⟩ | ⟨σ', A', q', p', e', a2, s', g', v', W, z0, z1, z2, z3, z4⟩
      · obtain ⟨s2, a2, g2, v2, hh2, hst⟩ := M_head dM hm A' b' s' g' v' w (p := p') (by omega)
        obtain ⟨k1, k2, -⟩ := sk_ok f n p'
        have hs := R_skip (dC + 3) (z3.tx hx) (-1) 0 e' (p := p') (by omega)
        have j := ih σ' A' U' T' P' N' (sk f n p') (k + 1) e' a2 s2 g2 v2 w (by omega) (z3.tx hx) z4 (by omega) (by omega) hh2
        refine Fin.tr z3 ?_
        have gC : x_E x_P (dC + 5) x_c38 25 [.ref 1, .ref 23, .int (nI k)] [] (CG (RD σ (-1) 0 (nI q) e)) = x_E x_P (dC + 5) x_c38 25 [.ref 1, .ref 23, .int (nI (k + 1))] [] (CG (RD σ' (-1) 0 (nI (sk f n p')) e')) := by
          rw [s_38_25, if_neg c1]
          simp (decide := true) only [s_38_32, s_38_36, s_38_40, s_38_43, s_38_46, s_38_50, s_38_53, s_38_58, s_38_62, Option.bind_some, x_tlv, x_tln, if_true, if_false, cr_isa, R_at, R_has, R_size, R_put, R_isFull, R_add, R_clear, c_has_eq, c_wa_1, c_wa_2, c_ws_1, c_ws_2, cf_0_0, cf_0_1, cf_0_2, cf_0_3, cf_0_4, cf_0_5, cf_0_6, cf_0_7, cf_0_8, cf_0_9, cf_0_10, cf_0_11, cf_0_12, cf_0_13, cp_0_12, cp_0_13, ci_0, cf_1_0, cf_1_1, cf_1_2, cf_1_3, cf_1_4, cp_1_1, cp_1_2, cp_1_3, cp_1_4, ci_1, cf_4_0, cf_4_1, cf_4_2, cf_4_3, cf_4_4, cf_4_5, cf_4_6, cf_4_7, cf_4_8, cf_4_9, cf_4_10, cp_4_0, cp_4_1, ci_4, cf_23_0, cf_23_1, cf_23_2, cf_23_3, cf_23_4, cf_23_5, cf_23_6, cf_23_7, cf_23_8, cf_23_9, cf_23_10, cp_23_0, cp_23_1, ci_23, cf_42_0, cf_42_1, cf_42_2, cf_42_3, cp_42_2, cp_42_3, ci_42, cf_47_0, cf_47_1, cf_47_2, cp_47_1, cp_47_2, ci_47, cf_50_0, cf_50_1, cf_50_2, ci_50, cf_57_0, cf_57_1, ci_57, cf_62_0, cf_62_1, ci_62, cf_67_0, cf_67_1, cf_67_2, cf_67_3, cf_67_4, cf_67_5, cp_67_1, cp_67_2, ci_67, cf_76_0, cf_76_1, cf_76_2, cf_76_3, cf_76_4, cf_76_5, cp_76_1, cp_76_2, cp_76_3, ci_76, RD_c, RD_n, RD_b, h2, c2, z1, hs, nI_1]
        have gM : x_E x_P (dM + 6) x_c128 37 [.ref 0, .int 1, x_j] [] (MG (RM μ A a' (nI q) s g v w)) = x_E x_P (dM + 6) x_c128 37 [.ref 0, .int 1, x_j] [] (MG (RM μ A' a2 (nI (sk f n p')) s2 g2 v2 w)) := by
          rw [s_128_37]
          simp (decide := true) only [s_128_41, s_128_44, s_128_48, s_128_52, s_128_57, s_128_61, Option.bind_some, x_tlv, x_tln, if_true, if_false, m_wa_1, m_wa_s, m_wb_1, m_wb_2, m_wb_s, m_ws_1, m_ws_b, m_ws_s, m_ws_e, m_we_1, m_we_b, m_we_s, m_we_e, mf_0, mf_1, mf_2, mf_3, mf_4, mf_5, mf_6, mf_7, mf_8, mf_9, mf_10, mf_11, mf_12, mf_13, mf_14, mf_15, mf_16, mf_17, mf_18, mf_19, mf_20, mf_21, mf_22, mf_23, mf_24, mf_25, mf_26, mf_27, mf_28, mf_29, mf_30, mp_4, mp_7, mp_9, mp_10, mp_12, mp_14, mp_15, mp_16, mp_17, mp_18, mp_19, mp_20, mi_0, RM_s, hs3, z2, hst]
        rw [gC, gM]
        exact j
      · obtain ⟨p2, g1⟩ := E_rill dC (z4.tx hx) (nI q') W e' (nI k) z0 z1
        refine Or.inr ⟨σ', A', nI q', nI p2, e', a2, s', g', v', W, z0, ?_, ?_, z4⟩
        · rw [← g1, s_38_25, if_neg c1]
          simp (decide := true) only [s_38_32, s_38_36, s_38_40, s_38_43, s_38_46, s_38_50, s_38_53, Option.bind_some, x_tlv, x_tln, if_true, if_false, cr_isa, R_at, R_has, R_size, R_put, R_isFull, R_add, R_clear, c_has_eq, c_wa_1, c_wa_2, c_ws_1, c_ws_2, cf_0_0, cf_0_1, cf_0_2, cf_0_3, cf_0_4, cf_0_5, cf_0_6, cf_0_7, cf_0_8, cf_0_9, cf_0_10, cf_0_11, cf_0_12, cf_0_13, cp_0_12, cp_0_13, ci_0, cf_1_0, cf_1_1, cf_1_2, cf_1_3, cf_1_4, cp_1_1, cp_1_2, cp_1_3, cp_1_4, ci_1, cf_4_0, cf_4_1, cf_4_2, cf_4_3, cf_4_4, cf_4_5, cf_4_6, cf_4_7, cf_4_8, cf_4_9, cf_4_10, cp_4_0, cp_4_1, ci_4, cf_23_0, cf_23_1, cf_23_2, cf_23_3, cf_23_4, cf_23_5, cf_23_6, cf_23_7, cf_23_8, cf_23_9, cf_23_10, cp_23_0, cp_23_1, ci_23, cf_42_0, cf_42_1, cf_42_2, cf_42_3, cp_42_2, cp_42_3, ci_42, cf_47_0, cf_47_1, cf_47_2, cp_47_1, cp_47_2, ci_47, cf_50_0, cf_50_1, cf_50_2, ci_50, cf_57_0, cf_57_1, ci_57, cf_62_0, cf_62_1, ci_62, cf_67_0, cf_67_1, cf_67_2, cf_67_3, cf_67_4, cf_67_5, cp_67_1, cp_67_2, ci_67, cf_76_0, cf_76_1, cf_76_2, cf_76_3, cf_76_4, cf_76_5, cp_76_1, cp_76_2, cp_76_3, ci_76, RD_c, RD_n, RD_b, h2, c2, z2]
        · rw [s_128_37]
          simp (decide := true) only [s_128_41, s_128_44, s_128_48, s_128_52, Option.bind_some, x_tlv, x_tln, if_true, if_false, m_wa_1, m_wa_s, m_wb_1, m_wb_2, m_wb_s, m_ws_1, m_ws_b, m_ws_s, m_ws_e, m_we_1, m_we_b, m_we_s, m_we_e, mf_0, mf_1, mf_2, mf_3, mf_4, mf_5, mf_6, mf_7, mf_8, mf_9, mf_10, mf_11, mf_12, mf_13, mf_14, mf_15, mf_16, mf_17, mf_18, mf_19, mf_20, mf_21, mf_22, mf_23, mf_24, mf_25, mf_26, mf_27, mf_28, mf_29, mf_30, mp_4, mp_7, mp_9, mp_10, mp_12, mp_14, mp_15, mp_16, mp_17, mp_18, mp_19, mp_20, mi_0, RM_s, hs3, z3]
          rw [s_128_37]
          by_cases c3 : s' < 0
          · simp (decide := true) only [s_128_41, Option.bind_some, x_tlv, x_tln, if_true, if_false, m_wa_1, m_wa_s, m_wb_1, m_wb_2, m_wb_s, m_ws_1, m_ws_b, m_ws_s, m_ws_e, m_we_1, m_we_b, m_we_s, m_we_e, mf_0, mf_1, mf_2, mf_3, mf_4, mf_5, mf_6, mf_7, mf_8, mf_9, mf_10, mf_11, mf_12, mf_13, mf_14, mf_15, mf_16, mf_17, mf_18, mf_19, mf_20, mf_21, mf_22, mf_23, mf_24, mf_25, mf_26, mf_27, mf_28, mf_29, mf_30, mp_4, mp_7, mp_9, mp_10, mp_12, mp_14, mp_15, mp_16, mp_17, mp_18, mp_19, mp_20, mi_0, RM_s, c3]
          · simp (decide := true) only [s_128_41, s_128_44, Option.bind_some, x_tlv, x_tln, if_true, if_false, m_wa_1, m_wa_s, m_wb_1, m_wb_2, m_wb_s, m_ws_1, m_ws_b, m_ws_s, m_ws_e, m_we_1, m_we_b, m_we_s, m_we_e, mf_0, mf_1, mf_2, mf_3, mf_4, mf_5, mf_6, mf_7, mf_8, mf_9, mf_10, mf_11, mf_12, mf_13, mf_14, mf_15, mf_16, mf_17, mf_18, mf_19, mf_20, mf_21, mf_22, mf_23, mf_24, mf_25, mf_26, mf_27, mf_28, mf_29, mf_30, mp_4, mp_7, mp_9, mp_10, mp_12, mp_14, mp_15, mp_16, mp_17, mp_18, mp_19, mp_20, mi_0, RM_s, c3]
    · exact stop σ A U T P N q k e a' s g v w hx hD hq hqn hh
