/-! reading: from an empty draft on -/
theorem AG.wq (σ : x_S) {q : Nat} (h1 : 23 ≤ q) (h2 : q ≤ 41) (k : Nat) (v : Int32) : AG σ (c_ws σ q k v) := fun x hx => ⟨rfl, by show (if x = q then _ else σ.2 x) = _; rw [if_neg (by omega)]⟩
def DZ (σ : x_S) : x_S := c_ws (c_ws (c_ws (c_ws (c_ws (c_ws (c_ws (c_ws (c_ws (c_ws (c_ws σ 23 0 0) 23 1 0) 24 1 0) 26 1 0) 28 1 0) 30 1 0) 32 1 0) 34 1 0) 36 1 0) 38 1 0) 40 1 0
theorem R_clr (d : Nat) (σ : x_S) : x_R x_P (d + 2) 61 [.ref 23] (CG σ) = some (none, CG (DZ σ)) := by
  simp (decide := true) only [r_61, s_61_0, s_61_5, s_61_10, s_61_14, s_61_17, s_61_21, s_61_24, s_61_28, s_61_31, s_61_35, s_61_38, s_61_42, s_61_45, s_61_49, s_61_52, s_61_56, s_61_59, s_61_63, s_61_66, s_61_70, s_61_73, Option.bind_some, x_tlv, x_tln, if_true, if_false, cr_isa, R_at, R_has, R_size, R_put, R_isFull, R_add, R_clear, c_has_eq, c_wa_1, c_wa_2, c_ws_1, c_ws_2, cf_0_0, cf_0_1, cf_0_2, cf_0_3, cf_0_4, cf_0_5, cf_0_6, cf_0_7, cf_0_8, cf_0_9, cf_0_10, cf_0_11, cf_0_12, cf_0_13, cp_0_12, cp_0_13, ci_0, cf_1_0, cf_1_1, cf_1_2, cf_1_3, cf_1_4, cp_1_1, cp_1_2, cp_1_3, cp_1_4, ci_1, cf_4_0, cf_4_1, cf_4_2, cf_4_3, cf_4_4, cf_4_5, cf_4_6, cf_4_7, cf_4_8, cf_4_9, cf_4_10, cp_4_0, cp_4_1, ci_4, cf_23_0, cf_23_1, cf_23_2, cf_23_3, cf_23_4, cf_23_5, cf_23_6, cf_23_7, cf_23_8, cf_23_9, cf_23_10, cp_23_0, cp_23_1, ci_23, cf_42_0, cf_42_1, cf_42_2, cf_42_3, cp_42_2, cp_42_3, ci_42, cf_47_0, cf_47_1, cf_47_2, cp_47_1, cp_47_2, ci_47, cf_50_0, cf_50_1, cf_50_2, ci_50, cf_57_0, cf_57_1, ci_57, cf_62_0, cf_62_1, ci_62, cf_67_0, cf_67_1, cf_67_2, cf_67_3, cf_67_4, cf_67_5, cp_67_1, cp_67_2, ci_67, cf_76_0, cf_76_1, cf_76_2, cf_76_3, cf_76_4, cf_76_5, cp_76_1, cp_76_2, cp_76_3, ci_76]
  rfl
theorem DZ_ag (σ : x_S) : AG σ (DZ σ) := by
  refine (((((((((((AG.wq _ ?_ ?_ _ _).tr (AG.wq _ ?_ ?_ _ _)).tr (AG.wq _ ?_ ?_ _ _)).tr (AG.wq _ ?_ ?_ _ _)).tr (AG.wq _ ?_ ?_ _ _)).tr (AG.wq _ ?_ ?_ _ _)).tr (AG.wq _ ?_ ?_ _ _)).tr (AG.wq _ ?_ ?_ _ _)).tr (AG.wq _ ?_ ?_ _ _)).tr (AG.wq _ ?_ ?_ _ _)).tr (AG.wq _ ?_ ?_ _ _)) <;> decide
theorem DZ_dr (σ : x_S) {A : Nat → Int32} (h : ∀ k, k < 68 → A k = 0) : DR (DZ σ) A 0 0 0 0 := by
  refine ⟨⟨by omega, by omega, by omega, by omega⟩, ⟨?_, ?_⟩, ⟨?_, ?_⟩, ⟨?_, rfl⟩, ⟨?_, rfl, rfl, rfl, rfl⟩, ⟨?_, rfl, rfl⟩, ⟨?_, rfl, rfl⟩, fun u hu => absurd hu (Nat.not_lt_zero u), fun u hu => absurd hu (Nat.not_lt_zero u), fun u hu => absurd hu (Nat.not_lt_zero u), fun u hu => absurd hu (Nat.not_lt_zero u)⟩
  · rw [h 0 (by omega)]; rfl
  · exact Or.inl (h 0 (by omega))
  · rw [h 1 (by omega)]; rfl
  · exact ⟨0, h 1 (by omega), by omega, by omega⟩
  · exact h 2 (by omega)
  · exact h 3 (by omega)
  · exact h 4 (by omega)
  · exact h 5 (by omega)
theorem R_read0 {σ : x_S} {n : Nat} {f : Nat → Nat} (d : Nat) (hx : TX σ n f) : x_R x_P (d + 6) 38 [.ref 1, .ref 23] (CG σ) = x_E x_P (d + 5) x_c38 25 [.ref 1, .ref 23, .int (nI 0)] [] (CG (RD (DZ σ) (-1) 0 (nI (sk f n 0)) (σ.2 1 4))) := by
  have h61 : x_R x_P (d + 5) 61 [.ref 23] (CG σ) = some (none, CG (DZ σ)) := R_clr (d + 3) σ
  have eR : c_ws (c_ws (c_ws (DZ σ) 1 1 (-1)) 1 2 0) 1 3 0 = RD (DZ σ) (-1) 0 (nI 0) (σ.2 1 4) := (c_ws_id _ 1 4).symm
  have hs := R_skip (d + 3) ((DZ_ag σ).tx hx) (-1) 0 (σ.2 1 4) (p := 0) (by omega)
  simp (decide := true) only [r_38, s_38_0, s_38_4, s_38_9, s_38_14, s_38_19, s_38_23, Option.bind_some, x_tlv, x_tln, if_true, if_false, cr_isa, R_at, R_has, R_size, R_put, R_isFull, R_add, R_clear, c_has_eq, c_wa_1, c_wa_2, c_ws_1, c_ws_2, cf_0_0, cf_0_1, cf_0_2, cf_0_3, cf_0_4, cf_0_5, cf_0_6, cf_0_7, cf_0_8, cf_0_9, cf_0_10, cf_0_11, cf_0_12, cf_0_13, cp_0_12, cp_0_13, ci_0, cf_1_0, cf_1_1, cf_1_2, cf_1_3, cf_1_4, cp_1_1, cp_1_2, cp_1_3, cp_1_4, ci_1, cf_4_0, cf_4_1, cf_4_2, cf_4_3, cf_4_4, cf_4_5, cf_4_6, cf_4_7, cf_4_8, cf_4_9, cf_4_10, cp_4_0, cp_4_1, ci_4, cf_23_0, cf_23_1, cf_23_2, cf_23_3, cf_23_4, cf_23_5, cf_23_6, cf_23_7, cf_23_8, cf_23_9, cf_23_10, cp_23_0, cp_23_1, ci_23, cf_42_0, cf_42_1, cf_42_2, cf_42_3, cp_42_2, cp_42_3, ci_42, cf_47_0, cf_47_1, cf_47_2, cp_47_1, cp_47_2, ci_47, cf_50_0, cf_50_1, cf_50_2, ci_50, cf_57_0, cf_57_1, ci_57, cf_62_0, cf_62_1, ci_62, cf_67_0, cf_67_1, cf_67_2, cf_67_3, cf_67_4, cf_67_5, cp_67_1, cp_67_2, ci_67, cf_76_0, cf_76_1, cf_76_2, cf_76_3, cf_76_4, cf_76_5, cp_76_1, cp_76_2, cp_76_3, ci_76, h61, eR, hs]
  rfl
theorem RM_id (μ : x_U) : RM μ (μ.1 2) (μ.2.2.1 15) (μ.2.2.1 16) (μ.2.2.1 17) (μ.2.2.1 18) (μ.2.2.1 19) (μ.2.2.1 20) = μ := by
  have e : ∀ (ν : x_U) (k : Nat), m_ws ν k (ν.2.2.1 k) = ν := fun ν k => by
    unfold m_ws
    have : (fun j => if j = k then ν.2.2.1 k else ν.2.2.1 j) = ν.2.2.1 := by
      funext j
      by_cases hj : j = k
      · subst hj; simp
      · simp [hj]
    rw [this]
  unfold RM
  rw [m_wa_id, e, e, e, e, e, e]
theorem RM_10 (μ : x_U) (A : Nat → Int32) (a b s g v w x : Int32) : m_ws (RM μ A a b s g v w) 10 x = RM (m_ws μ 10 x) A a b s g v w := by
  unfold RM
  rw [m_ws_cm _ 20 10 (by decide), m_ws_cm _ 19 10 (by decide), m_ws_cm _ 18 10 (by decide), m_ws_cm _ 17 10 (by decide), m_ws_cm _ 16 10 (by decide), m_ws_cm _ 15 10 (by decide), m_wa_ws]
theorem M_zer68 (μ : x_U) (d : Nat) (a b s g v w : Int32) (A : Nat → Int32) : ∀ m k, k + m = 68 → x_E x_P d x_c128 2 [.ref 0, .int (nI k), x_j] [] (MG (RM μ (x_fl A 0 k) a b s g v w)) = x_E x_P d x_c128 21 [.ref 0, .int (nI 68), x_j] [] (MG (RM μ (x_fl A 0 68) a b s g v w)) := by
  intro m
  induction m with
  | zero =>
    intro k hk
    obtain rfl : k = 68 := by omega
    rw [s_128_2, if_pos (show (68 : Int32) ≤ nI 68 by decide)]
  | succ m ih =>
    intro k hk
    have e0 : ¬ (68 : Int32) ≤ nI k := nI_ge (b := 68) (by omega) (by omega)
    have e1 := RM_rp μ (x_fl A 0 k) a b s g v w 0 (k := k) (by omega)
    rw [x_fl_s] at e1
    rw [s_128_2, if_neg e0]
    simp (decide := true) only [s_128_8, s_128_12, s_128_15, Option.bind_some, x_tlv, x_tln, if_true, if_false, m_wa_1, m_wa_s, m_wb_1, m_wb_2, m_wb_s, m_ws_1, m_ws_b, m_ws_s, m_ws_e, m_we_1, m_we_b, m_we_s, m_we_e, mf_0, mf_1, mf_2, mf_3, mf_4, mf_5, mf_6, mf_7, mf_8, mf_9, mf_10, mf_11, mf_12, mf_13, mf_14, mf_15, mf_16, mf_17, mf_18, mf_19, mf_20, mf_21, mf_22, mf_23, mf_24, mf_25, mf_26, mf_27, mf_28, mf_29, mf_30, mp_4, mp_7, mp_9, mp_10, mp_12, mp_14, mp_15, mp_16, mp_17, mp_18, mp_19, mp_20, mi_0, e1, nI_1]
    exact ih (k + 1) (by omega)
theorem M_read0 {μ : x_U} {n : Nat} {f : Nat → Nat} (d : Nat) (hm : TM μ n f) : ∃ Z s a g v, (∀ k, k < 68 → Z k = 0) ∧ HDn f n (sk f n 0) s a ∧ x_R x_P (d + 7) 128 [.ref 0] (MG μ) = x_E x_P (d + 6) x_c128 37 [.ref 0, .int 1, x_j] [] (MG (RM (m_ws μ 10 (-1)) Z a (nI (sk f n 0)) s g v (μ.2.2.1 20))) := by
  have z := M_zer68 μ (d + 6) (μ.2.2.1 15) (μ.2.2.1 16) (μ.2.2.1 17) (μ.2.2.1 18) (μ.2.2.1 19) (μ.2.2.1 20) (μ.1 2) 68 0 rfl
  rw [x_fl_0, RM_id] at z
  have hm2 : TM (m_ws μ 10 (-1)) n f := hm
  obtain ⟨s, a, g, v, h1, h2⟩ := M_head d hm2 (x_fl (μ.1 2) 0 68) (μ.2.2.1 16) (μ.2.2.1 17) (μ.2.2.1 18) (μ.2.2.1 19) (μ.2.2.1 20) (p := 0) (by omega)
  have h2 : x_R x_P (d + 6) 117 [.ref 0] (MG (RM (m_ws μ 10 (-1)) (x_fl (μ.1 2) 0 68) 0 (μ.2.2.1 16) (μ.2.2.1 17) (μ.2.2.1 18) (μ.2.2.1 19) (μ.2.2.1 20))) = _ := h2
  refine ⟨x_fl (μ.1 2) 0 68, s, a, g, v, fun k hk => if_pos hk, h1, ?_⟩
  rw [r_128, s_128_0]
  refine Eq.trans z ?_
  simp (decide := true) only [s_128_21, s_128_26, s_128_31, Option.bind_some, x_tlv, x_tln, if_true, if_false, m_wa_1, m_wa_s, m_wb_1, m_wb_2, m_wb_s, m_ws_1, m_ws_b, m_ws_s, m_ws_e, m_we_1, m_we_b, m_we_s, m_we_e, mf_0, mf_1, mf_2, mf_3, mf_4, mf_5, mf_6, mf_7, mf_8, mf_9, mf_10, mf_11, mf_12, mf_13, mf_14, mf_15, mf_16, mf_17, mf_18, mf_19, mf_20, mf_21, mf_22, mf_23, mf_24, mf_25, mf_26, mf_27, mf_28, mf_29, mf_30, mp_4, mp_7, mp_9, mp_10, mp_12, mp_14, mp_15, mp_16, mp_17, mp_18, mp_19, mp_20, mi_0, RM_15, RM_10, h2]
/-- the whole text, on both sides -/
theorem J_read {σ : x_S} {μ : x_U} {n : Nat} {f : Nat → Nat} (dC dM : Nat) (hx : TX σ n f) (hm : TM μ n f) : Fin σ (m_ws μ 10 (-1)) dM (x_R x_P (dC + 6) 38 [.ref 1, .ref 23] (CG σ)) (x_R x_P (dM + 7) 128 [.ref 0] (MG μ)) := by
  obtain ⟨Z, s, a, g, v, h1, h2, h3⟩ := M_read0 dM hm
  obtain ⟨k1, k2, -⟩ := sk_ok f n 0
  rw [R_read0 dC hx, h3]
  exact Fin.tr (DZ_ag σ) (J_loop dC dM (show TM (m_ws μ 10 (-1)) n f from hm) n (DZ σ) Z 0 0 0 0 (sk f n 0) 0 _ a s g v _ (by omega) ((DZ_ag σ).tx hx) (DZ_dr σ h1) (by omega) (by omega) h2)
