/-! cutting -/
theorem KK_w (σ : x_S) (B H R : Nat → Int32) (f t w w' : Int32) : c_ws (KK (c_ws σ 76 3 w) B H R f t) 76 3 w' = KK (c_ws σ 76 3 w') B H R f t := by
  unfold KK
  rw [c_ws_cm _ 76 2 3 (by decide), c_ws_cm _ 76 1 3 (by decide)]
  show c_ws (c_ws (c_ws (c_ws (c_wa (c_wa (c_wa σ 78 B) 80 H) 82 R) 76 3 w) 76 3 w') 76 1 f) 76 2 t = _
  rw [c_ws_ws]
  rfl
theorem KK_3 (σ : x_S) (B H R : Nat → Int32) (f t w : Int32) : (KK (c_ws σ 76 3 w) B H R f t).2 76 3 = w := rfl
theorem KK_in (σ : x_S) : c_ws (c_ws σ 76 1 0) 76 3 0 = KK (c_ws σ 76 3 0) (σ.1 78) (σ.1 80) (σ.1 82) 0 (σ.2 76 2) := by
  unfold KK
  rw [show c_wa (c_wa (c_wa (c_ws σ 76 3 0) 78 (σ.1 78)) 80 (σ.1 80)) 82 (σ.1 82) = c_ws (c_wa (c_wa (c_wa σ 78 (σ.1 78)) 80 (σ.1 80)) 82 (σ.1 82)) 76 3 0 from rfl, c_wa_id, c_wa_id, c_wa_id, c_ws_cm _ 76 1 3 (by decide)]
  exact (c_ws_id (c_ws (c_ws σ 76 3 0) 76 1 0) 76 2).symm
theorem C_rest {σ : x_S} {μ : x_U} {P : Nat} (d : Nat) (hP : P ≤ 6) (n1 : σ.2 43 1 = nI P) (hL : ∀ p, p < P → σ.1 44 p = nI (wL μ p)) (B H : Nat → Int32) (f t : Int32) : ∀ m k (R : Nat → Int32), k + m = P → (∀ j, j < k → R j = nI (wL μ j)) → ∃ R', (∀ j, j < P → R' j = nI (wL μ j)) ∧ x_E x_P (d + 1) x_c15 12 [.ref 76, .ref 4, .ref 43, .int (nI k)] [] (CG (KK σ B H R f t)) = x_E x_P (d + 1) x_c15 41 [.ref 76, .ref 4, .ref 43, .int (nI 0)] [] (CG (KK σ B H R' f t)) := by
  have cw : ∀ B H R f t, (KK σ B H R f t).2 43 1 = nI P := fun _ _ _ _ _ => n1
  intro m
  induction m with
  | zero =>
    intro k R hk h
    obtain rfl : k = P := by omega
    refine ⟨R, h, ?_⟩
    rw [s_15_12]; simp (decide := true) only [s_15_17, s_15_39, Option.bind_some, x_tlv, x_tln, if_true, if_false, cr_isa, R_at, R_has, R_size, R_put, R_isFull, R_add, R_clear, c_has_eq, c_wa_1, c_wa_2, c_ws_1, c_ws_2, cf_0_0, cf_0_1, cf_0_2, cf_0_3, cf_0_4, cf_0_5, cf_0_6, cf_0_7, cf_0_8, cf_0_9, cf_0_10, cf_0_11, cf_0_12, cf_0_13, cp_0_12, cp_0_13, ci_0, cf_1_0, cf_1_1, cf_1_2, cf_1_3, cf_1_4, cp_1_1, cp_1_2, cp_1_3, cp_1_4, ci_1, cf_4_0, cf_4_1, cf_4_2, cf_4_3, cf_4_4, cf_4_5, cf_4_6, cf_4_7, cf_4_8, cf_4_9, cf_4_10, cp_4_0, cp_4_1, ci_4, cf_23_0, cf_23_1, cf_23_2, cf_23_3, cf_23_4, cf_23_5, cf_23_6, cf_23_7, cf_23_8, cf_23_9, cf_23_10, cp_23_0, cp_23_1, ci_23, cf_42_0, cf_42_1, cf_42_2, cf_42_3, cp_42_2, cp_42_3, ci_42, cf_47_0, cf_47_1, cf_47_2, cp_47_1, cp_47_2, ci_47, cf_50_0, cf_50_1, cf_50_2, ci_50, cf_57_0, cf_57_1, ci_57, cf_62_0, cf_62_1, ci_62, cf_67_0, cf_67_1, cf_67_2, cf_67_3, cf_67_4, cf_67_5, cp_67_1, cp_67_2, ci_67, cf_76_0, cf_76_1, cf_76_2, cf_76_3, cf_76_4, cf_76_5, cp_76_1, cp_76_2, cp_76_3, ci_76, cw, Int32.le_refl]
    rfl
  | succ m ih =>
    intro k R hk h
    have e0 : ¬ nI P ≤ nI k := nI_ge (by omega) (by omega)
    obtain ⟨R', j1, j2⟩ := ih (k + 1) (upd R k (nI (wL μ k))) (by omega) (fun j hj => by
      unfold upd
      by_cases h2 : j = k
      · rw [if_pos h2, h2]
      · rw [if_neg h2]; exact h j (by omega))
    refine ⟨R', j1, ?_⟩
    have a1 : c_at (KK σ B H R f t) 43 (nI k) = nI (wL μ k) := by rw [KK_la σ B H R f t (by omega)]; exact hL k (by omega)
    have p1 := KK_rp σ B H R f t (nI (wL μ k)) (k := k) (by omega)
    rw [s_15_12]; simp (decide := true) only [s_15_17, s_15_20, s_15_24, s_15_30, s_15_33, Option.bind_some, x_tlv, x_tln, if_true, if_false, cr_isa, R_at, R_has, R_size, R_put, R_isFull, R_add, R_clear, c_has_eq, c_wa_1, c_wa_2, c_ws_1, c_ws_2, cf_0_0, cf_0_1, cf_0_2, cf_0_3, cf_0_4, cf_0_5, cf_0_6, cf_0_7, cf_0_8, cf_0_9, cf_0_10, cf_0_11, cf_0_12, cf_0_13, cp_0_12, cp_0_13, ci_0, cf_1_0, cf_1_1, cf_1_2, cf_1_3, cf_1_4, cp_1_1, cp_1_2, cp_1_3, cp_1_4, ci_1, cf_4_0, cf_4_1, cf_4_2, cf_4_3, cf_4_4, cf_4_5, cf_4_6, cf_4_7, cf_4_8, cf_4_9, cf_4_10, cp_4_0, cp_4_1, ci_4, cf_23_0, cf_23_1, cf_23_2, cf_23_3, cf_23_4, cf_23_5, cf_23_6, cf_23_7, cf_23_8, cf_23_9, cf_23_10, cp_23_0, cp_23_1, ci_23, cf_42_0, cf_42_1, cf_42_2, cf_42_3, cp_42_2, cp_42_3, ci_42, cf_47_0, cf_47_1, cf_47_2, cp_47_1, cp_47_2, ci_47, cf_50_0, cf_50_1, cf_50_2, ci_50, cf_57_0, cf_57_1, ci_57, cf_62_0, cf_62_1, ci_62, cf_67_0, cf_67_1, cf_67_2, cf_67_3, cf_67_4, cf_67_5, cp_67_1, cp_67_2, ci_67, cf_76_0, cf_76_1, cf_76_2, cf_76_3, cf_76_4, cf_76_5, cp_76_1, cp_76_2, cp_76_3, ci_76, cw, e0, a1, p1, nI_1]
    exact j2
theorem C_wtd {σ : x_S} {μ : x_U} {U N : Nat} (d : Nat) (hU : U ≤ 6) (hN : N ≤ 6) (c6 : σ.2 19 1 = nI N) (hu : S_use σ μ U) (hw : S_wan σ μ U N) (B H R : Nat → Int32) (f t : Int32) : ∀ m k, k + m = N → x_E x_P (d + 2) x_c15 41 [.ref 76, .ref 4, .ref 43, .int (nI k)] [] (CG (KK (c_ws σ 76 3 (nI (sI (wI μ N) k))) B H R f t)) = x_E x_P (d + 2) x_c15 72 [.ref 76, .ref 4, .ref 43, .int (nI N)] [] (CG (KK (c_ws σ 76 3 (nI (sI (wI μ N) N))) B H R f t)) := by
  have cw : ∀ w, (KK (c_ws σ 76 3 w) B H R f t).2 19 1 = nI N := fun _ => c6
  intro m
  induction m with
  | zero =>
    intro k hk
    obtain rfl : k = N := by omega
    rw [s_15_41]; simp (decide := true) only [s_15_46, s_15_49, Option.bind_some, x_tlv, x_tln, if_true, if_false, cr_isa, R_at, R_has, R_size, R_put, R_isFull, R_add, R_clear, c_has_eq, c_wa_1, c_wa_2, c_ws_1, c_ws_2, cf_0_0, cf_0_1, cf_0_2, cf_0_3, cf_0_4, cf_0_5, cf_0_6, cf_0_7, cf_0_8, cf_0_9, cf_0_10, cf_0_11, cf_0_12, cf_0_13, cp_0_12, cp_0_13, ci_0, cf_1_0, cf_1_1, cf_1_2, cf_1_3, cf_1_4, cp_1_1, cp_1_2, cp_1_3, cp_1_4, ci_1, cf_4_0, cf_4_1, cf_4_2, cf_4_3, cf_4_4, cf_4_5, cf_4_6, cf_4_7, cf_4_8, cf_4_9, cf_4_10, cp_4_0, cp_4_1, ci_4, cf_23_0, cf_23_1, cf_23_2, cf_23_3, cf_23_4, cf_23_5, cf_23_6, cf_23_7, cf_23_8, cf_23_9, cf_23_10, cp_23_0, cp_23_1, ci_23, cf_42_0, cf_42_1, cf_42_2, cf_42_3, cp_42_2, cp_42_3, ci_42, cf_47_0, cf_47_1, cf_47_2, cp_47_1, cp_47_2, ci_47, cf_50_0, cf_50_1, cf_50_2, ci_50, cf_57_0, cf_57_1, ci_57, cf_62_0, cf_62_1, ci_62, cf_67_0, cf_67_1, cf_67_2, cf_67_3, cf_67_4, cf_67_5, cp_67_1, cp_67_2, ci_67, cf_76_0, cf_76_1, cf_76_2, cf_76_3, cf_76_4, cf_76_5, cp_76_1, cp_76_2, cp_76_3, ci_76, cw, Int32.le_refl]
  | succ m ih =>
    intro k hk
    have e0 : ¬ nI N ≤ nI k := nI_ge (by omega) (by omega)
    have hi := R_inch (σ := c_ws σ 76 3 (nI (sI (wI μ N) k))) (μ := μ) d hU hN hu hw (show k < N by omega) B H R f t
    have e1 : nI (sI (wI μ N) k) + nI (wI μ N k) = nI (sI (wI μ N) (k + 1)) := nI_add _ _
    rw [s_15_41]; simp (decide := true) only [s_15_46, s_15_49, s_15_52, s_15_57, s_15_62, s_15_66, Option.bind_some, x_tlv, x_tln, if_true, if_false, cr_isa, R_at, R_has, R_size, R_put, R_isFull, R_add, R_clear, c_has_eq, c_wa_1, c_wa_2, c_ws_1, c_ws_2, cf_0_0, cf_0_1, cf_0_2, cf_0_3, cf_0_4, cf_0_5, cf_0_6, cf_0_7, cf_0_8, cf_0_9, cf_0_10, cf_0_11, cf_0_12, cf_0_13, cp_0_12, cp_0_13, ci_0, cf_1_0, cf_1_1, cf_1_2, cf_1_3, cf_1_4, cp_1_1, cp_1_2, cp_1_3, cp_1_4, ci_1, cf_4_0, cf_4_1, cf_4_2, cf_4_3, cf_4_4, cf_4_5, cf_4_6, cf_4_7, cf_4_8, cf_4_9, cf_4_10, cp_4_0, cp_4_1, ci_4, cf_23_0, cf_23_1, cf_23_2, cf_23_3, cf_23_4, cf_23_5, cf_23_6, cf_23_7, cf_23_8, cf_23_9, cf_23_10, cp_23_0, cp_23_1, ci_23, cf_42_0, cf_42_1, cf_42_2, cf_42_3, cp_42_2, cp_42_3, ci_42, cf_47_0, cf_47_1, cf_47_2, cp_47_1, cp_47_2, ci_47, cf_50_0, cf_50_1, cf_50_2, ci_50, cf_57_0, cf_57_1, ci_57, cf_62_0, cf_62_1, ci_62, cf_67_0, cf_67_1, cf_67_2, cf_67_3, cf_67_4, cf_67_5, cp_67_1, cp_67_2, ci_67, cf_76_0, cf_76_1, cf_76_2, cf_76_3, cf_76_4, cf_76_5, cp_76_1, cp_76_2, cp_76_3, ci_76, cw, e0, KK_3, hi, KK_w, e1, nI_1]
    exact ih (k + 1) (by omega)
theorem x_cast {σ : x_S} {L I : Nat → Nat} {P N D D' k c : Nat} (h : D = D') (z : POK σ L I P N D k c) : POK σ L I P N D' k c := h ▸ z
theorem C_search {σ : x_S} {μ : x_U} {U P N : Nat} (hU : U ≤ 6) (hP : P ≤ 6) (hN : N ≤ 6) (n1 : σ.2 43 1 = nI P) (c6 : σ.2 19 1 = nI N) (hu : S_use σ μ U) (hw : S_wan σ μ U N) (hL : ∀ p, p < P → σ.1 44 p = nI (wL μ p)) (hL2 : ∀ p, wL μ p ≤ 9999) : ∃ v C bt B H R, At2 (wL μ) (wI μ N) P N v C B ∧ (v ≠ 0 → bt = nI (60000 - v)) ∧ (∀ x, x < P ^ N → ck (cv (wL μ) (wI μ N) P N x) x ≤ ck v C) ∧ x_R x_P 29 15 [.ref 76, .ref 4, .ref 43] (CG σ) = some (none, CG (KK (c_ws σ 76 3 (nI (sI (wI μ N) N))) B H R (fd v) bt)) := by
  obtain ⟨R1, i1, i2⟩ := C_rest (σ := c_ws σ 76 3 0) (μ := μ) 27 hP n1 hL (σ.1 78) (σ.1 80) 0 (σ.2 76 2) P 0 (σ.1 82) (by omega) (fun j hj => absurd hj (Nat.not_lt_zero j))
  have w := C_wtd (σ := σ) (μ := μ) 26 hU hN c6 hu hw (σ.1 78) (σ.1 80) R1 0 (σ.2 76 2) N 0 (by omega)
  have hpl := x_cast (D' := 28) (by omega) (C_place (σ := c_ws σ 76 3 (nI (sI (wI μ N) N))) (μ := μ) (25 - N) hU hP hN n1 c6 hu hw hL hL2 N 0 0 (by omega))
  obtain ⟨v, C, bt, B, H, R, q1, q2, -, q4, -, -, -, q8⟩ := hpl (wL μ) 0 0 0 (σ.2 76 2) (σ.1 78) (σ.1 80) R1 rfl (by rw [Nat.pow_zero]; omega) (fun i hi => absurd hi (Nat.not_lt_zero i)) i1 (Or.inl rfl) (fun z => absurd rfl z) (fun z => absurd rfl z)
  refine ⟨v, C, bt, B, H, R, q1, q2, fun x hx => q4 x hx (Nat.div_eq_of_lt hx), ?_⟩
  have q8 : x_R x_P 28 17 [.ref 76, .ref 4, .ref 43, .int 0, .int 0] (CG (KK (c_ws σ 76 3 (nI (sI (wI μ N) N))) (σ.1 78) (σ.1 80) R1 0 (σ.2 76 2))) = _ := q8
  simp (decide := true) only [r_15, s_15_0, s_15_5, s_15_10, Option.bind_some, x_tlv, x_tln, if_true, if_false, cr_isa, R_at, R_has, R_size, R_put, R_isFull, R_add, R_clear, c_has_eq, c_wa_1, c_wa_2, c_ws_1, c_ws_2, cf_0_0, cf_0_1, cf_0_2, cf_0_3, cf_0_4, cf_0_5, cf_0_6, cf_0_7, cf_0_8, cf_0_9, cf_0_10, cf_0_11, cf_0_12, cf_0_13, cp_0_12, cp_0_13, ci_0, cf_1_0, cf_1_1, cf_1_2, cf_1_3, cf_1_4, cp_1_1, cp_1_2, cp_1_3, cp_1_4, ci_1, cf_4_0, cf_4_1, cf_4_2, cf_4_3, cf_4_4, cf_4_5, cf_4_6, cf_4_7, cf_4_8, cf_4_9, cf_4_10, cp_4_0, cp_4_1, ci_4, cf_23_0, cf_23_1, cf_23_2, cf_23_3, cf_23_4, cf_23_5, cf_23_6, cf_23_7, cf_23_8, cf_23_9, cf_23_10, cp_23_0, cp_23_1, ci_23, cf_42_0, cf_42_1, cf_42_2, cf_42_3, cp_42_2, cp_42_3, ci_42, cf_47_0, cf_47_1, cf_47_2, cp_47_1, cp_47_2, ci_47, cf_50_0, cf_50_1, cf_50_2, ci_50, cf_57_0, cf_57_1, ci_57, cf_62_0, cf_62_1, ci_62, cf_67_0, cf_67_1, cf_67_2, cf_67_3, cf_67_4, cf_67_5, cp_67_1, cp_67_2, ci_67, cf_76_0, cf_76_1, cf_76_2, cf_76_3, cf_76_4, cf_76_5, cp_76_1, cp_76_2, cp_76_3, ci_76, KK_in]
  refine Eq.trans i2 (Eq.trans w ?_)
  rw [s_15_72, q8]
  simp (decide := true) only [s_15_80, Option.bind_some, x_tlv, x_tln, if_true, if_false, cr_isa, R_at, R_has, R_size, R_put, R_isFull, R_add, R_clear, c_has_eq, c_wa_1, c_wa_2, c_ws_1, c_ws_2, cf_0_0, cf_0_1, cf_0_2, cf_0_3, cf_0_4, cf_0_5, cf_0_6, cf_0_7, cf_0_8, cf_0_9, cf_0_10, cf_0_11, cf_0_12, cf_0_13, cp_0_12, cp_0_13, ci_0, cf_1_0, cf_1_1, cf_1_2, cf_1_3, cf_1_4, cp_1_1, cp_1_2, cp_1_3, cp_1_4, ci_1, cf_4_0, cf_4_1, cf_4_2, cf_4_3, cf_4_4, cf_4_5, cf_4_6, cf_4_7, cf_4_8, cf_4_9, cf_4_10, cp_4_0, cp_4_1, ci_4, cf_23_0, cf_23_1, cf_23_2, cf_23_3, cf_23_4, cf_23_5, cf_23_6, cf_23_7, cf_23_8, cf_23_9, cf_23_10, cp_23_0, cp_23_1, ci_23, cf_42_0, cf_42_1, cf_42_2, cf_42_3, cp_42_2, cp_42_3, ci_42, cf_47_0, cf_47_1, cf_47_2, cp_47_1, cp_47_2, ci_47, cf_50_0, cf_50_1, cf_50_2, ci_50, cf_57_0, cf_57_1, ci_57, cf_62_0, cf_62_1, ci_62, cf_67_0, cf_67_1, cf_67_2, cf_67_3, cf_67_4, cf_67_5, cp_67_1, cp_67_2, ci_67, cf_76_0, cf_76_1, cf_76_2, cf_76_3, cf_76_4, cf_76_5, cp_76_1, cp_76_2, cp_76_3, ci_76]
theorem cvW {L I : Nat → Nat} {P N x : Nat} (hP : P ≤ 6) (hI : ∀ n, 1 ≤ I n) (hL : ∀ p, L p ≤ 9999) (hx : x < P ^ N) (h : cv L I P N x ≠ 0) : sI I N ≤ 60000 - cv L I P N x := by
  cases hq : pl L I P N x with
  | none => exact absurd (cv_none hq) h
  | some s =>
    obtain ⟨R, tc⟩ := s
    obtain ⟨b1, b2, b3⟩ := pl_ok hP hI N x R tc hx hq
    have b4 := pl_left hP hI hx hq
    have b5 : tc ≤ 59994 := by rw [b2]; exact tch_le hL
    rw [cv_some hq]
    omega
theorem At2W {L I : Nat → Nat} {P N v C : Nat} {B : Nat → Int32} (hP : P ≤ 6) (hI : ∀ n, 1 ≤ I n) (hL : ∀ p, L p ≤ 9999) (h : At2 L I P N v C B) (hv : v ≠ 0) : sI I N ≤ 60000 - v := by
  rcases h with h | ⟨h1, h2, -⟩
  · exact absurd h hv
  · rw [h1]; exact cvW hP hI hL h2 (by rw [← h1]; exact hv)
theorem M_codes {μ : x_U} {P N : Nat} (d : Nat) (n M : Int32) (hM : (1000000 : Int32) = M) (c4 : μ.1 1 4 = nI P) (c5 : μ.1 1 5 = nI N) (hN : N ≤ 6) : ∀ m k, k + m = N → x_E x_P d x_c165 20 [.ref 0, .int n, .int (nI (P ^ k)), .int (nI k), x_j, x_j, x_j] [] (MG μ) = x_E x_P d x_c165 51 [.ref 0, .int n, .int (nI (P ^ N)), .int M, .int (nI 0), x_j, x_j] [] (MG μ) := by
  intro m
  induction m with
  | zero =>
    intro k hk
    obtain rfl : k = N := by omega
    rw [s_165_20]; simp (decide := true) only [s_165_25, s_165_27, s_165_45, Option.bind_some, x_tlv, x_tln, if_true, if_false, m_wa_1, m_wa_s, m_wb_1, m_wb_2, m_wb_s, m_ws_1, m_ws_b, m_ws_s, m_ws_e, m_we_1, m_we_b, m_we_s, m_we_e, mf_0, mf_1, mf_2, mf_3, mf_4, mf_5, mf_6, mf_7, mf_8, mf_9, mf_10, mf_11, mf_12, mf_13, mf_14, mf_15, mf_16, mf_17, mf_18, mf_19, mf_20, mf_21, mf_22, mf_23, mf_24, mf_25, mf_26, mf_27, mf_28, mf_29, mf_30, mp_4, mp_7, mp_9, mp_10, mp_12, mp_14, mp_15, mp_16, mp_17, mp_18, mp_19, mp_20, mi_0, md1_5, c5, Int32.le_refl, hM]
    rfl
  | succ m ih =>
    intro k hk
    have e0 : ¬ nI N ≤ nI k := nI_ge (by omega) (by omega)
    have j := ih (k + 1) (by omega)
    rw [s_165_20]; simp (decide := true) only [s_165_25, s_165_27, s_165_30, s_165_35, s_165_37, Option.bind_some, x_tlv, x_tln, if_true, if_false, m_wa_1, m_wa_s, m_wb_1, m_wb_2, m_wb_s, m_ws_1, m_ws_b, m_ws_s, m_ws_e, m_we_1, m_we_b, m_we_s, m_we_e, mf_0, mf_1, mf_2, mf_3, mf_4, mf_5, mf_6, mf_7, mf_8, mf_9, mf_10, mf_11, mf_12, mf_13, mf_14, mf_15, mf_16, mf_17, mf_18, mf_19, mf_20, mf_21, mf_22, mf_23, mf_24, mf_25, mf_26, mf_27, mf_28, mf_29, mf_30, mp_4, mp_7, mp_9, mp_10, mp_12, mp_14, mp_15, mp_16, mp_17, mp_18, mp_19, mp_20, mi_0, md1_5, md1_4, c4, c5, e0, pk_mul, nI_1]
    rw [← Nat.pow_succ]
    exact j
theorem M_cp6 (d : Nat) (μ : x_U) (n c e f g : Int32) (A L : Nat → Int32) : ∀ m i (B : Nat → Int32), i + m = 6 → (∀ j, j < i → B j = A j) → ∃ B' i', (∀ j, j < 6 → B' j = A j) ∧ x_E x_P d x_c165 77 [.ref 0, .int n, .int c, .int e, .int f, .int g, .int (nI i)] [] (MG (NN μ A B L)) = x_E x_P d x_c165 104 [.ref 0, .int n, .int c, .int e, .int f, .int g, .int i'] [] (MG (NN μ A B' L)) := by
  intro m
  induction m with
  | zero =>
    intro i B hi hB
    obtain rfl : i = 6 := by omega
    have e6 : (6 : Int32) ≤ nI 6 := by decide
    exact ⟨B, nI 6, hB, by rw [s_165_77, if_pos e6]⟩
  | succ m ih =>
    intro i B hi hB
    have e6 : ¬ (6 : Int32) ≤ nI i := nI_ge (b := 6) (by omega) (by omega)
    obtain ⟨B', i', j1, j2⟩ := ih (i + 1) (upd B i (A i)) (by omega) (fun j hj => by
      unfold upd
      by_cases h : j = i
      · rw [if_pos h, h]
      · rw [if_neg h]; exact hB j (by omega))
    refine ⟨B', i', j1, ?_⟩
    have a1 := NN_aa μ A B L (k := i) (by omega)
    have p1 := NN_bp μ A B L (A i) (k := i) (by omega)
    rw [s_165_77, if_neg e6]
    simp (decide := true) only [s_165_84, s_165_88, s_165_94, s_165_97, s_165_98, Option.bind_some, x_tlv, x_tln, if_true, if_false, m_wa_1, m_wa_s, m_wb_1, m_wb_2, m_wb_s, m_ws_1, m_ws_b, m_ws_s, m_ws_e, m_we_1, m_we_b, m_we_s, m_we_e, mf_0, mf_1, mf_2, mf_3, mf_4, mf_5, mf_6, mf_7, mf_8, mf_9, mf_10, mf_11, mf_12, mf_13, mf_14, mf_15, mf_16, mf_17, mf_18, mf_19, mf_20, mf_21, mf_22, mf_23, mf_24, mf_25, mf_26, mf_27, mf_28, mf_29, mf_30, mp_4, mp_7, mp_9, mp_10, mp_12, mp_14, mp_15, mp_16, mp_17, mp_18, mp_19, mp_20, mi_0, a1, p1, nI_1]
    exact j2
theorem M_cut {σ : x_S} {μ : x_U} {U P N M : Nat} (d : Nat) (n : Int32) (hU : U ≤ 6) (hP : P ≤ 6) (hN : N ≤ 6) (c4 : μ.1 1 4 = nI P) (c5 : μ.1 1 5 = nI N) (hu : S_use σ μ U) (hw : S_wan σ μ U N) (hL : ∀ p, p < 6 → μ.1 3 p = nI (wL μ p)) (hL2 : ∀ p, wL μ p ≤ 9999) (hM : (1000000 : Int32) = nI M) (hM1 : 60000 < M) (hM2 : M < 2 ^ 31) : ∀ r c v C (A B Lo : Nat → Int32) (g i : Value), c + r = P ^ N → At2 (wL μ) (wI μ N) P N v C B → (v ≠ 0 → C < c) → (∀ x, x < c → ck (cv (wL μ) (wI μ N) P N x) x ≤ ck v C) → ∃ v' C' A' B' Lo' g' i', At2 (wL μ) (wI μ N) P N v' C' B' ∧ (∀ x, x < P ^ N → ck (cv (wL μ) (wI μ N) P N x) x ≤ ck v' C') ∧ x_E x_P (d + 2) x_c165 51 [.ref 0, .int n, .int (nI (P ^ N)), .int (nI (lvn M (sI (wI μ N) N) v)), .int (nI c), g, i] [] (MG (NN μ A B Lo)) = x_E x_P (d + 2) x_c165 110 [.ref 0, .int n, .int (nI (P ^ N)), .int (nI (lvn M (sI (wI μ N) N) v')), .int (nI (P ^ N)), g', i'] [] (MG (NN μ A' B' Lo')) := by
  have pb := pw6 hP hN
  have hI := wI_1 hU hu hw
  intro r
  induction r with
  | zero =>
    intro c v C A B Lo g i hc hA hO hD
    obtain rfl : c = P ^ N := by omega
    exact ⟨v, C, A, B, Lo, g, i, hA, hD, by rw [s_165_51, if_pos (Int32.le_refl _)]⟩
  | succ r ih =>
    intro c v C A B Lo g i hc hA hO hD
    have e0 : ¬ nI (P ^ N) ≤ nI c := nI_ge (by omega) (by omega)
    have hcP : c < P ^ N := by omega
    obtain ⟨A1, L1, g1, g2⟩ := M_leaves d hU hP hN c4 c5 hu hw hL hL2 hcP hM A B Lo
    have w1 := cvW (N := N) hP hI hL2 hcP
    have w2 := At2W hP hI hL2 hA
    have v1 := cv_le (wL μ) (wI μ N) P N c
    have v2 := At2_le hA
    have hlv : lvn M (sI (wI μ N) N) v ≤ lvn M (sI (wI μ N) N) (cv (wL μ) (wI μ N) P N c) ↔ cv (wL μ) (wI μ N) P N c ≤ v := by
      unfold lvn
      by_cases hv : v = 0
      · rw [if_pos hv]
        by_cases hc0 : cv (wL μ) (wI μ N) P N c = 0
        · rw [if_pos hc0]; omega
        · rw [if_neg hc0]; omega
      · have := w2 hv
        rw [if_neg hv]
        by_cases hc0 : cv (wL μ) (wI μ N) P N c = 0
        · rw [if_pos hc0]; omega
        · have := w1 hc0
          rw [if_neg hc0]; omega
    have bl : ∀ z, lvn M (sI (wI μ N) N) z < 2 ^ 31 := fun z => by
      unfold lvn
      split <;> omega
    by_cases hl : cv (wL μ) (wI μ N) P N c ≤ v
    · have e1 : nI (lvn M (sI (wI μ N) N) v) ≤ nI (lvn M (sI (wI μ N) N) (cv (wL μ) (wI μ N) P N c)) := nI_le (hlv.mpr hl) (bl _)
      obtain ⟨v', C', A', B', Lo', g', i', z1, z2, z3⟩ := ih (c + 1) v C A1 B L1 (.int (nI (lvn M (sI (wI μ N) N) (cv (wL μ) (wI μ N) P N c)))) i (by omega) hA (fun z => by have := hO z; omega) (fun x hx => by
        by_cases hxc : x = c
        · subst hxc
          unfold ck
          by_cases hz : cv (wL μ) (wI μ N) P N x = 0
          · rw [if_pos hz]; exact Nat.zero_le _
          · have := hO (by omega)
            rw [if_neg hz, if_neg (by omega)]
            omega
        · exact hD x (by omega))
      refine ⟨v', C', A', B', Lo', g', i', z1, z2, ?_⟩
      rw [s_165_51, if_neg e0]
      simp (decide := true) only [s_165_57, Option.bind_some, x_tlv, x_tln, if_true, if_false, m_wa_1, m_wa_s, m_wb_1, m_wb_2, m_wb_s, m_ws_1, m_ws_b, m_ws_s, m_ws_e, m_we_1, m_we_b, m_we_s, m_we_e, mf_0, mf_1, mf_2, mf_3, mf_4, mf_5, mf_6, mf_7, mf_8, mf_9, mf_10, mf_11, mf_12, mf_13, mf_14, mf_15, mf_16, mf_17, mf_18, mf_19, mf_20, mf_21, mf_22, mf_23, mf_24, mf_25, mf_26, mf_27, mf_28, mf_29, mf_30, mp_4, mp_7, mp_9, mp_10, mp_12, mp_14, mp_15, mp_16, mp_17, mp_18, mp_19, mp_20, mi_0]
      rw [g2]
      simp (decide := true) only [s_165_63, s_165_104, Option.bind_some, x_tlv, x_tln, if_true, if_false, m_wa_1, m_wa_s, m_wb_1, m_wb_2, m_wb_s, m_ws_1, m_ws_b, m_ws_s, m_ws_e, m_we_1, m_we_b, m_we_s, m_we_e, mf_0, mf_1, mf_2, mf_3, mf_4, mf_5, mf_6, mf_7, mf_8, mf_9, mf_10, mf_11, mf_12, mf_13, mf_14, mf_15, mf_16, mf_17, mf_18, mf_19, mf_20, mf_21, mf_22, mf_23, mf_24, mf_25, mf_26, mf_27, mf_28, mf_29, mf_30, mp_4, mp_7, mp_9, mp_10, mp_12, mp_14, mp_15, mp_16, mp_17, mp_18, mp_19, mp_20, mi_0, e1, nI_1]
      exact z3
    · have e1 : ¬ nI (lvn M (sI (wI μ N) N) v) ≤ nI (lvn M (sI (wI μ N) N) (cv (wL μ) (wI μ N) P N c)) := fun q => hl (hlv.mp ((nI_leI (bl _) (bl _)).mp q))
      obtain ⟨B1, i1, k1, k2⟩ := M_cp6 (d + 2) μ n (nI (P ^ N)) (nI (lvn M (sI (wI μ N) N) (cv (wL μ) (wI μ N) P N c))) (nI c) (nI (lvn M (sI (wI μ N) N) (cv (wL μ) (wI μ N) P N c))) A1 L1 6 0 B (by omega) (fun j hj => absurd hj (Nat.not_lt_zero j))
      obtain ⟨v', C', A', B', Lo', g', i', z1, z2, z3⟩ := ih (c + 1) (cv (wL μ) (wI μ N) P N c) c A1 B1 L1 (.int (nI (lvn M (sI (wI μ N) N) (cv (wL μ) (wI μ N) P N c)))) (.int i1) (by omega) (Or.inr ⟨rfl, hcP, fun i hi => (k1 i (by omega)).trans (g1 i hi)⟩) (fun _ => by omega) (fun x hx => by
        by_cases hxc : x = c
        · subst hxc; exact Nat.le_refl _
        · refine Nat.le_trans (hD x (by omega)) ?_
          unfold ck
          by_cases hz : v = 0
          · rw [if_pos hz]; exact Nat.zero_le _
          · rw [if_neg hz, if_neg (by omega)]
            omega)
      refine ⟨v', C', A', B', Lo', g', i', z1, z2, ?_⟩
      rw [s_165_51, if_neg e0]
      simp (decide := true) only [s_165_57, Option.bind_some, x_tlv, x_tln, if_true, if_false, m_wa_1, m_wa_s, m_wb_1, m_wb_2, m_wb_s, m_ws_1, m_ws_b, m_ws_s, m_ws_e, m_we_1, m_we_b, m_we_s, m_we_e, mf_0, mf_1, mf_2, mf_3, mf_4, mf_5, mf_6, mf_7, mf_8, mf_9, mf_10, mf_11, mf_12, mf_13, mf_14, mf_15, mf_16, mf_17, mf_18, mf_19, mf_20, mf_21, mf_22, mf_23, mf_24, mf_25, mf_26, mf_27, mf_28, mf_29, mf_30, mp_4, mp_7, mp_9, mp_10, mp_12, mp_14, mp_15, mp_16, mp_17, mp_18, mp_19, mp_20, mi_0]
      rw [g2]
      simp (decide := true) only [s_165_63, s_165_71, Option.bind_some, x_tlv, x_tln, if_true, if_false, m_wa_1, m_wa_s, m_wb_1, m_wb_2, m_wb_s, m_ws_1, m_ws_b, m_ws_s, m_ws_e, m_we_1, m_we_b, m_we_s, m_we_e, mf_0, mf_1, mf_2, mf_3, mf_4, mf_5, mf_6, mf_7, mf_8, mf_9, mf_10, mf_11, mf_12, mf_13, mf_14, mf_15, mf_16, mf_17, mf_18, mf_19, mf_20, mf_21, mf_22, mf_23, mf_24, mf_25, mf_26, mf_27, mf_28, mf_29, mf_30, mp_4, mp_7, mp_9, mp_10, mp_12, mp_14, mp_15, mp_16, mp_17, mp_18, mp_19, mp_20, mi_0, e1]
      refine Eq.trans k2 ?_
      rw [s_165_104, nI_1]
      exact z3
theorem SIM_KN {σ : x_S} {μ : x_U} (h : SIM σ μ) (w : Int32) (B H R : Nat → Int32) (f t : Int32) (A G L : Nat → Int32) : SIM (KK (c_ws σ 76 3 w) B H R f t) (NN μ A G L) := by
  obtain ⟨U, T, P, N, hc, hu, ht, hp, hw, hn, hpa, hi, hl, hb, hx, hm⟩ := h
  exact ⟨U, T, P, N, hc, hu, ht, hp, hw, hn, hpa, hi, hl, hb, hx, hm⟩
theorem sim_cutting (n : Int32) : Sim 91 165 [.int n] := Sim.of fun σ μ hS => by
  have hS' := hS
  obtain ⟨U, T, P, N, ⟨⟨hU, hT, hP, hN⟩, c1, c2, c3, c4, c5, c6⟩, hu, ht, hp, hw, ⟨n1, n2, nb⟩, hpa, hi, hl, hb, hx, hm⟩ := hS
  obtain ⟨hL, hL1, hL2⟩ := wL_ok hP nb
  obtain ⟨M, hM, hM1, hM2⟩ : ∃ M, (1000000 : Int32) = nI M ∧ 60000 < M ∧ M < 2 ^ 31 := ⟨1000000, x_lit _, by omega, by omega⟩
  obtain ⟨v, C, bt, B, H, R, q1, q2, q3, q4⟩ := C_search (μ := μ) hU hP hN n1 c6.2 hu hw hL hL2
  have m1 := M_codes (μ := μ) 29 n (nI M) hM c5.1 c6.1 hN N 0 (by omega)
  obtain ⟨w, E, A, G, Lo, g', i', k1, k2, k3⟩ := M_cut (M := M) 27 n hU hP hN c5.1 c6.1 hu hw hL1 hL2 hM hM1 hM2 (P ^ N) 0 0 0 (μ.1 16) (μ.1 17) (μ.1 18) x_j x_j (by omega) (Or.inl rfl) (fun z => absurd rfl z) (fun x hx => absurd hx (Nat.not_lt_zero x))
  rw [NN_id] at k3
  obtain ⟨e1, e2⟩ := best_two hP hN q1 k1 q3 k2
  subst e1
  have e0 : lvn M (sI (wI μ N) N) 0 = M := if_pos rfl
  rw [e0] at k3
  have hrun : x_E x_P 29 x_c165 20 [.ref 0, .int n, .int 1, .int 0, x_j, x_j, x_j] [] (MG μ) = _ := m1.trans k3
  have vb := At2_le q1
  -- behind the question whether there is such a want
  have tail : (n = -1 ∨ ∃ k, k < N ∧ n = nI k) → ∃ (a : Int32) (h1 : x_E x_P 29 x_c91 22 [.ref 0, .int n] [] (CG σ) = some (some (.int a), CG (KK (c_ws σ 76 3 (nI (sI (wI μ N) N))) B H R (fd v) bt))), x_E x_P 29 x_c165 16 [.ref 0, .int n, x_j, x_j, x_j, x_j, x_j] [] (MG μ) = some (some (.int a), MG (NN μ A G Lo)) := by
    intro hn
    by_cases hv : v = 0
    · subst hv
      have f0 : fd 0 = 0 := rfl
      refine ⟨-1, ?_, ?_⟩
      · simp (decide := true) only [s_91_22, s_91_26, s_91_30, s_91_34, s_91_37, Option.bind_some, x_tlv, x_tln, if_true, if_false, cr_isa, R_at, R_has, R_size, R_put, R_isFull, R_add, R_clear, c_has_eq, c_wa_1, c_wa_2, c_ws_1, c_ws_2, cf_0_0, cf_0_1, cf_0_2, cf_0_3, cf_0_4, cf_0_5, cf_0_6, cf_0_7, cf_0_8, cf_0_9, cf_0_10, cf_0_11, cf_0_12, cf_0_13, cp_0_12, cp_0_13, ci_0, cf_1_0, cf_1_1, cf_1_2, cf_1_3, cf_1_4, cp_1_1, cp_1_2, cp_1_3, cp_1_4, ci_1, cf_4_0, cf_4_1, cf_4_2, cf_4_3, cf_4_4, cf_4_5, cf_4_6, cf_4_7, cf_4_8, cf_4_9, cf_4_10, cp_4_0, cp_4_1, ci_4, cf_23_0, cf_23_1, cf_23_2, cf_23_3, cf_23_4, cf_23_5, cf_23_6, cf_23_7, cf_23_8, cf_23_9, cf_23_10, cp_23_0, cp_23_1, ci_23, cf_42_0, cf_42_1, cf_42_2, cf_42_3, cp_42_2, cp_42_3, ci_42, cf_47_0, cf_47_1, cf_47_2, cp_47_1, cp_47_2, ci_47, cf_50_0, cf_50_1, cf_50_2, ci_50, cf_57_0, cf_57_1, ci_57, cf_62_0, cf_62_1, ci_62, cf_67_0, cf_67_1, cf_67_2, cf_67_3, cf_67_4, cf_67_5, cp_67_1, cp_67_2, ci_67, cf_76_0, cf_76_1, cf_76_2, cf_76_3, cf_76_4, cf_76_5, cp_76_1, cp_76_2, cp_76_3, ci_76]
        rw [q4]
        simp (decide := true) only [s_91_40, s_91_44, s_91_47, s_91_50, Option.bind_some, x_tlv, x_tln, if_true, if_false, cr_isa, R_at, R_has, R_size, R_put, R_isFull, R_add, R_clear, c_has_eq, c_wa_1, c_wa_2, c_ws_1, c_ws_2, cf_0_0, cf_0_1, cf_0_2, cf_0_3, cf_0_4, cf_0_5, cf_0_6, cf_0_7, cf_0_8, cf_0_9, cf_0_10, cf_0_11, cf_0_12, cf_0_13, cp_0_12, cp_0_13, ci_0, cf_1_0, cf_1_1, cf_1_2, cf_1_3, cf_1_4, cp_1_1, cp_1_2, cp_1_3, cp_1_4, ci_1, cf_4_0, cf_4_1, cf_4_2, cf_4_3, cf_4_4, cf_4_5, cf_4_6, cf_4_7, cf_4_8, cf_4_9, cf_4_10, cp_4_0, cp_4_1, ci_4, cf_23_0, cf_23_1, cf_23_2, cf_23_3, cf_23_4, cf_23_5, cf_23_6, cf_23_7, cf_23_8, cf_23_9, cf_23_10, cp_23_0, cp_23_1, ci_23, cf_42_0, cf_42_1, cf_42_2, cf_42_3, cp_42_2, cp_42_3, ci_42, cf_47_0, cf_47_1, cf_47_2, cp_47_1, cp_47_2, ci_47, cf_50_0, cf_50_1, cf_50_2, ci_50, cf_57_0, cf_57_1, ci_57, cf_62_0, cf_62_1, ci_62, cf_67_0, cf_67_1, cf_67_2, cf_67_3, cf_67_4, cf_67_5, cp_67_1, cp_67_2, ci_67, cf_76_0, cf_76_1, cf_76_2, cf_76_3, cf_76_4, cf_76_5, cp_76_1, cp_76_2, cp_76_3, ci_76, KK_1, f0]
      · rw [s_165_16]
        refine Eq.trans hrun ?_
        rw [e0, s_165_110, if_pos hM.symm, s_165_116]
    · have f1 : fd v = 1 := if_neg hv
      have eb := q2 hv
      subst eb
      have hW := At2W hP (wI_1 hU hu hw) hL2 q1 hv
      have el : lvn M (sI (wI μ N) N) v = 60000 - v - sI (wI μ N) N := if_neg hv
      have hne : ¬ nI (60000 - v - sI (wI μ N) N) = 1000000 := by
        rw [hM]
        exact fun q => absurd ((nI_eq (by omega) hM2).mp q) (by omega)
      rcases hn with rfl | ⟨k, hk, rfl⟩
      · refine ⟨nI (60000 - v - sI (wI μ N) N), ?_, ?_⟩
        · simp (decide := true) only [s_91_22, s_91_26, s_91_30, s_91_34, s_91_37, Option.bind_some, x_tlv, x_tln, if_true, if_false, cr_isa, R_at, R_has, R_size, R_put, R_isFull, R_add, R_clear, c_has_eq, c_wa_1, c_wa_2, c_ws_1, c_ws_2, cf_0_0, cf_0_1, cf_0_2, cf_0_3, cf_0_4, cf_0_5, cf_0_6, cf_0_7, cf_0_8, cf_0_9, cf_0_10, cf_0_11, cf_0_12, cf_0_13, cp_0_12, cp_0_13, ci_0, cf_1_0, cf_1_1, cf_1_2, cf_1_3, cf_1_4, cp_1_1, cp_1_2, cp_1_3, cp_1_4, ci_1, cf_4_0, cf_4_1, cf_4_2, cf_4_3, cf_4_4, cf_4_5, cf_4_6, cf_4_7, cf_4_8, cf_4_9, cf_4_10, cp_4_0, cp_4_1, ci_4, cf_23_0, cf_23_1, cf_23_2, cf_23_3, cf_23_4, cf_23_5, cf_23_6, cf_23_7, cf_23_8, cf_23_9, cf_23_10, cp_23_0, cp_23_1, ci_23, cf_42_0, cf_42_1, cf_42_2, cf_42_3, cp_42_2, cp_42_3, ci_42, cf_47_0, cf_47_1, cf_47_2, cp_47_1, cp_47_2, ci_47, cf_50_0, cf_50_1, cf_50_2, ci_50, cf_57_0, cf_57_1, ci_57, cf_62_0, cf_62_1, ci_62, cf_67_0, cf_67_1, cf_67_2, cf_67_3, cf_67_4, cf_67_5, cp_67_1, cp_67_2, ci_67, cf_76_0, cf_76_1, cf_76_2, cf_76_3, cf_76_4, cf_76_5, cp_76_1, cp_76_2, cp_76_3, ci_76]
          rw [q4]
          simp (decide := true) only [s_91_40, s_91_44, s_91_47, s_91_52, s_91_57, s_91_61, s_91_64, r_16, s_16_0, s_16_4, s_16_8, Option.bind_some, x_tlv, x_tln, if_true, if_false, cr_isa, R_at, R_has, R_size, R_put, R_isFull, R_add, R_clear, c_has_eq, c_wa_1, c_wa_2, c_ws_1, c_ws_2, cf_0_0, cf_0_1, cf_0_2, cf_0_3, cf_0_4, cf_0_5, cf_0_6, cf_0_7, cf_0_8, cf_0_9, cf_0_10, cf_0_11, cf_0_12, cf_0_13, cp_0_12, cp_0_13, ci_0, cf_1_0, cf_1_1, cf_1_2, cf_1_3, cf_1_4, cp_1_1, cp_1_2, cp_1_3, cp_1_4, ci_1, cf_4_0, cf_4_1, cf_4_2, cf_4_3, cf_4_4, cf_4_5, cf_4_6, cf_4_7, cf_4_8, cf_4_9, cf_4_10, cp_4_0, cp_4_1, ci_4, cf_23_0, cf_23_1, cf_23_2, cf_23_3, cf_23_4, cf_23_5, cf_23_6, cf_23_7, cf_23_8, cf_23_9, cf_23_10, cp_23_0, cp_23_1, ci_23, cf_42_0, cf_42_1, cf_42_2, cf_42_3, cp_42_2, cp_42_3, ci_42, cf_47_0, cf_47_1, cf_47_2, cp_47_1, cp_47_2, ci_47, cf_50_0, cf_50_1, cf_50_2, ci_50, cf_57_0, cf_57_1, ci_57, cf_62_0, cf_62_1, ci_62, cf_67_0, cf_67_1, cf_67_2, cf_67_3, cf_67_4, cf_67_5, cp_67_1, cp_67_2, ci_67, cf_76_0, cf_76_1, cf_76_2, cf_76_3, cf_76_4, cf_76_5, cp_76_1, cp_76_2, cp_76_3, ci_76, KK_1, KK_2, KK_3, f1, pk_sub hW]
        · rw [s_165_16]
          refine Eq.trans hrun ?_
          rw [el, s_165_110, if_neg hne, s_165_120, if_pos rfl, s_165_125]
      · have w1 : ¬ nI k = -1 := by rw [← eN_s, eN_neg (by omega)]; omega
        rcases q1 with q1 | ⟨-, -, q5⟩
        · exact absurd q1 hv
        rcases k1 with k1 | ⟨-, -, k5⟩
        · exact absurd k1 hv
        have ba := KK_ba (c_ws σ 76 3 (nI (sI (wI μ N) N))) B H R (fd v) (nI (60000 - v)) (k := k) (by omega)
        rw [q5 k hk, e2 hv] at ba
        have ma := NN_ba μ A G Lo (k := k) (by omega)
        rw [k5 k hk] at ma
        refine ⟨nI (dg P N E k), ?_, ?_⟩
        · simp (decide := true) only [s_91_22, s_91_26, s_91_30, s_91_34, s_91_37, Option.bind_some, x_tlv, x_tln, if_true, if_false, cr_isa, R_at, R_has, R_size, R_put, R_isFull, R_add, R_clear, c_has_eq, c_wa_1, c_wa_2, c_ws_1, c_ws_2, cf_0_0, cf_0_1, cf_0_2, cf_0_3, cf_0_4, cf_0_5, cf_0_6, cf_0_7, cf_0_8, cf_0_9, cf_0_10, cf_0_11, cf_0_12, cf_0_13, cp_0_12, cp_0_13, ci_0, cf_1_0, cf_1_1, cf_1_2, cf_1_3, cf_1_4, cp_1_1, cp_1_2, cp_1_3, cp_1_4, ci_1, cf_4_0, cf_4_1, cf_4_2, cf_4_3, cf_4_4, cf_4_5, cf_4_6, cf_4_7, cf_4_8, cf_4_9, cf_4_10, cp_4_0, cp_4_1, ci_4, cf_23_0, cf_23_1, cf_23_2, cf_23_3, cf_23_4, cf_23_5, cf_23_6, cf_23_7, cf_23_8, cf_23_9, cf_23_10, cp_23_0, cp_23_1, ci_23, cf_42_0, cf_42_1, cf_42_2, cf_42_3, cp_42_2, cp_42_3, ci_42, cf_47_0, cf_47_1, cf_47_2, cp_47_1, cp_47_2, ci_47, cf_50_0, cf_50_1, cf_50_2, ci_50, cf_57_0, cf_57_1, ci_57, cf_62_0, cf_62_1, ci_62, cf_67_0, cf_67_1, cf_67_2, cf_67_3, cf_67_4, cf_67_5, cp_67_1, cp_67_2, ci_67, cf_76_0, cf_76_1, cf_76_2, cf_76_3, cf_76_4, cf_76_5, cp_76_1, cp_76_2, cp_76_3, ci_76]
          rw [q4]
          rw [f1] at ba ⊢
          simp (decide := true) only [s_91_40, s_91_44, s_91_47, s_91_52, s_91_67, s_91_71, s_91_74, s_91_78, Option.bind_some, x_tlv, x_tln, if_true, if_false, cr_isa, R_at, R_has, R_size, R_put, R_isFull, R_add, R_clear, c_has_eq, c_wa_1, c_wa_2, c_ws_1, c_ws_2, cf_0_0, cf_0_1, cf_0_2, cf_0_3, cf_0_4, cf_0_5, cf_0_6, cf_0_7, cf_0_8, cf_0_9, cf_0_10, cf_0_11, cf_0_12, cf_0_13, cp_0_12, cp_0_13, ci_0, cf_1_0, cf_1_1, cf_1_2, cf_1_3, cf_1_4, cp_1_1, cp_1_2, cp_1_3, cp_1_4, ci_1, cf_4_0, cf_4_1, cf_4_2, cf_4_3, cf_4_4, cf_4_5, cf_4_6, cf_4_7, cf_4_8, cf_4_9, cf_4_10, cp_4_0, cp_4_1, ci_4, cf_23_0, cf_23_1, cf_23_2, cf_23_3, cf_23_4, cf_23_5, cf_23_6, cf_23_7, cf_23_8, cf_23_9, cf_23_10, cp_23_0, cp_23_1, ci_23, cf_42_0, cf_42_1, cf_42_2, cf_42_3, cp_42_2, cp_42_3, ci_42, cf_47_0, cf_47_1, cf_47_2, cp_47_1, cp_47_2, ci_47, cf_50_0, cf_50_1, cf_50_2, ci_50, cf_57_0, cf_57_1, ci_57, cf_62_0, cf_62_1, ci_62, cf_67_0, cf_67_1, cf_67_2, cf_67_3, cf_67_4, cf_67_5, cp_67_1, cp_67_2, ci_67, cf_76_0, cf_76_1, cf_76_2, cf_76_3, cf_76_4, cf_76_5, cp_76_1, cp_76_2, cp_76_3, ci_76, KK_1, w1, ba]
        · rw [s_165_16]
          refine Eq.trans hrun ?_
          rw [el, s_165_110, if_neg hne, s_165_120, if_neg w1, s_165_129]
          simp (decide := true) only [s_165_133, s_165_135, Option.bind_some, x_tlv, x_tln, if_true, if_false, m_wa_1, m_wa_s, m_wb_1, m_wb_2, m_wb_s, m_ws_1, m_ws_b, m_ws_s, m_ws_e, m_we_1, m_we_b, m_we_s, m_we_e, mf_0, mf_1, mf_2, mf_3, mf_4, mf_5, mf_6, mf_7, mf_8, mf_9, mf_10, mf_11, mf_12, mf_13, mf_14, mf_15, mf_16, mf_17, mf_18, mf_19, mf_20, mf_21, mf_22, mf_23, mf_24, mf_25, mf_26, mf_27, mf_28, mf_29, mf_30, mp_4, mp_7, mp_9, mp_10, mp_12, mp_14, mp_15, mp_16, mp_17, mp_18, mp_19, mp_20, mi_0, ma]
  by_cases hn1 : n = -1
  · obtain ⟨a, h1, h2⟩ := tail (Or.inl hn1)
    refine ⟨a, KK (c_ws σ 76 3 (nI (sI (wI μ N) N))) B H R (fd v) bt, NN μ A G Lo, ?_, ?_, SIM_KN hS' _ _ _ _ _ _ _ _ _⟩
    · rw [r_91, s_91_0, if_pos hn1]; exact h1
    · rw [r_165, s_165_0, if_pos hn1]; exact h2
  · rcases x_hv_cases (U := N) (by omega) n with h | ⟨k, hk, rfl, h⟩
    · refine ⟨-1000000001, σ, μ, ?_, ?_, hS'⟩
      · rw [r_91, s_91_0, if_neg hn1]
        simp (decide := true) only [s_91_5, s_91_9, s_91_12, s_91_16, s_91_19, Option.bind_some, x_tlv, x_tln, if_true, if_false, cr_isa, R_at, R_has, R_size, R_put, R_isFull, R_add, R_clear, c_has_eq, c_wa_1, c_wa_2, c_ws_1, c_ws_2, cf_0_0, cf_0_1, cf_0_2, cf_0_3, cf_0_4, cf_0_5, cf_0_6, cf_0_7, cf_0_8, cf_0_9, cf_0_10, cf_0_11, cf_0_12, cf_0_13, cp_0_12, cp_0_13, ci_0, cf_1_0, cf_1_1, cf_1_2, cf_1_3, cf_1_4, cp_1_1, cp_1_2, cp_1_3, cp_1_4, ci_1, cf_4_0, cf_4_1, cf_4_2, cf_4_3, cf_4_4, cf_4_5, cf_4_6, cf_4_7, cf_4_8, cf_4_9, cf_4_10, cp_4_0, cp_4_1, ci_4, cf_23_0, cf_23_1, cf_23_2, cf_23_3, cf_23_4, cf_23_5, cf_23_6, cf_23_7, cf_23_8, cf_23_9, cf_23_10, cp_23_0, cp_23_1, ci_23, cf_42_0, cf_42_1, cf_42_2, cf_42_3, cp_42_2, cp_42_3, ci_42, cf_47_0, cf_47_1, cf_47_2, cp_47_1, cp_47_2, ci_47, cf_50_0, cf_50_1, cf_50_2, ci_50, cf_57_0, cf_57_1, ci_57, cf_62_0, cf_62_1, ci_62, cf_67_0, cf_67_1, cf_67_2, cf_67_3, cf_67_4, cf_67_5, cp_67_1, cp_67_2, ci_67, cf_76_0, cf_76_1, cf_76_2, cf_76_3, cf_76_4, cf_76_5, cp_76_1, cp_76_2, cp_76_3, ci_76, c6.2, h]
      · rw [r_165, s_165_0, if_neg hn1]
        simp (decide := true) only [s_165_5, s_165_10, s_165_13, Option.bind_some, x_tlv, x_tln, if_true, if_false, m_wa_1, m_wa_s, m_wb_1, m_wb_2, m_wb_s, m_ws_1, m_ws_b, m_ws_s, m_ws_e, m_we_1, m_we_b, m_we_s, m_we_e, mf_0, mf_1, mf_2, mf_3, mf_4, mf_5, mf_6, mf_7, mf_8, mf_9, mf_10, mf_11, mf_12, mf_13, mf_14, mf_15, mf_16, mf_17, mf_18, mf_19, mf_20, mf_21, mf_22, mf_23, mf_24, mf_25, mf_26, mf_27, mf_28, mf_29, mf_30, mp_4, mp_7, mp_9, mp_10, mp_12, mp_14, mp_15, mp_16, mp_17, mp_18, mp_19, mp_20, mi_0, M_isWant _ _ (show N < 1000 by omega) c6.1, h]
    · obtain ⟨a, h1, h2⟩ := tail (Or.inr ⟨k, hk, rfl⟩)
      refine ⟨a, KK (c_ws σ 76 3 (nI (sI (wI μ N) N))) B H R (fd v) bt, NN μ A G Lo, ?_, ?_, SIM_KN hS' _ _ _ _ _ _ _ _ _⟩
      · rw [r_91, s_91_0, if_neg hn1]
        simp (decide := true) only [s_91_5, s_91_9, s_91_12, s_91_16, Option.bind_some, x_tlv, x_tln, if_true, if_false, cr_isa, R_at, R_has, R_size, R_put, R_isFull, R_add, R_clear, c_has_eq, c_wa_1, c_wa_2, c_ws_1, c_ws_2, cf_0_0, cf_0_1, cf_0_2, cf_0_3, cf_0_4, cf_0_5, cf_0_6, cf_0_7, cf_0_8, cf_0_9, cf_0_10, cf_0_11, cf_0_12, cf_0_13, cp_0_12, cp_0_13, ci_0, cf_1_0, cf_1_1, cf_1_2, cf_1_3, cf_1_4, cp_1_1, cp_1_2, cp_1_3, cp_1_4, ci_1, cf_4_0, cf_4_1, cf_4_2, cf_4_3, cf_4_4, cf_4_5, cf_4_6, cf_4_7, cf_4_8, cf_4_9, cf_4_10, cp_4_0, cp_4_1, ci_4, cf_23_0, cf_23_1, cf_23_2, cf_23_3, cf_23_4, cf_23_5, cf_23_6, cf_23_7, cf_23_8, cf_23_9, cf_23_10, cp_23_0, cp_23_1, ci_23, cf_42_0, cf_42_1, cf_42_2, cf_42_3, cp_42_2, cp_42_3, ci_42, cf_47_0, cf_47_1, cf_47_2, cp_47_1, cp_47_2, ci_47, cf_50_0, cf_50_1, cf_50_2, ci_50, cf_57_0, cf_57_1, ci_57, cf_62_0, cf_62_1, ci_62, cf_67_0, cf_67_1, cf_67_2, cf_67_3, cf_67_4, cf_67_5, cp_67_1, cp_67_2, ci_67, cf_76_0, cf_76_1, cf_76_2, cf_76_3, cf_76_4, cf_76_5, cp_76_1, cp_76_2, cp_76_3, ci_76, c6.2, h]
        exact h1
      · rw [r_165, s_165_0, if_neg hn1]
        simp (decide := true) only [s_165_5, s_165_10, Option.bind_some, x_tlv, x_tln, if_true, if_false, m_wa_1, m_wa_s, m_wb_1, m_wb_2, m_wb_s, m_ws_1, m_ws_b, m_ws_s, m_ws_e, m_we_1, m_we_b, m_we_s, m_we_e, mf_0, mf_1, mf_2, mf_3, mf_4, mf_5, mf_6, mf_7, mf_8, mf_9, mf_10, mf_11, mf_12, mf_13, mf_14, mf_15, mf_16, mf_17, mf_18, mf_19, mf_20, mf_21, mf_22, mf_23, mf_24, mf_25, mf_26, mf_27, mf_28, mf_29, mf_30, mp_4, mp_7, mp_9, mp_10, mp_12, mp_14, mp_15, mp_16, mp_17, mp_18, mp_19, mp_20, mi_0, M_isWant _ _ (show N < 1000 by omega) c6.1, h]
        exact h2
