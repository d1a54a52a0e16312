/-! reading: a clause, whatever its word -/
theorem blp_w {a w q : Int32} (h : w ≠ 0) : blp a 0 w q = q ∧ bln 0 w = w := ⟨if_neg (by rintro (y | y); exact h y; exact y rfl), if_neg (by rintro (y | y); exact h y; exact y rfl)⟩
theorem E_clause {σ : x_S} {n q : Nat} {f : Nat → Nat} (d : Nat) (h : TX σ n f) (a e : Int32) (hq : q < n) : x_R x_P (d + 5) 39 [.ref 1, .ref 23] (CG (RD σ a 0 (nI q) e)) = x_E x_P (d + 4) x_c39 35 [.ref 1, .ref 23, .int (nI (f q))] [] (CG (RD σ (blp a 0 (fW σ (nI (f q))) (nI q)) (bln 0 (fW σ (nI (f q)))) (nI (q + 1)) e)) := by
  have a1 := RD_t h a 0 (nI q) e hq
  have hw : x_R x_P (d + 4) 40 [.ref 23, .int (nI (f q))] (CG (RD σ a 0 (nI q) e)) = some (some (.int (fW σ (nI (f q)))), CG (RD σ a 0 (nI q) e)) := R_word (d + 1) (RD σ a 0 (nI q) e) (nI (f q))
  have hb := R_blame (d + 3) σ a 0 (nI q) e (fW σ (nI (f q))) (nI q)
  simp (decide := true) only [r_39, s_39_0, s_39_4, s_39_8, s_39_11, s_39_18, s_39_22, s_39_25, s_39_30, Option.bind_some, x_tlv, x_tln, if_true, if_false, cr_isa, R_at, R_has, R_size, R_put, R_isFull, R_add, R_clear, c_has_eq, c_wa_1, c_wa_2, c_ws_1, c_ws_2, cf_0_0, cf_0_1, cf_0_2, cf_0_3, cf_0_4, cf_0_5, cf_0_6, cf_0_7, cf_0_8, cf_0_9, cf_0_10, cf_0_11, cf_0_12, cf_0_13, cp_0_12, cp_0_13, ci_0, cf_1_0, cf_1_1, cf_1_2, cf_1_3, cf_1_4, cp_1_1, cp_1_2, cp_1_3, cp_1_4, ci_1, cf_4_0, cf_4_1, cf_4_2, cf_4_3, cf_4_4, cf_4_5, cf_4_6, cf_4_7, cf_4_8, cf_4_9, cf_4_10, cp_4_0, cp_4_1, ci_4, cf_23_0, cf_23_1, cf_23_2, cf_23_3, cf_23_4, cf_23_5, cf_23_6, cf_23_7, cf_23_8, cf_23_9, cf_23_10, cp_23_0, cp_23_1, ci_23, cf_42_0, cf_42_1, cf_42_2, cf_42_3, cp_42_2, cp_42_3, ci_42, cf_47_0, cf_47_1, cf_47_2, cp_47_1, cp_47_2, ci_47, cf_50_0, cf_50_1, cf_50_2, ci_50, cf_57_0, cf_57_1, ci_57, cf_62_0, cf_62_1, ci_62, cf_67_0, cf_67_1, cf_67_2, cf_67_3, cf_67_4, cf_67_5, cp_67_1, cp_67_2, ci_67, cf_76_0, cf_76_1, cf_76_2, cf_76_3, cf_76_4, cf_76_5, cp_76_1, cp_76_2, cp_76_3, ci_76, RD_c, a1, hw, hb, nI_1, RD_3]
theorem fW_eq {σ : x_S} {c v : Int32} {k : Nat} (e : nI k = c) (h : fW σ c = v) : fW σ (nI k) = v := by rw [e]; exact h
theorem bad_of {σ σ' : x_S} {q p' : Nat} {W e' : Int32} {r r' : Option (Option Value × x_H)} (hr : ∀ h, r = some (none, h) → r' = some (none, h)) (hC : r = some (none, CG (RD σ' (nI q) W (nI p') e'))) (hp : p' ≤ 20000) (ag : AG σ σ') : ∃ σ' p' e', p' ≤ 20000 ∧ r' = some (none, CG (RD σ' (nI q) W (nI p') e')) ∧ AG σ σ' := ⟨σ', p', e', hp, hr _ hC, ag⟩
/-- at fault by its word: the class reads on, what is at fault stays -/
theorem R_clause_bad {σ : x_S} {n q T : Nat} {f : Nat → Nat} (d : Nat) (h : TX σ n f) (hT : T ≤ 8) (h26 : σ.2 26 1 = nI T) (a e W : Int32) (hq : q < n) (hW : fW σ (nI (f q)) = W) (h0 : W ≠ 0) : ∃ σ' p' e', p' ≤ 20000 ∧ x_R x_P (d + 5) 39 [.ref 1, .ref 23] (CG (RD σ a 0 (nI q) e)) = some (none, CG (RD σ' (nI q) W (nI p') e')) ∧ AG σ σ' := by
  have h1 := h.1
  have hf := (h.2.2 q hq).2
  have k1 := nt_le f n (q + 1)
  have k2 := nt_le f n (nt f n (q + 1))
  have k3 := nt_le f n (nt f n (nt f n (q + 1)))
  have k4 := nt_le f n (nt f n (nt f n (nt f n (q + 1))))
  have s1 := sk_ok f n (nt f n (q + 1))
  have s2 := sk_ok f n (nt f n (nt f n (q + 1)))
  have s4 := sk_ok f n (nt f n (nt f n (nt f n (nt f n (q + 1)))))
  rw [E_clause d h a e hq, hW, (blp_w h0).1, (blp_w (a := a) (q := nI q) h0).2]
  by_cases c1 : f q = 100
  · have e1 : nI (f q) = 100 := by rw [c1]; rfl
    obtain ⟨A, B, hC, hA, hB⟩ := R_dues d h (nI q) W e (p := q + 1) (by omega)
    rw [(na_keep h0).1, (na_keep (a := nI q) h0).2, (ea_keep h0).1] at hA
    rw [(na_keep (a := nI q) h0).2, (ea_keep (a := nI q) h0).2] at hB
    subst hA hB
    exact bad_of (fun h' z => by
      rw [e1]
      simp (decide := true) only [s_39_35_v100, s_39_88, s_39_93, Option.bind_some, x_tlv, x_tln, if_true, if_false, cr_isa, R_at, R_has, R_size, R_put, R_isFull, R_add, R_clear, c_has_eq, c_wa_1, c_wa_2, c_ws_1, c_ws_2, cf_0_0, cf_0_1, cf_0_2, cf_0_3, cf_0_4, cf_0_5, cf_0_6, cf_0_7, cf_0_8, cf_0_9, cf_0_10, cf_0_11, cf_0_12, cf_0_13, cp_0_12, cp_0_13, ci_0, cf_1_0, cf_1_1, cf_1_2, cf_1_3, cf_1_4, cp_1_1, cp_1_2, cp_1_3, cp_1_4, ci_1, cf_4_0, cf_4_1, cf_4_2, cf_4_3, cf_4_4, cf_4_5, cf_4_6, cf_4_7, cf_4_8, cf_4_9, cf_4_10, cp_4_0, cp_4_1, ci_4, cf_23_0, cf_23_1, cf_23_2, cf_23_3, cf_23_4, cf_23_5, cf_23_6, cf_23_7, cf_23_8, cf_23_9, cf_23_10, cp_23_0, cp_23_1, ci_23, cf_42_0, cf_42_1, cf_42_2, cf_42_3, cp_42_2, cp_42_3, ci_42, cf_47_0, cf_47_1, cf_47_2, cp_47_1, cp_47_2, ci_47, cf_50_0, cf_50_1, cf_50_2, ci_50, cf_57_0, cf_57_1, ci_57, cf_62_0, cf_62_1, ci_62, cf_67_0, cf_67_1, cf_67_2, cf_67_3, cf_67_4, cf_67_5, cp_67_1, cp_67_2, ci_67, cf_76_0, cf_76_1, cf_76_2, cf_76_3, cf_76_4, cf_76_5, cp_76_1, cp_76_2, cp_76_3, ci_76, z]) hC (by unfold nq; omega) ((AG.ws σ 1 _).tr (AG.ws _ 0 1))
  by_cases c2 : f q = 117
  · have e1 : nI (f q) = 117 := by rw [c2]; rfl
    obtain ⟨A, B, hC, hA, hB⟩ := R_use d h (nI q) W e (p := q + 1) (by omega)
    rw [(na_keep h0).1, (na_keep (a := nI q) h0).2, (ea_keep h0).1] at hA
    rw [(na_keep (a := nI q) h0).2, (ea_keep (a := nI q) h0).2] at hB
    subst hA hB
    exact bad_of (fun h' z => by
      rw [e1]
      simp (decide := true) only [s_39_35_v117, s_39_96, s_39_101, Option.bind_some, x_tlv, x_tln, if_true, if_false, cr_isa, R_at, R_has, R_size, R_put, R_isFull, R_add, R_clear, c_has_eq, c_wa_1, c_wa_2, c_ws_1, c_ws_2, cf_0_0, cf_0_1, cf_0_2, cf_0_3, cf_0_4, cf_0_5, cf_0_6, cf_0_7, cf_0_8, cf_0_9, cf_0_10, cf_0_11, cf_0_12, cf_0_13, cp_0_12, cp_0_13, ci_0, cf_1_0, cf_1_1, cf_1_2, cf_1_3, cf_1_4, cp_1_1, cp_1_2, cp_1_3, cp_1_4, ci_1, cf_4_0, cf_4_1, cf_4_2, cf_4_3, cf_4_4, cf_4_5, cf_4_6, cf_4_7, cf_4_8, cf_4_9, cf_4_10, cp_4_0, cp_4_1, ci_4, cf_23_0, cf_23_1, cf_23_2, cf_23_3, cf_23_4, cf_23_5, cf_23_6, cf_23_7, cf_23_8, cf_23_9, cf_23_10, cp_23_0, cp_23_1, ci_23, cf_42_0, cf_42_1, cf_42_2, cf_42_3, cp_42_2, cp_42_3, ci_42, cf_47_0, cf_47_1, cf_47_2, cp_47_1, cp_47_2, ci_47, cf_50_0, cf_50_1, cf_50_2, ci_50, cf_57_0, cf_57_1, ci_57, cf_62_0, cf_62_1, ci_62, cf_67_0, cf_67_1, cf_67_2, cf_67_3, cf_67_4, cf_67_5, cp_67_1, cp_67_2, ci_67, cf_76_0, cf_76_1, cf_76_2, cf_76_3, cf_76_4, cf_76_5, cp_76_1, cp_76_2, cp_76_3, ci_76, z]) hC (by unfold nq; omega) (AG.add σ (q := 24) (by omega) (by omega) _)
  by_cases c3 : f q = 112
  · have e1 : nI (f q) = 112 := by rw [c3]; rfl
    have hC := R_am34 d h (nI q) W e (p := q + 1) (by omega) rfl
    rw [(na_keep h0).1, (na_keep (a := nI q) h0).2, (na_keep h0).1, (na_keep (a := nI q) h0).2, (ea_keep h0).1, (ea_keep (a := nI q) h0).2] at hC
    exact bad_of (fun h' z => by
      rw [e1]
      simp (decide := true) only [s_39_35_v112, s_39_112, s_39_118, s_39_122, s_39_127, Option.bind_some, x_tlv, x_tln, if_true, if_false, cr_isa, R_at, R_has, R_size, R_put, R_isFull, R_add, R_clear, c_has_eq, c_wa_1, c_wa_2, c_ws_1, c_ws_2, cf_0_0, cf_0_1, cf_0_2, cf_0_3, cf_0_4, cf_0_5, cf_0_6, cf_0_7, cf_0_8, cf_0_9, cf_0_10, cf_0_11, cf_0_12, cf_0_13, cp_0_12, cp_0_13, ci_0, cf_1_0, cf_1_1, cf_1_2, cf_1_3, cf_1_4, cp_1_1, cp_1_2, cp_1_3, cp_1_4, ci_1, cf_4_0, cf_4_1, cf_4_2, cf_4_3, cf_4_4, cf_4_5, cf_4_6, cf_4_7, cf_4_8, cf_4_9, cf_4_10, cp_4_0, cp_4_1, ci_4, cf_23_0, cf_23_1, cf_23_2, cf_23_3, cf_23_4, cf_23_5, cf_23_6, cf_23_7, cf_23_8, cf_23_9, cf_23_10, cp_23_0, cp_23_1, ci_23, cf_42_0, cf_42_1, cf_42_2, cf_42_3, cp_42_2, cp_42_3, ci_42, cf_47_0, cf_47_1, cf_47_2, cp_47_1, cp_47_2, ci_47, cf_50_0, cf_50_1, cf_50_2, ci_50, cf_57_0, cf_57_1, ci_57, cf_62_0, cf_62_1, ci_62, cf_67_0, cf_67_1, cf_67_2, cf_67_3, cf_67_4, cf_67_5, cp_67_1, cp_67_2, ci_67, cf_76_0, cf_76_1, cf_76_2, cf_76_3, cf_76_4, cf_76_5, cp_76_1, cp_76_2, cp_76_3, ci_76, z]) hC (by unfold nq; omega) ((AG.add σ (q := 34) (by omega) (by omega) _).tr (AG.add _ (q := 36) (by omega) (by omega) _))
  by_cases c4 : f q = 110
  · have e1 : nI (f q) = 110 := by rw [c4]; rfl
    have hC := R_am38 d h (nI q) W e (p := q + 1) (by omega) rfl
    rw [(na_keep h0).1, (na_keep (a := nI q) h0).2, (na_keep h0).1, (na_keep (a := nI q) h0).2, (ea_keep h0).1, (ea_keep (a := nI q) h0).2] at hC
    exact bad_of (fun h' z => by
      rw [e1]
      simp (decide := true) only [s_39_35_v110, s_39_130, s_39_136, s_39_140, s_39_145, Option.bind_some, x_tlv, x_tln, if_true, if_false, cr_isa, R_at, R_has, R_size, R_put, R_isFull, R_add, R_clear, c_has_eq, c_wa_1, c_wa_2, c_ws_1, c_ws_2, cf_0_0, cf_0_1, cf_0_2, cf_0_3, cf_0_4, cf_0_5, cf_0_6, cf_0_7, cf_0_8, cf_0_9, cf_0_10, cf_0_11, cf_0_12, cf_0_13, cp_0_12, cp_0_13, ci_0, cf_1_0, cf_1_1, cf_1_2, cf_1_3, cf_1_4, cp_1_1, cp_1_2, cp_1_3, cp_1_4, ci_1, cf_4_0, cf_4_1, cf_4_2, cf_4_3, cf_4_4, cf_4_5, cf_4_6, cf_4_7, cf_4_8, cf_4_9, cf_4_10, cp_4_0, cp_4_1, ci_4, cf_23_0, cf_23_1, cf_23_2, cf_23_3, cf_23_4, cf_23_5, cf_23_6, cf_23_7, cf_23_8, cf_23_9, cf_23_10, cp_23_0, cp_23_1, ci_23, cf_42_0, cf_42_1, cf_42_2, cf_42_3, cp_42_2, cp_42_3, ci_42, cf_47_0, cf_47_1, cf_47_2, cp_47_1, cp_47_2, ci_47, cf_50_0, cf_50_1, cf_50_2, ci_50, cf_57_0, cf_57_1, ci_57, cf_62_0, cf_62_1, ci_62, cf_67_0, cf_67_1, cf_67_2, cf_67_3, cf_67_4, cf_67_5, cp_67_1, cp_67_2, ci_67, cf_76_0, cf_76_1, cf_76_2, cf_76_3, cf_76_4, cf_76_5, cp_76_1, cp_76_2, cp_76_3, ci_76, z]) hC (by unfold nq; omega) ((AG.add σ (q := 38) (by omega) (by omega) _).tr (AG.add _ (q := 40) (by omega) (by omega) _))
  by_cases c5 : f q = 116
  · have e1 : nI (f q) = 116 := by rw [c5]; rfl
    obtain ⟨r, a2, b2, a3, b3, a4, b4, a5, b5, -, -, E1, E2, E3, E4, E5, E6, E7, E8, hC⟩ := R_table d h (nI q) W e (p := q + 1) (T := T) (by omega) rfl hT h26 rfl rfl rfl rfl
    rw [(na_keep h0).1, (na_keep (a := nI q) h0).2, (na_keep h0).1] at E1
    rw [(na_keep (a := nI q) h0).2, (na_keep (a := nI q) h0).2] at E2
    subst E1 E2
    have x3 : a3 = nI q := E3.trans (if_pos (Or.inr h0))
    have x4 : b3 = b2 := E4.trans (if_pos (Or.inr h0))
    subst x3 x4
    rw [(na_keep h0).1, (na_keep (a := nI q) h0).2, (na_keep h0).1] at E5
    rw [(na_keep (a := nI q) h0).2, (na_keep (a := nI q) h0).2] at E6
    subst E5 E6
    rw [(ea_keep h0).1] at E7
    rw [(ea_keep (a := nI q) h0).2] at E8
    subst E7 E8
    exact bad_of (fun h' z => by
      rw [e1]
      simp (decide := true) only [s_39_35_v116, s_39_104, s_39_109, Option.bind_some, x_tlv, x_tln, if_true, if_false, cr_isa, R_at, R_has, R_size, R_put, R_isFull, R_add, R_clear, c_has_eq, c_wa_1, c_wa_2, c_ws_1, c_ws_2, cf_0_0, cf_0_1, cf_0_2, cf_0_3, cf_0_4, cf_0_5, cf_0_6, cf_0_7, cf_0_8, cf_0_9, cf_0_10, cf_0_11, cf_0_12, cf_0_13, cp_0_12, cp_0_13, ci_0, cf_1_0, cf_1_1, cf_1_2, cf_1_3, cf_1_4, cp_1_1, cp_1_2, cp_1_3, cp_1_4, ci_1, cf_4_0, cf_4_1, cf_4_2, cf_4_3, cf_4_4, cf_4_5, cf_4_6, cf_4_7, cf_4_8, cf_4_9, cf_4_10, cp_4_0, cp_4_1, ci_4, cf_23_0, cf_23_1, cf_23_2, cf_23_3, cf_23_4, cf_23_5, cf_23_6, cf_23_7, cf_23_8, cf_23_9, cf_23_10, cp_23_0, cp_23_1, ci_23, cf_42_0, cf_42_1, cf_42_2, cf_42_3, cp_42_2, cp_42_3, ci_42, cf_47_0, cf_47_1, cf_47_2, cp_47_1, cp_47_2, ci_47, cf_50_0, cf_50_1, cf_50_2, ci_50, cf_57_0, cf_57_1, ci_57, cf_62_0, cf_62_1, ci_62, cf_67_0, cf_67_1, cf_67_2, cf_67_3, cf_67_4, cf_67_5, cp_67_1, cp_67_2, ci_67, cf_76_0, cf_76_1, cf_76_2, cf_76_3, cf_76_4, cf_76_5, cp_76_1, cp_76_2, cp_76_3, ci_76, z]) hC (by unfold nq; omega) ((((AG.add σ (q := 26) (by omega) (by omega) _).tr (AG.add _ (q := 28) (by omega) (by omega) _)).tr (AG.add _ (q := 30) (by omega) (by omega) _)).tr (AG.add _ (q := 32) (by omega) (by omega) _))
  have n1 : ¬ nI (f q) = 100 := fun z => c1 ((nI_eq (b := 100) (by omega) (by omega)).mp z)
  have n2 : ¬ nI (f q) = 117 := fun z => c2 ((nI_eq (b := 117) (by omega) (by omega)).mp z)
  have n3 : ¬ nI (f q) = 112 := fun z => c3 ((nI_eq (b := 112) (by omega) (by omega)).mp z)
  have n4 : ¬ nI (f q) = 110 := fun z => c4 ((nI_eq (b := 110) (by omega) (by omega)).mp z)
  have n5 : ¬ nI (f q) = 116 := fun z => c5 ((nI_eq (b := 116) (by omega) (by omega)).mp z)
  refine ⟨σ, q + 1, e, by omega, ?_, AG.rf σ⟩
  rw [s_39_35_d _ _ _ _ _ n1 n4 n3 n5 n2, s_39_148]
theorem J_lift {σ : x_S} {μ : x_U} {n p p' : Nat} {a w : Int32} {rC rM rC' rM' : Option (Option Value × x_H)} (hp : p ≤ p') (hC : ∀ h, rC = some (none, h) → rC' = some (none, h)) (hM : ∀ (v : Int32) h, (v = 0 ∨ v = 1) → rM = some (some (.int v), h) → rM' = some (some (.int v), h)) (h : Well σ μ n p' a w rC rM ∨ Ill σ μ rC rM) : Well σ μ n p a w rC' rM' ∨ Ill σ μ rC' rM' := by
  rcases h with ⟨σ', A', q, e', b', s', g', v', U, T, P, N, h1, h2, h3, h4, h5, h6⟩ | ⟨σ', A', q, p2, e', a', s', g', v', W, h1, h2, h3, h4, h5⟩
  · exact Or.inl ⟨σ', A', q, e', b', s', g', v', U, T, P, N, hC _ h1, hM 1 _ (Or.inr rfl) h2, h3, h4, by omega, h6⟩
  · exact Or.inr ⟨σ', A', q, p2, e', a', s', g', v', W, h1, h2, hC _ h3, hM 0 _ (Or.inl rfl) h4, h5⟩
theorem fR_ok {σ : x_S} {q U : Nat} (h0 : σ.2 23 0 = 1) (h1 : σ.2 q 1 = nI U) (h2 : U < c_room q) : fR σ q = 0 := by
  have h3 := c_room_lt q
  have e : c_full σ q = 0 := if_neg (by rw [h1]; exact nI_ge h2 h3)
  unfold fR
  rw [if_neg (by rw [h0]; decide), if_pos e]
theorem fR_full {σ : x_S} {q U : Nat} (h0 : σ.2 23 0 = 1) (h1 : σ.2 q 1 = nI U) (h2 : U = c_room q) : fR σ q = 3 := by
  have e : c_full σ q = 1 := if_pos (by rw [h1, h2]; exact Int32.le_refl _)
  unfold fR
  rw [if_neg (by rw [h0]; decide), if_neg (by rw [e]; decide)]
theorem fR_shut {σ : x_S} {q : Nat} (h0 : σ.2 23 0 = 0) : fR σ q = 1 := if_pos h0
theorem bit01 {v : Int32} (h : v = 0 ∨ v = 1) : v &&& 1 = v := by rcases h with rfl | rfl <;> decide
theorem M_fails' (d : Nat) {μ : x_U} {A : Nat → Int32} {a b s g v w : Int32} (x : Int32) : x_R x_P (d + 1) 118 [.ref 0, .int x] (MG (RM μ A a b s g v w)) = some (some (.int 0), MG (RM μ A a b s g v x)) := M_fails d μ A a b s g v w x
/-- a clause, on both sides: well read, or at fault alike -/
theorem J_clause {σ : x_S} {μ : x_U} {A : Nat → Int32} {U T P N n q : Nat} {f : Nat → Nat} (dC dM : Nat) (hx : TX σ n f) (hm : TM μ n f) (hD : DR σ A U T P N) (hq : q < n) (a e a' s g v w : Int32) (hs1 : 48 ≤ f q ∧ f q ≤ 57 → s = 48) (hs2 : ¬ (48 ≤ f q ∧ f q ≤ 57) → s = nI (f q) ∧ a' = nI (q + 1)) : Well σ μ n q a w (x_R x_P (dC + 5) 39 [.ref 1, .ref 23] (CG (RD σ a 0 (nI q) e))) (x_R x_P (dM + 6) 127 [.ref 0] (MG (RM μ A a' (nI q) s g v w))) ∨ Ill σ μ (x_R x_P (dC + 5) 39 [.ref 1, .ref 23] (CG (RD σ a 0 (nI q) e))) (x_R x_P (dM + 6) 127 [.ref 0] (MG (RM μ A a' (nI q) s g v w))) := by
  have h1 := hx.1
  have hf := (hx.2.2 q hq).2
  have hD' := hD
  obtain ⟨⟨hU, hT, hP, hN⟩, ⟨d0, d0'⟩, -, ⟨d2, d2'⟩, ⟨d3, d26, -⟩, ⟨d4, d34, -⟩, ⟨d5, d38, -⟩, -⟩ := hD'
  have rr : ∀ k a b s g v w, k < 68 → x_ild (MG (RM μ A a b s g v w)) 2 0 (nI k) = some (A k) := fun k a b s g v w hk => RM_ra μ A a b s g v w (k := k) hk
  have r0 : ∀ a b s g v w, x_ild (MG (RM μ A a b s g v w)) 2 0 0 = some (A 0) := fun a b s g v w => rr 0 a b s g v w (by decide)
  have r2 : ∀ a b s g v w, x_ild (MG (RM μ A a b s g v w)) 2 0 2 = some (A 2) := fun a b s g v w => rr 2 a b s g v w (by decide)
  have r3 : ∀ a b s g v w, x_ild (MG (RM μ A a b s g v w)) 2 0 3 = some (A 3) := fun a b s g v w => rr 3 a b s g v w (by decide)
  have r4 : ∀ a b s g v w, x_ild (MG (RM μ A a b s g v w)) 2 0 4 = some (A 4) := fun a b s g v w => rr 4 a b s g v w (by decide)
  have r5 : ∀ a b s g v w, x_ild (MG (RM μ A a b s g v w)) 2 0 5 = some (A 5) := fun a b s g v w => rr 5 a b s g v w (by decide)
  -- at fault by the word
  have ill : ∀ W : Int32, W ≠ 0 → fW σ (nI (f q)) = W → (x_R x_P (dM + 6) 127 [.ref 0] (MG (RM μ A a' (nI q) s g v w)) = some (some (.int 0), MG (RM μ A a' (nI q) s g v W))) → Ill σ μ (x_R x_P (dC + 5) 39 [.ref 1, .ref 23] (CG (RD σ a 0 (nI q) e))) (x_R x_P (dM + 6) 127 [.ref 0] (MG (RM μ A a' (nI q) s g v w))) := by
    intro W h0 hW hM
    obtain ⟨σ', p', e', z1, z2, z3⟩ := R_clause_bad dC hx hT d26 a e W hq hW h0
    exact ⟨σ', A, q, p', e', a', s, g, v, W, h0, z1, z2, hM, z3⟩
  have ok : ∀ c : Int32, nI (f q) = c → fW σ c = 0 → x_R x_P (dC + 5) 39 [.ref 1, .ref 23] (CG (RD σ a 0 (nI q) e)) = x_E x_P (dC + 4) x_c39 35 [.ref 1, .ref 23, .int c] [] (CG (RD σ a 0 (nI (q + 1)) e)) := by
    intro c hc h0
    have z := E_clause dC hx a e hq
    rw [hc, h0, blp_0, bln_0] at z
    exact z
  by_cases c1 : f q = 100
  · obtain ⟨rfl, rfl⟩ := hs2 (by omega)
    have e1 : nI (f q) = 100 := by rw [c1]; rfl
    rcases d0' with z0 | z0
    · have hW : fW σ 100 = 0 := by unfold fW; rw [if_pos rfl, if_pos (by rw [d0, z0])]
      refine J_lift (Nat.le_succ q) (fun h z => ?_) (fun v' h hv z => ?_) (J_dues dC (dM + 1) hx hm hD z0 (by omega) a e (nI q) (nI (f q)) g v w)
      · rw [ok 100 e1 hW]
        simp (decide := true) only [s_39_35_v100, s_39_88, s_39_93, Option.bind_some, x_tlv, x_tln, if_true, if_false, cr_isa, R_at, R_has, R_size, R_put, R_isFull, R_add, R_clear, c_has_eq, c_wa_1, c_wa_2, c_ws_1, c_ws_2, cf_0_0, cf_0_1, cf_0_2, cf_0_3, cf_0_4, cf_0_5, cf_0_6, cf_0_7, cf_0_8, cf_0_9, cf_0_10, cf_0_11, cf_0_12, cf_0_13, cp_0_12, cp_0_13, ci_0, cf_1_0, cf_1_1, cf_1_2, cf_1_3, cf_1_4, cp_1_1, cp_1_2, cp_1_3, cp_1_4, ci_1, cf_4_0, cf_4_1, cf_4_2, cf_4_3, cf_4_4, cf_4_5, cf_4_6, cf_4_7, cf_4_8, cf_4_9, cf_4_10, cp_4_0, cp_4_1, ci_4, cf_23_0, cf_23_1, cf_23_2, cf_23_3, cf_23_4, cf_23_5, cf_23_6, cf_23_7, cf_23_8, cf_23_9, cf_23_10, cp_23_0, cp_23_1, ci_23, cf_42_0, cf_42_1, cf_42_2, cf_42_3, cp_42_2, cp_42_3, ci_42, cf_47_0, cf_47_1, cf_47_2, cp_47_1, cp_47_2, ci_47, cf_50_0, cf_50_1, cf_50_2, ci_50, cf_57_0, cf_57_1, ci_57, cf_62_0, cf_62_1, ci_62, cf_67_0, cf_67_1, cf_67_2, cf_67_3, cf_67_4, cf_67_5, cp_67_1, cp_67_2, ci_67, cf_76_0, cf_76_1, cf_76_2, cf_76_3, cf_76_4, cf_76_5, cp_76_1, cp_76_2, cp_76_3, ci_76, z]
      · rw [e1] at z ⊢
        simp (decide := true) only [r_127, s_127_0, s_127_4, s_127_9, s_127_13, Option.bind_some, x_tlv, x_tln, if_true, if_false, m_wa_1, m_wa_s, m_wb_1, m_wb_2, m_wb_s, m_ws_1, m_ws_b, m_ws_s, m_ws_e, m_we_1, m_we_b, m_we_s, m_we_e, mf_0, mf_1, mf_2, mf_3, mf_4, mf_5, mf_6, mf_7, mf_8, mf_9, mf_10, mf_11, mf_12, mf_13, mf_14, mf_15, mf_16, mf_17, mf_18, mf_19, mf_20, mf_21, mf_22, mf_23, mf_24, mf_25, mf_26, mf_27, mf_28, mf_29, mf_30, mp_4, mp_7, mp_9, mp_10, mp_12, mp_14, mp_15, mp_16, mp_17, mp_18, mp_19, mp_20, mi_0, RM_s, z, bit01 hv]
    · have hW : fW σ (nI (f q)) = 3 := by rw [e1]; unfold fW; rw [if_pos rfl, if_neg (by rw [d0, z0]; decide)]
      refine Or.inr (ill 3 (by decide) hW ?_)
      simp (decide := true) only [r_127, s_127_0, s_127_4, s_127_9, s_127_13, r_121, s_121_0, s_121_4, s_121_6, s_121_10, s_121_15, Option.bind_some, x_tlv, x_tln, if_true, if_false, m_wa_1, m_wa_s, m_wb_1, m_wb_2, m_wb_s, m_ws_1, m_ws_b, m_ws_s, m_ws_e, m_we_1, m_we_b, m_we_s, m_we_e, mf_0, mf_1, mf_2, mf_3, mf_4, mf_5, mf_6, mf_7, mf_8, mf_9, mf_10, mf_11, mf_12, mf_13, mf_14, mf_15, mf_16, mf_17, mf_18, mf_19, mf_20, mf_21, mf_22, mf_23, mf_24, mf_25, mf_26, mf_27, mf_28, mf_29, mf_30, mp_4, mp_7, mp_9, mp_10, mp_12, mp_14, mp_15, mp_16, mp_17, mp_18, mp_19, mp_20, mi_0, RM_s, r0, z0, e1, M_fails']
  · have n1 : ¬ nI (f q) = 100 := fun z => c1 ((nI_eq (b := 100) (by omega) (by omega)).mp z)
    have s1 : ¬ s = 100 := by
      by_cases hg : 48 ≤ f q ∧ f q ≤ 57
      · rw [hs1 hg]; decide
      · rw [(hs2 hg).1]; exact n1
    rcases d0' with z0 | z0
    · have hR : ∀ q, fR σ q = 1 := fun q => fR_shut (by rw [d0, z0])
      have hW : fW σ (nI (f q)) = 1 := by unfold fW; rw [if_neg n1, hR, hR, hR, hR]; simp only [ite_self]
      refine Or.inr (ill 1 (by decide) hW ?_)
      simp (decide := true) only [r_127, s_127_0, s_127_4, s_127_14, s_127_18, s_127_20, s_127_23, s_127_28, Option.bind_some, x_tlv, x_tln, if_true, if_false, m_wa_1, m_wa_s, m_wb_1, m_wb_2, m_wb_s, m_ws_1, m_ws_b, m_ws_s, m_ws_e, m_we_1, m_we_b, m_we_s, m_we_e, mf_0, mf_1, mf_2, mf_3, mf_4, mf_5, mf_6, mf_7, mf_8, mf_9, mf_10, mf_11, mf_12, mf_13, mf_14, mf_15, mf_16, mf_17, mf_18, mf_19, mf_20, mf_21, mf_22, mf_23, mf_24, mf_25, mf_26, mf_27, mf_28, mf_29, mf_30, mp_4, mp_7, mp_9, mp_10, mp_12, mp_14, mp_15, mp_16, mp_17, mp_18, mp_19, mp_20, mi_0, RM_s, s1, r0, z0, M_fails']
    · have h23 : σ.2 23 0 = 1 := by rw [d0, z0]
      have m29 : x_R x_P (dM + 6) 127 [.ref 0] (MG (RM μ A a' (nI q) s g v w)) = x_E x_P (dM + 5) x_c127 33 [.ref 0] [.int s] (MG (RM μ A a' (nI q) s g v w)) := by
        simp (decide := true) only [r_127, s_127_0, s_127_4, s_127_14, s_127_18, s_127_20, s_127_29, Option.bind_some, x_tlv, x_tln, if_true, if_false, m_wa_1, m_wa_s, m_wb_1, m_wb_2, m_wb_s, m_ws_1, m_ws_b, m_ws_s, m_ws_e, m_we_1, m_we_b, m_we_s, m_we_e, mf_0, mf_1, mf_2, mf_3, mf_4, mf_5, mf_6, mf_7, mf_8, mf_9, mf_10, mf_11, mf_12, mf_13, mf_14, mf_15, mf_16, mf_17, mf_18, mf_19, mf_20, mf_21, mf_22, mf_23, mf_24, mf_25, mf_26, mf_27, mf_28, mf_29, mf_30, mp_4, mp_7, mp_9, mp_10, mp_12, mp_14, mp_15, mp_16, mp_17, mp_18, mp_19, mp_20, mi_0, RM_s, s1, r0, z0]
      by_cases c2 : f q = 117
      · obtain ⟨rfl, rfl⟩ := hs2 (by omega)
        have e1 : nI (f q) = 117 := by rw [c2]; rfl
        have hWe : fW σ 117 = fR σ 24 := by unfold fW; rw [if_neg (by decide), if_neg (by decide), if_neg (by decide), if_neg (by decide), if_pos rfl]
        by_cases hl : U < 6
        · refine J_lift (Nat.le_succ q) (fun h z => ?_) (fun v' h hv z => ?_) (J_use dC (dM + 1) hx hm hD hl (by omega) a e (nI q) (nI (f q)) g v w)
          · rw [ok 117 e1 (hWe.trans (fR_ok h23 d2' hl))]
            simp (decide := true) only [s_39_35_v117, s_39_96, s_39_101, Option.bind_some, x_tlv, x_tln, if_true, if_false, cr_isa, R_at, R_has, R_size, R_put, R_isFull, R_add, R_clear, c_has_eq, c_wa_1, c_wa_2, c_ws_1, c_ws_2, cf_0_0, cf_0_1, cf_0_2, cf_0_3, cf_0_4, cf_0_5, cf_0_6, cf_0_7, cf_0_8, cf_0_9, cf_0_10, cf_0_11, cf_0_12, cf_0_13, cp_0_12, cp_0_13, ci_0, cf_1_0, cf_1_1, cf_1_2, cf_1_3, cf_1_4, cp_1_1, cp_1_2, cp_1_3, cp_1_4, ci_1, cf_4_0, cf_4_1, cf_4_2, cf_4_3, cf_4_4, cf_4_5, cf_4_6, cf_4_7, cf_4_8, cf_4_9, cf_4_10, cp_4_0, cp_4_1, ci_4, cf_23_0, cf_23_1, cf_23_2, cf_23_3, cf_23_4, cf_23_5, cf_23_6, cf_23_7, cf_23_8, cf_23_9, cf_23_10, cp_23_0, cp_23_1, ci_23, cf_42_0, cf_42_1, cf_42_2, cf_42_3, cp_42_2, cp_42_3, ci_42, cf_47_0, cf_47_1, cf_47_2, cp_47_1, cp_47_2, ci_47, cf_50_0, cf_50_1, cf_50_2, ci_50, cf_57_0, cf_57_1, ci_57, cf_62_0, cf_62_1, ci_62, cf_67_0, cf_67_1, cf_67_2, cf_67_3, cf_67_4, cf_67_5, cp_67_1, cp_67_2, ci_67, cf_76_0, cf_76_1, cf_76_2, cf_76_3, cf_76_4, cf_76_5, cp_76_1, cp_76_2, cp_76_3, ci_76, z]
          · rw [m29, e1] 
            rw [e1] at z
            simp (decide := true) only [s_127_33_v117, s_127_80, s_127_84, Option.bind_some, x_tlv, x_tln, if_true, if_false, m_wa_1, m_wa_s, m_wb_1, m_wb_2, m_wb_s, m_ws_1, m_ws_b, m_ws_s, m_ws_e, m_we_1, m_we_b, m_we_s, m_we_e, mf_0, mf_1, mf_2, mf_3, mf_4, mf_5, mf_6, mf_7, mf_8, mf_9, mf_10, mf_11, mf_12, mf_13, mf_14, mf_15, mf_16, mf_17, mf_18, mf_19, mf_20, mf_21, mf_22, mf_23, mf_24, mf_25, mf_26, mf_27, mf_28, mf_29, mf_30, mp_4, mp_7, mp_9, mp_10, mp_12, mp_14, mp_15, mp_16, mp_17, mp_18, mp_19, mp_20, mi_0, z, bit01 hv]
        · obtain rfl : U = 6 := by omega
          refine Or.inr (ill 3 (by decide) (by rw [e1, hWe]; exact fR_full h23 d2' rfl) ?_)
          rw [m29, e1]
          have d2 : A 2 = 6 := d2
          simp (decide := true) only [s_127_33_v117, s_127_80, s_127_84, r_122, s_122_0, s_122_4, s_122_6, s_122_13, s_122_18, Option.bind_some, x_tlv, x_tln, if_true, if_false, m_wa_1, m_wa_s, m_wb_1, m_wb_2, m_wb_s, m_ws_1, m_ws_b, m_ws_s, m_ws_e, m_we_1, m_we_b, m_we_s, m_we_e, mf_0, mf_1, mf_2, mf_3, mf_4, mf_5, mf_6, mf_7, mf_8, mf_9, mf_10, mf_11, mf_12, mf_13, mf_14, mf_15, mf_16, mf_17, mf_18, mf_19, mf_20, mf_21, mf_22, mf_23, mf_24, mf_25, mf_26, mf_27, mf_28, mf_29, mf_30, mp_4, mp_7, mp_9, mp_10, mp_12, mp_14, mp_15, mp_16, mp_17, mp_18, mp_19, mp_20, mi_0, r2, d2, M_fails']
      by_cases c3 : f q = 116
      · obtain ⟨rfl, rfl⟩ := hs2 (by omega)
        have e1 : nI (f q) = 116 := by rw [c3]; rfl
        have hWe : fW σ 116 = fR σ 26 := by unfold fW; rw [if_neg (by decide), if_neg (by decide), if_neg (by decide), if_pos rfl]
        by_cases hl : T < 8
        · refine J_lift (Nat.le_succ q) (fun h z => ?_) (fun v' h hv z => ?_) (J_table dC dM hx hm hD hl (by omega) a e (nI q) (nI (f q)) g v w)
          · rw [ok 116 e1 (hWe.trans (fR_ok h23 d26 hl))]
            simp (decide := true) only [s_39_35_v116, s_39_104, s_39_109, Option.bind_some, x_tlv, x_tln, if_true, if_false, cr_isa, R_at, R_has, R_size, R_put, R_isFull, R_add, R_clear, c_has_eq, c_wa_1, c_wa_2, c_ws_1, c_ws_2, cf_0_0, cf_0_1, cf_0_2, cf_0_3, cf_0_4, cf_0_5, cf_0_6, cf_0_7, cf_0_8, cf_0_9, cf_0_10, cf_0_11, cf_0_12, cf_0_13, cp_0_12, cp_0_13, ci_0, cf_1_0, cf_1_1, cf_1_2, cf_1_3, cf_1_4, cp_1_1, cp_1_2, cp_1_3, cp_1_4, ci_1, cf_4_0, cf_4_1, cf_4_2, cf_4_3, cf_4_4, cf_4_5, cf_4_6, cf_4_7, cf_4_8, cf_4_9, cf_4_10, cp_4_0, cp_4_1, ci_4, cf_23_0, cf_23_1, cf_23_2, cf_23_3, cf_23_4, cf_23_5, cf_23_6, cf_23_7, cf_23_8, cf_23_9, cf_23_10, cp_23_0, cp_23_1, ci_23, cf_42_0, cf_42_1, cf_42_2, cf_42_3, cp_42_2, cp_42_3, ci_42, cf_47_0, cf_47_1, cf_47_2, cp_47_1, cp_47_2, ci_47, cf_50_0, cf_50_1, cf_50_2, ci_50, cf_57_0, cf_57_1, ci_57, cf_62_0, cf_62_1, ci_62, cf_67_0, cf_67_1, cf_67_2, cf_67_3, cf_67_4, cf_67_5, cp_67_1, cp_67_2, ci_67, cf_76_0, cf_76_1, cf_76_2, cf_76_3, cf_76_4, cf_76_5, cp_76_1, cp_76_2, cp_76_3, ci_76, z]
          · rw [m29, e1]
            rw [e1] at z
            simp (decide := true) only [s_127_33_v116, s_127_85, s_127_89, Option.bind_some, x_tlv, x_tln, if_true, if_false, m_wa_1, m_wa_s, m_wb_1, m_wb_2, m_wb_s, m_ws_1, m_ws_b, m_ws_s, m_ws_e, m_we_1, m_we_b, m_we_s, m_we_e, mf_0, mf_1, mf_2, mf_3, mf_4, mf_5, mf_6, mf_7, mf_8, mf_9, mf_10, mf_11, mf_12, mf_13, mf_14, mf_15, mf_16, mf_17, mf_18, mf_19, mf_20, mf_21, mf_22, mf_23, mf_24, mf_25, mf_26, mf_27, mf_28, mf_29, mf_30, mp_4, mp_7, mp_9, mp_10, mp_12, mp_14, mp_15, mp_16, mp_17, mp_18, mp_19, mp_20, mi_0, z, bit01 hv]
        · obtain rfl : T = 8 := by omega
          refine Or.inr (ill 3 (by decide) (by rw [e1, hWe]; exact fR_full h23 d26 rfl) ?_)
          rw [m29, e1]
          have d3 : A 3 = 8 := d3
          simp (decide := true) only [s_127_33_v116, s_127_85, s_127_89, r_124, s_124_0, s_124_4, s_124_6, s_124_13, s_124_18, Option.bind_some, x_tlv, x_tln, if_true, if_false, m_wa_1, m_wa_s, m_wb_1, m_wb_2, m_wb_s, m_ws_1, m_ws_b, m_ws_s, m_ws_e, m_we_1, m_we_b, m_we_s, m_we_e, mf_0, mf_1, mf_2, mf_3, mf_4, mf_5, mf_6, mf_7, mf_8, mf_9, mf_10, mf_11, mf_12, mf_13, mf_14, mf_15, mf_16, mf_17, mf_18, mf_19, mf_20, mf_21, mf_22, mf_23, mf_24, mf_25, mf_26, mf_27, mf_28, mf_29, mf_30, mp_4, mp_7, mp_9, mp_10, mp_12, mp_14, mp_15, mp_16, mp_17, mp_18, mp_19, mp_20, mi_0, r3, d3, M_fails']
      by_cases c4 : f q = 112
      · obtain ⟨rfl, rfl⟩ := hs2 (by omega)
        have e1 : nI (f q) = 112 := by rw [c4]; rfl
        have hWe : fW σ 112 = fR σ 34 := by unfold fW; rw [if_neg (by decide), if_neg (by decide), if_pos rfl]
        by_cases hl : P < 6
        · refine J_lift (Nat.le_succ q) (fun h z => ?_) (fun v' h hv z => ?_) (J_am34 dC dM hx hm hD hl (by omega) a e (nI q) (nI (f q)) g v w)
          · rw [ok 112 e1 (hWe.trans (fR_ok h23 d34 hl))]
            simp (decide := true) only [s_39_35_v112, s_39_112, s_39_118, s_39_122, s_39_127, Option.bind_some, x_tlv, x_tln, if_true, if_false, cr_isa, R_at, R_has, R_size, R_put, R_isFull, R_add, R_clear, c_has_eq, c_wa_1, c_wa_2, c_ws_1, c_ws_2, cf_0_0, cf_0_1, cf_0_2, cf_0_3, cf_0_4, cf_0_5, cf_0_6, cf_0_7, cf_0_8, cf_0_9, cf_0_10, cf_0_11, cf_0_12, cf_0_13, cp_0_12, cp_0_13, ci_0, cf_1_0, cf_1_1, cf_1_2, cf_1_3, cf_1_4, cp_1_1, cp_1_2, cp_1_3, cp_1_4, ci_1, cf_4_0, cf_4_1, cf_4_2, cf_4_3, cf_4_4, cf_4_5, cf_4_6, cf_4_7, cf_4_8, cf_4_9, cf_4_10, cp_4_0, cp_4_1, ci_4, cf_23_0, cf_23_1, cf_23_2, cf_23_3, cf_23_4, cf_23_5, cf_23_6, cf_23_7, cf_23_8, cf_23_9, cf_23_10, cp_23_0, cp_23_1, ci_23, cf_42_0, cf_42_1, cf_42_2, cf_42_3, cp_42_2, cp_42_3, ci_42, cf_47_0, cf_47_1, cf_47_2, cp_47_1, cp_47_2, ci_47, cf_50_0, cf_50_1, cf_50_2, ci_50, cf_57_0, cf_57_1, ci_57, cf_62_0, cf_62_1, ci_62, cf_67_0, cf_67_1, cf_67_2, cf_67_3, cf_67_4, cf_67_5, cp_67_1, cp_67_2, ci_67, cf_76_0, cf_76_1, cf_76_2, cf_76_3, cf_76_4, cf_76_5, cp_76_1, cp_76_2, cp_76_3, ci_76, z]
          · rw [m29, e1]
            rw [e1] at z
            simp (decide := true) only [s_127_33_v112, s_127_90, s_127_94, Option.bind_some, x_tlv, x_tln, if_true, if_false, m_wa_1, m_wa_s, m_wb_1, m_wb_2, m_wb_s, m_ws_1, m_ws_b, m_ws_s, m_ws_e, m_we_1, m_we_b, m_we_s, m_we_e, mf_0, mf_1, mf_2, mf_3, mf_4, mf_5, mf_6, mf_7, mf_8, mf_9, mf_10, mf_11, mf_12, mf_13, mf_14, mf_15, mf_16, mf_17, mf_18, mf_19, mf_20, mf_21, mf_22, mf_23, mf_24, mf_25, mf_26, mf_27, mf_28, mf_29, mf_30, mp_4, mp_7, mp_9, mp_10, mp_12, mp_14, mp_15, mp_16, mp_17, mp_18, mp_19, mp_20, mi_0, z, bit01 hv]
        · obtain rfl : P = 6 := by omega
          refine Or.inr (ill 3 (by decide) (by rw [e1, hWe]; exact fR_full h23 d34 rfl) ?_)
          rw [m29, e1]
          have d4 : A 4 = 6 := d4
          simp (decide := true) only [s_127_33_v112, s_127_90, s_127_94, r_125, s_125_0, s_125_4, s_125_6, s_125_13, s_125_18, Option.bind_some, x_tlv, x_tln, if_true, if_false, m_wa_1, m_wa_s, m_wb_1, m_wb_2, m_wb_s, m_ws_1, m_ws_b, m_ws_s, m_ws_e, m_we_1, m_we_b, m_we_s, m_we_e, mf_0, mf_1, mf_2, mf_3, mf_4, mf_5, mf_6, mf_7, mf_8, mf_9, mf_10, mf_11, mf_12, mf_13, mf_14, mf_15, mf_16, mf_17, mf_18, mf_19, mf_20, mf_21, mf_22, mf_23, mf_24, mf_25, mf_26, mf_27, mf_28, mf_29, mf_30, mp_4, mp_7, mp_9, mp_10, mp_12, mp_14, mp_15, mp_16, mp_17, mp_18, mp_19, mp_20, mi_0, r4, d4, M_fails']
      by_cases c5 : f q = 110
      · obtain ⟨rfl, rfl⟩ := hs2 (by omega)
        have e1 : nI (f q) = 110 := by rw [c5]; rfl
        have hWe : fW σ 110 = fR σ 38 := by unfold fW; rw [if_neg (by decide), if_pos rfl]
        by_cases hl : N < 6
        · refine J_lift (Nat.le_succ q) (fun h z => ?_) (fun v' h hv z => ?_) (J_am38 dC dM hx hm hD hl (by omega) a e (nI q) (nI (f q)) g v w)
          · rw [ok 110 e1 (hWe.trans (fR_ok h23 d38 hl))]
            simp (decide := true) only [s_39_35_v110, s_39_130, s_39_136, s_39_140, s_39_145, Option.bind_some, x_tlv, x_tln, if_true, if_false, cr_isa, R_at, R_has, R_size, R_put, R_isFull, R_add, R_clear, c_has_eq, c_wa_1, c_wa_2, c_ws_1, c_ws_2, cf_0_0, cf_0_1, cf_0_2, cf_0_3, cf_0_4, cf_0_5, cf_0_6, cf_0_7, cf_0_8, cf_0_9, cf_0_10, cf_0_11, cf_0_12, cf_0_13, cp_0_12, cp_0_13, ci_0, cf_1_0, cf_1_1, cf_1_2, cf_1_3, cf_1_4, cp_1_1, cp_1_2, cp_1_3, cp_1_4, ci_1, cf_4_0, cf_4_1, cf_4_2, cf_4_3, cf_4_4, cf_4_5, cf_4_6, cf_4_7, cf_4_8, cf_4_9, cf_4_10, cp_4_0, cp_4_1, ci_4, cf_23_0, cf_23_1, cf_23_2, cf_23_3, cf_23_4, cf_23_5, cf_23_6, cf_23_7, cf_23_8, cf_23_9, cf_23_10, cp_23_0, cp_23_1, ci_23, cf_42_0, cf_42_1, cf_42_2, cf_42_3, cp_42_2, cp_42_3, ci_42, cf_47_0, cf_47_1, cf_47_2, cp_47_1, cp_47_2, ci_47, cf_50_0, cf_50_1, cf_50_2, ci_50, cf_57_0, cf_57_1, ci_57, cf_62_0, cf_62_1, ci_62, cf_67_0, cf_67_1, cf_67_2, cf_67_3, cf_67_4, cf_67_5, cp_67_1, cp_67_2, ci_67, cf_76_0, cf_76_1, cf_76_2, cf_76_3, cf_76_4, cf_76_5, cp_76_1, cp_76_2, cp_76_3, ci_76, z]
          · rw [m29, e1]
            rw [e1] at z
            simp (decide := true) only [s_127_33_v110, s_127_95, s_127_99, Option.bind_some, x_tlv, x_tln, if_true, if_false, m_wa_1, m_wa_s, m_wb_1, m_wb_2, m_wb_s, m_ws_1, m_ws_b, m_ws_s, m_ws_e, m_we_1, m_we_b, m_we_s, m_we_e, mf_0, mf_1, mf_2, mf_3, mf_4, mf_5, mf_6, mf_7, mf_8, mf_9, mf_10, mf_11, mf_12, mf_13, mf_14, mf_15, mf_16, mf_17, mf_18, mf_19, mf_20, mf_21, mf_22, mf_23, mf_24, mf_25, mf_26, mf_27, mf_28, mf_29, mf_30, mp_4, mp_7, mp_9, mp_10, mp_12, mp_14, mp_15, mp_16, mp_17, mp_18, mp_19, mp_20, mi_0, z, bit01 hv]
        · obtain rfl : N = 6 := by omega
          refine Or.inr (ill 3 (by decide) (by rw [e1, hWe]; exact fR_full h23 d38 rfl) ?_)
          rw [m29, e1]
          have d5 : A 5 = 6 := d5
          simp (decide := true) only [s_127_33_v110, s_127_95, s_127_99, r_126, s_126_0, s_126_4, s_126_6, s_126_13, s_126_18, Option.bind_some, x_tlv, x_tln, if_true, if_false, m_wa_1, m_wa_s, m_wb_1, m_wb_2, m_wb_s, m_ws_1, m_ws_b, m_ws_s, m_ws_e, m_we_1, m_we_b, m_we_s, m_we_e, mf_0, mf_1, mf_2, mf_3, mf_4, mf_5, mf_6, mf_7, mf_8, mf_9, mf_10, mf_11, mf_12, mf_13, mf_14, mf_15, mf_16, mf_17, mf_18, mf_19, mf_20, mf_21, mf_22, mf_23, mf_24, mf_25, mf_26, mf_27, mf_28, mf_29, mf_30, mp_4, mp_7, mp_9, mp_10, mp_12, mp_14, mp_15, mp_16, mp_17, mp_18, mp_19, mp_20, mi_0, r5, d5, M_fails']
      have ne : ∀ (k : Nat) (c : Int32), nI k = c → k < 2 ^ 31 → ¬ f q = k → ¬ nI (f q) = c := fun k c hk hl hn z => hn ((nI_eq (b := k) (by omega) hl).mp (z.trans hk.symm))
      have n2 := ne 117 117 rfl (by decide) c2
      have n3 := ne 116 116 rfl (by decide) c3
      have n4 := ne 112 112 rfl (by decide) c4
      have n5 := ne 110 110 rfl (by decide) c5
      have hW : fW σ (nI (f q)) = 1 := by unfold fW; rw [if_neg n1, if_neg n5, if_neg n4, if_neg n3, if_neg n2]
      refine Or.inr (ill 1 (by decide) hW ?_)
      have m100 : x_E x_P (dM + 5) x_c127 100 [.ref 0] [] (MG (RM μ A a' (nI q) s g v w)) = some (some (.int 0), MG (RM μ A a' (nI q) s g v 1)) := by
        simp (decide := true) only [s_127_100, s_127_105, Option.bind_some, x_tlv, x_tln, if_true, if_false, m_wa_1, m_wa_s, m_wb_1, m_wb_2, m_wb_s, m_ws_1, m_ws_b, m_ws_s, m_ws_e, m_we_1, m_we_b, m_we_s, m_we_e, mf_0, mf_1, mf_2, mf_3, mf_4, mf_5, mf_6, mf_7, mf_8, mf_9, mf_10, mf_11, mf_12, mf_13, mf_14, mf_15, mf_16, mf_17, mf_18, mf_19, mf_20, mf_21, mf_22, mf_23, mf_24, mf_25, mf_26, mf_27, mf_28, mf_29, mf_30, mp_4, mp_7, mp_9, mp_10, mp_12, mp_14, mp_15, mp_16, mp_17, mp_18, mp_19, mp_20, mi_0, M_fails']
      rw [m29, ← m100]
      have hs : s = 48 ∨ s = nI (f q) := by
        by_cases hg : 48 ≤ f q ∧ f q ≤ 57
        · exact Or.inl (hs1 hg)
        · exact Or.inr (hs2 hg).1
      clear ill ok hs1 hs2
      by_cases k1 : s = 111
      · subst k1; exact s_127_33_v111 _ _ _
      by_cases k2 : s = 113
      · subst k2; exact s_127_33_v113 _ _ _
      by_cases k3 : s = 114
      · subst k3; exact s_127_33_v114 _ _ _
      by_cases k4 : s = 115
      · subst k4; exact s_127_33_v115 _ _ _
      have t : ∀ c : Int32, ¬ (48 : Int32) = c → ¬ nI (f q) = c → ¬ s = c := fun c z1 z2 => by
        rcases hs with rfl | rfl
        · exact z1
        · exact z2
      exact s_127_33_d _ _ _ _ (t 110 (by decide) n5) k1 (t 112 (by decide) n4) k2 k3 k4 (t 116 (by decide) n3) (t 117 (by decide) n2)
