/-! shop, both sides -/
def cpy (A R : Nat → Int32) (k : Nat) : Nat → Int32 := fun j => if j < k then R j else A j
theorem cpy_0 (A R : Nat → Int32) : cpy A R 0 = A := by
  funext j
  exact if_neg (Nat.not_lt_zero j)
theorem cpy_s (A R : Nat → Int32) (k : Nat) : upd (cpy A R k) k (R k) = cpy A R (k + 1) := by
  funext j
  unfold upd cpy
  by_cases h : j = k
  · subst h; rw [if_pos rfl, if_pos (by omega)]
  · rw [if_neg h]
    by_cases h2 : j < k
    · rw [if_pos h2, if_pos (by omega)]
    · rw [if_neg h2, if_neg (by omega)]
theorem M_copy (ν : x_U) (d : Nat) (A : Nat → Int32) : ∀ m k, k + m = 68 → x_E x_P d x_c128 91 [.ref 0, .int 1, .int (nI k)] [] (MG (m_wa ν 1 (cpy A (ν.1 2) k))) = x_E x_P d x_c128 115 [.ref 0, .int 1, .int (nI 68)] [] (MG (m_wa ν 1 (cpy A (ν.1 2) 68))) := by
  intro m
  induction m with
  | zero =>
    intro k hk
    obtain rfl : k = 68 := by omega
    rw [s_128_91, if_pos (show (68 : Int32) ≤ nI 68 by decide)]
  | succ m ih =>
    intro k hk
    have e0 : ¬ (68 : Int32) ≤ nI k := nI_ge (b := 68) (by omega) (by omega)
    have e1 : x_ild (MG (m_wa ν 1 (cpy A (ν.1 2) k))) 2 0 (nI k) = some (ν.1 2 k) := md2n _ (by omega)
    have e2 : x_ist (MG (m_wa ν 1 (cpy A (ν.1 2) k))) 1 0 (nI k) (ν.1 2 k) = some (MG (m_wa ν 1 (cpy A (ν.1 2) (k + 1)))) := by
      rw [mt1n _ _ (by omega), m_wa_wa, m_wa_1, if_pos rfl, cpy_s]
    rw [s_128_91, if_neg e0]
    simp (decide := true) only [s_128_97, s_128_101, s_128_106, s_128_108, s_128_109, Option.bind_some, x_tlv, x_tln, if_true, if_false, m_wa_1, m_wa_s, m_wb_1, m_wb_2, m_wb_s, m_ws_1, m_ws_b, m_ws_s, m_ws_e, m_we_1, m_we_b, m_we_s, m_we_e, mf_0, mf_1, mf_2, mf_3, mf_4, mf_5, mf_6, mf_7, mf_8, mf_9, mf_10, mf_11, mf_12, mf_13, mf_14, mf_15, mf_16, mf_17, mf_18, mf_19, mf_20, mf_21, mf_22, mf_23, mf_24, mf_25, mf_26, mf_27, mf_28, mf_29, mf_30, mp_4, mp_7, mp_9, mp_10, mp_12, mp_14, mp_15, mp_16, mp_17, mp_18, mp_19, mp_20, mi_0, e1, e2, nI_1]
    exact ih (k + 1) (by omega)
theorem Rl_nat {v : Int32} {n : Nat} (hn : n < 1000) (h : Rl v n) : v = nI v.toNatClampNeg ∧ v.toNatClampNeg < n := by
  obtain ⟨k, rfl, hk⟩ := h
  rw [nI_clamp (by omega)]
  exact ⟨rfl, hk⟩
theorem Rg_nat {v : Int32} {lo hi : Nat} (hn : hi < 1000) (h : Rg v lo hi) : v = nI v.toNatClampNeg ∧ lo ≤ v.toNatClampNeg ∧ v.toNatClampNeg ≤ hi := by
  obtain ⟨k, rfl, h1, h2⟩ := h
  rw [nI_clamp (by omega)]
  exact ⟨rfl, h1, h2⟩
theorem TL_2 (σ : x_S) {x : Nat} (h0 : x ≠ 0) (h1 : x < 47) : (TL σ).2 x = σ.2 x := by
  show (if x = 0 then _ else if x = 47 then _ else if x = 60 then _ else if x = 58 then _ else if x = 55 then _ else if x = 53 then _ else if x = 51 then _ else σ.2 x) = _
  rw [if_neg h0, if_neg (by omega), if_neg (by omega), if_neg (by omega), if_neg (by omega), if_neg (by omega), if_neg (by omega)]
theorem sim_shop : Sim 73 128 [] := fun σ μ hS => by
  have hS' := hS
  obtain ⟨U0, T0, P0, N0, hc, hu, ht, hp, hw, hn, hpa, hi, hl, hb, hx, hm⟩ := hS
  obtain ⟨n, f, tx, tm⟩ := S_text_f hx
  have hF := J_read 23 23 tx tm
  rcases hF with ⟨σ1, A, p', e', a', b', s', g', v', w', U, T, P, N, z1, z2, ag, hD⟩ | ⟨σ1, A, q, p', e', a', s', g', v', W, z0, z1, z2, ag⟩
  · have z1 : x_R x_P 29 38 [.ref 1, .ref 23] (CG σ) = some (some (.int 0), CG (c_ws (RD σ1 (-1) 0 p' e') 2 1 0)) := z1
    have z2 : x_R x_P 30 128 [.ref 0] (MG μ) = x_E x_P 29 x_c128 64 [.ref 0, .int 1, x_j] [] (MG (RM (m_ws μ 10 (-1)) A a' b' s' g' v' w')) := z2
    obtain ⟨⟨hU, hT, hP, hN⟩, d0, d1, d2, d3, d4, d5, d6, d7, d8, d9⟩ := hD
    obtain ⟨σ2, hσ2⟩ : ∃ σ2, σ2 = c_ws (RD σ1 (-1) 0 p' e') 2 1 0 := ⟨_, rfl⟩
    have o1 : σ2.1 = σ1.1 := by rw [hσ2]; rfl
    have o2 : ∀ x, x ≠ 1 → x ≠ 2 → σ2.2 x = σ1.2 x := fun x z1 z2 => by
      rw [hσ2]
      show (if x = 2 then _ else (RD σ1 (-1) 0 p' e').2 x) = _
      rw [if_neg z2, RD_o _ _ _ _ _ (Ne.symm z1)]
    have o3 : σ2.2 2 1 = 0 := by rw [hσ2]; rfl
    have o4 : σ2.2 1 1 = -1 := by rw [hσ2]; rfl
    rw [← hσ2] at z1
    have hx8 := fun p hp => Rl_nat (by omega) (d8 p hp).1.2
    have hy8 := fun p hp => Rg_nat (by omega) (d8 p hp).2.2
    have hw6 := fun u hu => Rg_nat (by omega) (d6 u hu).2
    obtain ⟨x, hxx⟩ : ∃ x : Nat → Nat, x = fun p => (A (44 + p)).toNatClampNeg := ⟨_, rfl⟩
    obtain ⟨y, hyy⟩ : ∃ y : Nat → Nat, y = fun p => (A (50 + p)).toNatClampNeg := ⟨_, rfl⟩
    obtain ⟨w, hww⟩ : ∃ w : Nat → Nat, w = fun p => (A (6 + p)).toNatClampNeg := ⟨_, rfl⟩
    have ax : ∀ p, p < P → A (44 + p) = nI (x p) ∧ x p < U := fun p hp => by rw [hxx]; exact hx8 p hp
    have ay : ∀ p, p < P → A (50 + p) = nI (y p) ∧ 1 ≤ y p ∧ y p ≤ 40 := fun p hp => by rw [hyy]; exact hy8 p hp
    have aw : ∀ u, u < U → A (6 + u) = nI (w u) ∧ 1 ≤ w u ∧ w u ≤ 99 := fun u hu => by rw [hww]; exact hw6 u hu
    clear hx8 hy8 hw6 hxx hyy hww
    -- the class
    obtain ⟨σ3, r1, r2, r3, r4, r5, r6, r7, r8⟩ := V_begin (x := x) (y := y) (w := w) (σ := σ2) (P := P) (U := U) 26 hP hU (by rw [o2 34 (by decide) (by decide)]; exact d4.2.1) (fun p hp => by rw [o1]; exact ⟨(d8 p hp).1.1.trans (ax p hp).1, (ax p hp).2, (d8 p hp).2.1.trans (ay p hp).1⟩) (fun u hu => by rw [o1]; exact (d6 u hu).1.trans (aw u hu).1)
    have r1 : x_R x_P 29 7 [.ref 42, .ref 23] (CS σ2) = some (none, CS σ3) := r1
    obtain ⟨hh, s1, s2⟩ := x_swap σ2
    have tl := V_tail 27 σ3 0 4
    have tl : x_E x_P 29 x_c73 50 [.ref 0, .int 0, .ref 4] [] (CS σ3) = some (some (.int (σ3.2 24 1)), CS (TL σ3)) := tl
    have g24 : σ3.2 24 1 = nI U := by rw [r3 24 (by decide) (by decide) (by decide), o2 24 (by decide) (by decide)]; exact d2.2
    rw [g24] at tl
    have hC : x_R x_P 30 73 [.ref 0] (CG σ) = some (some (.int (nI U)), CS (TL σ3)) := by
      rw [← tl]
      simp (decide := true) only [r_73, s_73_0, s_73_4, s_73_8, s_73_11, s_73_21, s_73_25, s_73_31, s_73_34, Option.bind_some, x_tlv, x_tln, if_true, if_false, cr_isa, R_at, R_has, R_size, R_put, R_isFull, R_add, R_clear, c_has_eq, c_wa_1, c_wa_2, c_ws_1, c_ws_2, cf_0_0, cf_0_1, cf_0_2, cf_0_3, cf_0_4, cf_0_5, cf_0_6, cf_0_7, cf_0_8, cf_0_9, cf_0_10, cf_0_11, cf_0_12, cf_0_13, cp_0_12, cp_0_13, ci_0, cf_1_0, cf_1_1, cf_1_2, cf_1_3, cf_1_4, cp_1_1, cp_1_2, cp_1_3, cp_1_4, ci_1, cf_4_0, cf_4_1, cf_4_2, cf_4_3, cf_4_4, cf_4_5, cf_4_6, cf_4_7, cf_4_8, cf_4_9, cf_4_10, cp_4_0, cp_4_1, ci_4, cf_23_0, cf_23_1, cf_23_2, cf_23_3, cf_23_4, cf_23_5, cf_23_6, cf_23_7, cf_23_8, cf_23_9, cf_23_10, cp_23_0, cp_23_1, ci_23, cf_42_0, cf_42_1, cf_42_2, cf_42_3, cp_42_2, cp_42_3, ci_42, cf_47_0, cf_47_1, cf_47_2, cp_47_1, cp_47_2, ci_47, cf_50_0, cf_50_1, cf_50_2, ci_50, cf_57_0, cf_57_1, ci_57, cf_62_0, cf_62_1, ci_62, cf_67_0, cf_67_1, cf_67_2, cf_67_3, cf_67_4, cf_67_5, cp_67_1, cp_67_2, ci_67, cf_76_0, cf_76_1, cf_76_2, cf_76_3, cf_76_4, cf_76_5, cp_76_1, cp_76_2, cp_76_3, ci_76, z1, s1, s2]
      simp (decide := true) only [s_73_39, s_73_43, s_73_47, Option.bind_some, x_tlv, x_tln, if_true, if_false, er_isa, V_at, V_has, V_size, V_put, V_isFull, V_add, V_clear, c_has_eq, c_wa_1, c_wa_2, c_ws_1, c_ws_2, ef_0_0, ef_0_1, ef_0_2, ef_0_3, ef_0_4, ef_0_5, ef_0_6, ef_0_7, ef_0_8, ef_0_9, ef_0_10, ef_0_11, ef_0_12, ef_0_13, ep_0_12, ep_0_13, ei_0, ef_1_0, ef_1_1, ef_1_2, ef_1_3, ef_1_4, ep_1_1, ep_1_2, ep_1_3, ep_1_4, ei_1, ef_4_0, ef_4_1, ef_4_2, ef_4_3, ef_4_4, ef_4_5, ef_4_6, ef_4_7, ef_4_8, ef_4_9, ef_4_10, ep_4_0, ep_4_1, ei_4, ef_23_0, ef_23_1, ef_23_2, ef_23_3, ef_23_4, ef_23_5, ef_23_6, ef_23_7, ef_23_8, ef_23_9, ef_23_10, ep_23_0, ep_23_1, ei_23, ef_42_0, ef_42_1, ef_42_2, ef_42_3, ep_42_2, ep_42_3, ei_42, ef_47_0, ef_47_1, ef_47_2, ep_47_1, ep_47_2, ei_47, ef_50_0, ef_50_1, ef_50_2, ei_50, ef_57_0, ef_57_1, ei_57, ef_62_0, ef_62_1, ei_62, ef_67_0, ef_67_1, ef_67_2, ef_67_3, ef_67_4, ef_67_5, ep_67_1, ep_67_2, ei_67, ef_76_0, ef_76_1, ef_76_2, ef_76_3, ef_76_4, ef_76_5, ep_76_1, ep_76_2, ep_76_3, ei_76, r1]
    -- the model
    obtain ⟨ν, hν⟩ : ∃ ν, ν = m_ws (RM (m_ws μ 10 (-1)) A a' b' s' g' v' w') 9 0 := ⟨_, rfl⟩
    have n1 : ∀ q, q ≠ 2 → ν.1 q = μ.1 q := fun q h => by
      rw [hν]
      show (if q = 2 then _ else μ.1 q) = _
      rw [if_neg h]
    have n2 : ν.1 2 = A := by rw [hν]; rfl
    have n9 : ν.2.2.1 9 = 0 := by rw [hν]; rfl
    have n10 : ν.2.2.1 10 = -1 := by rw [hν]; rfl
    have ne : ν.2.2.2 = μ.2.2.2 := by rw [hν]; rfl
    have cp := M_copy ν 29 (ν.1 1) 68 0 rfl
    rw [cpy_0, m_wa_id, n2] at cp
    have cp : x_E x_P 29 x_c128 91 [.ref 0, .int 1, .int 0] [] (MG ν) = _ := cp
    obtain ⟨ξ, hξ⟩ : ∃ ξ, ξ = m_wa ν 1 (cpy (ν.1 1) A 68) := ⟨_, rfl⟩
    rw [← hξ] at cp
    have k1 : ∀ j, j < 68 → ξ.1 1 j = A j := fun j hj => by rw [hξ]; exact if_pos hj
    have k2 : ∀ q, q ≠ 1 → ξ.1 q = ν.1 q := fun q h => by rw [hξ, m_wa_1, if_neg h]
    have k3 : ξ.2 = ν.2 := by rw [hξ]; rfl
    obtain ⟨μ', b1, b2, ⟨b3, b4, b5⟩, b6, b7, b8, b9, b10, b11, b12, b13⟩ := M_begins (x := x) (y := y) (w := w) (μ := ξ) (P := P) (U := U) 28 hP hU (by rw [k1 4 (by omega)]; exact d4.1) (fun p hp => by rw [k1 _ (by omega), k1 _ (by omega)]; exact ⟨(ax p hp).1, (ax p hp).2, (ay p hp).1⟩) (fun u hu => by rw [k1 _ (by omega)]; exact (aw u hu).1)
    have b1 : x_R x_P 29 114 [.ref 0] (MG ξ) = some (none, MG μ') := b1
    have h1 : ∀ j, j < 68 → μ'.1 1 j = A j := fun j hj => by rw [b2 1 (by decide) (by decide)]; exact k1 j hj
    have hM : x_R x_P 30 128 [.ref 0] (MG μ) = some (some (.int (nI U)), MG μ') := by
      have e2 : μ'.1 1 2 = nI U := by rw [h1 2 (by omega)]; exact d2.1
      rw [z2]
      simp (decide := true) only [s_128_64, s_128_69, s_128_89, Option.bind_some, x_tlv, x_tln, if_true, if_false, m_wa_1, m_wa_s, m_wb_1, m_wb_2, m_wb_s, m_ws_1, m_ws_b, m_ws_s, m_ws_e, m_we_1, m_we_b, m_we_s, m_we_e, mf_0, mf_1, mf_2, mf_3, mf_4, mf_5, mf_6, mf_7, mf_8, mf_9, mf_10, mf_11, mf_12, mf_13, mf_14, mf_15, mf_16, mf_17, mf_18, mf_19, mf_20, mf_21, mf_22, mf_23, mf_24, mf_25, mf_26, mf_27, mf_28, mf_29, mf_30, mp_4, mp_7, mp_9, mp_10, mp_12, mp_14, mp_15, mp_16, mp_17, mp_18, mp_19, mp_20, mi_0, ← hν]
      refine Eq.trans cp ?_
      simp (decide := true) only [s_128_115, s_128_119, s_128_123, s_128_125, Option.bind_some, x_tlv, x_tln, if_true, if_false, m_wa_1, m_wa_s, m_wb_1, m_wb_2, m_wb_s, m_ws_1, m_ws_b, m_ws_s, m_ws_e, m_we_1, m_we_b, m_we_s, m_we_e, mf_0, mf_1, mf_2, mf_3, mf_4, mf_5, mf_6, mf_7, mf_8, mf_9, mf_10, mf_11, mf_12, mf_13, mf_14, mf_15, mf_16, mf_17, mf_18, mf_19, mf_20, mf_21, mf_22, mf_23, mf_24, mf_25, mf_26, mf_27, mf_28, mf_29, mf_30, mp_4, mp_7, mp_9, mp_10, mp_12, mp_14, mp_15, mp_16, mp_17, mp_18, mp_19, mp_20, mi_0, b1, md1_2, e2]
    refine ⟨nI U, _, ex (TL σ3), μ', hC, x_eqv_sw _, hM, ?_⟩
    have f1 : ∀ q, q ≠ 44 → q ≠ 46 → (TL σ3).1 q = σ1.1 q := fun q z1 z2 => (r2 q z1 z2).trans (by rw [o1])
    have f2 : ∀ q, 23 ≤ q → q ≤ 41 → (TL σ3).2 q = σ1.2 q := fun q z1 z2 => by rw [TL_2 _ (by omega) (by omega), r3 q (by omega) (by omega) (by omega), o2 q (by omega) (by omega)]
    have f3 : ∀ q, ¬ (23 ≤ q ∧ q ≤ 41) → q ≠ 42 → q ≠ 43 → q ≠ 45 → q ≠ 1 → q ≠ 2 → σ3.2 q = σ.2 q := fun q z1 z2 z3 z4 z5 z6 => by rw [r3 q z2 z3 z4, o2 q z5 z6, (ag q z1).2]
    refine ⟨U, T, P, N, ⟨⟨hU, hT, hP, hN⟩, ⟨?_, ?_⟩, ⟨?_, ?_⟩, ⟨?_, ?_⟩, ⟨?_, ?_⟩, ⟨?_, ?_⟩, ⟨?_, ?_⟩⟩, fun u hu => ?_, fun t ht => ?_, fun p hp => ?_, fun m hm => ?_, ⟨?_, ?_, fun p hp => ?_, ⟨?_, ?_⟩, ⟨?_, ?_⟩, fun p z1 z2 => b9 p z1 z2⟩, ?_, ⟨⟨0, by omega, ?_, fun i hi => ?_⟩, fun i hi hk => ?_⟩, ?_, ?_, ?_, ?_⟩
    · show (TL σ3).2 23 0 = _
      rw [f2 23 (by decide) (by decide), h1 0 (by omega)]; exact d0.1
    · rw [h1 0 (by omega)]; exact d0.2
    · show (TL σ3).2 23 1 = _
      rw [f2 23 (by decide) (by decide), h1 1 (by omega)]; exact d1.1
    · rw [h1 1 (by omega)]; exact d1.2
    · rw [h1 2 (by omega)]; exact d2.1
    · show (TL σ3).2 24 1 = _
      rw [f2 24 (by decide) (by decide)]; exact d2.2
    · rw [h1 3 (by omega)]; exact d3.1
    · show (TL σ3).2 26 1 = _
      rw [f2 26 (by decide) (by decide)]; exact d3.2.1
    · rw [h1 4 (by omega)]; exact d4.1
    · show (TL σ3).2 34 1 = _
      rw [f2 34 (by decide) (by decide)]; exact d4.2.1
    · rw [h1 5 (by omega)]; exact d5.1
    · show (TL σ3).2 38 1 = _
      rw [f2 38 (by decide) (by decide)]; exact d5.2.1
    · show (TL σ3).1 25 u = _ ∧ _
      rw [f1 25 (by decide) (by decide), h1 _ (by omega)]; exact d6 u hu
    · show ((TL σ3).1 27 t = _ ∧ _) ∧ ((TL σ3).1 29 t = _ ∧ _) ∧ ((TL σ3).1 31 t = _ ∧ _) ∧ ((TL σ3).1 33 t = _ ∧ _)
      rw [f1 27 (by decide) (by decide), f1 29 (by decide) (by decide), f1 31 (by decide) (by decide), f1 33 (by decide) (by decide), h1 _ (by omega), h1 _ (by omega), h1 _ (by omega), h1 _ (by omega)]; exact d7 t ht
    · show ((TL σ3).1 35 p = _ ∧ _) ∧ ((TL σ3).1 37 p = _ ∧ _)
      rw [f1 35 (by decide) (by decide), f1 37 (by decide) (by decide), h1 _ (by omega), h1 _ (by omega)]; exact d8 p hp
    · show ((TL σ3).1 39 m = _ ∧ _) ∧ ((TL σ3).1 41 m = _ ∧ _)
      rw [f1 39 (by decide) (by decide), f1 41 (by decide) (by decide), h1 _ (by omega), h1 _ (by omega)]; exact d9 m hm
    · show (TL σ3).2 43 1 = _
      rw [TL_2 _ (by decide) (by decide)]; exact r4
    · show (TL σ3).2 45 1 = _
      rw [TL_2 _ (by decide) (by decide)]; exact r5
    · obtain ⟨q1, q2⟩ := r8 p hp
      obtain ⟨q3, q4⟩ := b8 p hp
      obtain ⟨-, y1, y2⟩ := ay p hp
      obtain ⟨-, y3⟩ := ax p hp
      obtain ⟨-, y4, y5⟩ := aw _ y3
      have y6 : y p * w (x p) ≤ 40 * 99 := Nat.mul_le_mul y2 y5
      rw [n14_l _ (by omega), n14_d _ (by omega)]
      show σ3.1 44 p = _ ∧ _ ∧ σ3.1 46 p = _ ∧ _
      rw [q1, q2, q3, q4]
      exact ⟨rfl, ⟨_, rfl, Nat.zero_le _, by omega⟩, rfl, ⟨_, rfl, y3⟩⟩
    · show (TL σ3).2 42 2 = _
      rw [TL_2 _ (by decide) (by decide), r6, b10]
    · rw [b10]; exact ⟨0, rfl, Nat.le_refl _, Nat.zero_le _⟩
    · show (TL σ3).2 42 3 = _
      rw [TL_2 _ (by decide) (by decide), r7, b11]
    · rw [b11]; exact ⟨0, rfl, Nat.le_refl _, Nat.zero_le _⟩
    · obtain ⟨n0, x0, p1, p2, p3, p4, p5, p6⟩ := hpa
      refine ⟨0, x0, by omega, p2, b3, rfl, ?_, fun k hk => absurd hk (Nat.not_lt_zero k)⟩
      show σ3.2 47 1 = _
      rw [f3 47 (by decide) (by decide) (by decide) (by decide) (by decide) (by decide)]; exact p5
    · rfl
    · rcases (show i = 0 ∨ i = 1 by omega) with rfl | rfl
      · exact ⟨Or.inl b12, fun z => absurd z (by decide), fun z => absurd z (by rw [b12]; decide)⟩
      · exact ⟨Or.inl b13, fun z => absurd z (by decide), fun z => absurd z (by rw [b13]; decide)⟩
    · rcases (show i = 0 ∨ i = 1 by omega) with rfl | rfl
      · exact absurd hk (by rw [b12]; decide)
      · exact absurd hk (by rw [b13]; decide)
    · exact ⟨0, by omega, b4, rfl, rfl, rfl, fun k hk => absurd hk (Nat.not_lt_zero k)⟩
    · exact ⟨0, by omega, b5, rfl, rfl, fun k hk => absurd hk (Nat.not_lt_zero k)⟩
    · refine ⟨0, by omega, ?_, ?_, fun k hk => absurd hk (Nat.not_lt_zero k)⟩
      · rw [b6 9 (by decide) (by decide) (by decide), k3]; exact n9
      · show (TL σ3).2 2 1 = _
        rw [TL_2 _ (by decide) (by decide), r3 2 (by decide) (by decide) (by decide)]; exact o3
    · obtain ⟨-, sd, h2, h3, h4⟩ := hm
      refine ⟨?_, sd, h2, ?_, ?_⟩
      · show (TL σ3).2 1 1 = _
        rw [TL_2 _ (by decide) (by decide), r3 1 (by decide) (by decide) (by decide), o4, b6 10 (by decide) (by decide) (by decide), k3, n10]
      · show σ3.2 0 13 = _
        rw [f3 0 (by decide) (by decide) (by decide) (by decide) (by decide) (by decide)]; exact h3
      · rw [b7, k3, ne]; exact h4
  · have z1 : x_R x_P 29 38 [.ref 1, .ref 23] (CG σ) = some (some (.int W), CG (c_ws (RD σ1 q W p' e') 2 1 0)) := z1
    have z2 : x_R x_P 30 128 [.ref 0] (MG μ) = _ := z2
    refine ⟨-10 - W, _, c_ws (RD σ1 q W p' e') 2 1 0, m_ws (m_ws (RM (m_ws μ 10 (-1)) A a' q s' g' v' W) 9 0) 10 q, ?_, x_eqv.rf _, ?_, ?_⟩
    · simp (decide := true) only [r_73, s_73_0, s_73_4, s_73_8, s_73_11, s_73_16, Option.bind_some, x_tlv, x_tln, if_true, if_false, cr_isa, R_at, R_has, R_size, R_put, R_isFull, R_add, R_clear, c_has_eq, c_wa_1, c_wa_2, c_ws_1, c_ws_2, cf_0_0, cf_0_1, cf_0_2, cf_0_3, cf_0_4, cf_0_5, cf_0_6, cf_0_7, cf_0_8, cf_0_9, cf_0_10, cf_0_11, cf_0_12, cf_0_13, cp_0_12, cp_0_13, ci_0, cf_1_0, cf_1_1, cf_1_2, cf_1_3, cf_1_4, cp_1_1, cp_1_2, cp_1_3, cp_1_4, ci_1, cf_4_0, cf_4_1, cf_4_2, cf_4_3, cf_4_4, cf_4_5, cf_4_6, cf_4_7, cf_4_8, cf_4_9, cf_4_10, cp_4_0, cp_4_1, ci_4, cf_23_0, cf_23_1, cf_23_2, cf_23_3, cf_23_4, cf_23_5, cf_23_6, cf_23_7, cf_23_8, cf_23_9, cf_23_10, cp_23_0, cp_23_1, ci_23, cf_42_0, cf_42_1, cf_42_2, cf_42_3, cp_42_2, cp_42_3, ci_42, cf_47_0, cf_47_1, cf_47_2, cp_47_1, cp_47_2, ci_47, cf_50_0, cf_50_1, cf_50_2, ci_50, cf_57_0, cf_57_1, ci_57, cf_62_0, cf_62_1, ci_62, cf_67_0, cf_67_1, cf_67_2, cf_67_3, cf_67_4, cf_67_5, cp_67_1, cp_67_2, ci_67, cf_76_0, cf_76_1, cf_76_2, cf_76_3, cf_76_4, cf_76_5, cp_76_1, cp_76_2, cp_76_3, ci_76, z1, z0]
    · rw [z2]
      simp (decide := true) only [s_128_64, s_128_69, s_128_73, s_128_78, s_128_81, s_128_87, Option.bind_some, x_tlv, x_tln, if_true, if_false, m_wa_1, m_wa_s, m_wb_1, m_wb_2, m_wb_s, m_ws_1, m_ws_b, m_ws_s, m_ws_e, m_we_1, m_we_b, m_we_s, m_we_e, mf_0, mf_1, mf_2, mf_3, mf_4, mf_5, mf_6, mf_7, mf_8, mf_9, mf_10, mf_11, mf_12, mf_13, mf_14, mf_15, mf_16, mf_17, mf_18, mf_19, mf_20, mf_21, mf_22, mf_23, mf_24, mf_25, mf_26, mf_27, mf_28, mf_29, mf_30, mp_4, mp_7, mp_9, mp_10, mp_12, mp_14, mp_15, mp_16, mp_17, mp_18, mp_19, mp_20, mi_0, RM_b, RM_w]
    · refine SIM_keep hS' (fun x h1 h2 => ?_) (fun x h1 h2 => ?_) (fun x h => ?_) (fun k hk => ?_) rfl rfl rfl rfl
      · exact (ag x h2).1
      · show (if x = 2 then _ else (RD σ1 q W p' e').2 x) = _
        rw [if_neg (by omega), RD_o _ _ _ _ _ (by omega)]
        exact (ag x h2).2
      · show (if x = 2 then _ else μ.1 x) = _
        rw [if_neg h]
      · rcases hk with rfl | rfl | rfl <;> rfl
