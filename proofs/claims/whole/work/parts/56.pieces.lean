/-! reading: dues, pieces, wants -/
theorem J_dues {σ : x_S} {μ : x_U} {A : Nat → Int32} {U T P N n p : Nat} {f : Nat → Nat} (dC dM : Nat) (hx : TX σ n f) (hm : TM μ n f) (hD : DR σ A U T P N) (h0 : A 0 = 0) (hp : p ≤ n) (a e b s g v w : Int32) : Well σ μ n p a w (x_R x_P (dC + 4) 42 [.ref 1, .ref 23] (CG (RD σ a 0 (nI p) e))) (x_R x_P (dM + 4) 121 [.ref 0] (MG (RM μ A (nI p) b s g v w))) ∨ Ill σ μ (x_R x_P (dC + 4) 42 [.ref 1, .ref 23] (CG (RD σ a 0 (nI p) e))) (x_R x_P (dM + 4) 121 [.ref 0] (MG (RM μ A (nI p) b s g v w))) := by
  have h1 := hx.1
  obtain ⟨a2, b2, hC, ea2, eb2⟩ := R_dues dC hx a 0 e (p := p) (by omega)
  rw [hC]
  obtain ⟨dd, d0, d1, d2, d3, d4, d5, d6, d7, d8, d9⟩ := hD
  have k := nt_le f n p
  have k2 := sk_ok f n (nt f n p)
  have bv := nv_le f n p
  have r0 : ∀ A a b s g v w, x_ild (MG (RM μ A a b s g v w)) 2 0 0 = some (A 0) := fun A a b s g v w => RM_ra μ A a b s g v w (k := 0) (by omega)
  have p0 : ∀ A a b s g v w x, x_ist (MG (RM μ A a b s g v w)) 2 0 0 x = some (MG (RM μ (upd A 0 x) a b s g v w)) := fun A a b s g v w x => RM_rp μ A a b s g v w x (k := 0) (by omega)
  obtain ⟨m1, m2⟩ := M_num2 (pl := 1) dM hm (upd A 0 1) b s g v w 0 99 (p := p) (by omega) (by omega)
  have m1 : wn (nt f n p) (nq f n p) (nv f n p) 0 99 = 0 → x_R x_P (dM + 3) 119 [.ref 0, .int 1, .int 0, .int 99] (MG (RM μ (upd A 0 1) (nI p) b s g v w)) = _ := m1
  have m2 : wn (nt f n p) (nq f n p) (nv f n p) 0 99 ≠ 0 → ∃ a s' g' v', x_R x_P (dM + 3) 119 [.ref 0, .int 1, .int 0, .int 99] (MG (RM μ (upd A 0 1) (nI p) b s g v w)) = some (some (.int 0), MG (RM μ (upd A 0 1) a (nI (nq f n p)) s' g' v' (wn (nt f n p) (nq f n p) (nv f n p) 0 99))) := m2
  obtain ⟨m3, m4⟩ := M_end2 dM hm (upd (upd A 0 1) 1 (nI (nv f n p))) (nI (nq f n p)) 48 (nI (nt f n p - nq f n p)) (nI (nv f n p)) w (p := nt f n p) (by omega)
  have ag : AG σ (c_ws (c_ws σ 23 1 (nI (nv f n p))) 23 0 1) := (AG.ws σ 1 _).tr (AG.ws _ 0 1)
  by_cases hw : wn (nt f n p) (nq f n p) (nv f n p) 0 99 = 0
  · obtain ⟨n1, n2⟩ := na_ok (a := a) (b := 0) hw
    rw [n1, n2] at ea2
    rw [n2] at eb2
    have m1 := m1 hw
    by_cases hw3 : w3 f n (nq f n (nt f n p)) = 0
    · obtain ⟨n3, n4⟩ := ea_ok (a := a) (b := 0) hw3
      rw [n3] at ea2
      rw [n4] at eb2
      subst ea2 eb2
      have m3 := m3 hw3
      have hq : nq f n (nt f n p) < n := w3_lt hw3
      have hq2 : nt f n p ≤ nq f n (nt f n p) := k2.1
      obtain ⟨v1, v2⟩ := wn_rg (lo := 0) (hi := 99) (by omega) (by omega) (by omega) hw
      refine Or.inl ⟨_, upd (upd A 0 1) 1 (nI (nv f n p)), nq f n (nt f n p) + 1, nI (nq f n p), nI (nq f n (nt f n p)), 59, 0, 0, U, T, P, N, rfl, ?_, ag, ?_, by omega, by omega⟩
      · simp (decide := true) only [r_121, s_121_0, Option.bind_some, x_tlv, x_tln, if_true, if_false, m_wa_1, m_wa_s, m_wb_1, m_wb_2, m_wb_s, m_ws_1, m_ws_b, m_ws_s, m_ws_e, m_we_1, m_we_b, m_we_s, m_we_e, mf_0, mf_1, mf_2, mf_3, mf_4, mf_5, mf_6, mf_7, mf_8, mf_9, mf_10, mf_11, mf_12, mf_13, mf_14, mf_15, mf_16, mf_17, mf_18, mf_19, mf_20, mf_21, mf_22, mf_23, mf_24, mf_25, mf_26, mf_27, mf_28, mf_29, mf_30, mp_4, mp_7, mp_9, mp_10, mp_12, mp_14, mp_15, mp_16, mp_17, mp_18, mp_19, mp_20, mi_0, r0, h0, s_121_4, s_121_6, s_121_16, s_121_20, p0, s_121_23, m1, s_121_31, s_121_34, m3, s_121_38, s_121_41]
      · have uA : ∀ j, 2 ≤ j → upd (upd A 0 1) 1 (nI (nv f n p)) j = A j := fun j z => by rw [upd_n _ _ _ _ (by omega), upd_n _ _ _ _ (by omega)]
        refine ⟨dd, ?_, ?_, ?_, ?_, ?_, ?_, fun u hu => ?_, fun t ht => ?_, fun p hp => ?_, fun m hm => ?_⟩
        · rw [upd_n _ _ _ _ (by omega), upd_s]; exact ⟨rfl, Or.inr rfl⟩
        · rw [upd_s]; exact ⟨rfl, _, rfl, v1, v2⟩
        · rw [uA 2 (by omega)]; exact d2
        · rw [uA 3 (by omega)]; exact d3
        · rw [uA 4 (by omega)]; exact d4
        · rw [uA 5 (by omega)]; exact d5
        · rw [uA _ (by omega)]; exact d6 u hu
        · rw [uA _ (by omega), uA _ (by omega), uA _ (by omega), uA _ (by omega)]; exact d7 t ht
        · rw [uA _ (by omega), uA _ (by omega)]; exact d8 p hp
        · rw [uA _ (by omega), uA _ (by omega)]; exact d9 m hm
    · obtain ⟨n3, n4⟩ := ea_bad (a := a) hw3
      rw [n3] at ea2
      rw [n4] at eb2
      subst ea2 eb2
      obtain ⟨xa, xs, xg, xv, m4⟩ := m4 hw3
      refine Or.inr ⟨_, upd (upd A 0 1) 1 (nI (nv f n p)), nq f n (nt f n p), nq f n (nt f n p) + 1, _, xa, xs, xg, xv, 1, by decide, by unfold nq; omega, rfl, ?_, ag⟩
      simp (decide := true) only [r_121, s_121_0, Option.bind_some, x_tlv, x_tln, if_true, if_false, m_wa_1, m_wa_s, m_wb_1, m_wb_2, m_wb_s, m_ws_1, m_ws_b, m_ws_s, m_ws_e, m_we_1, m_we_b, m_we_s, m_we_e, mf_0, mf_1, mf_2, mf_3, mf_4, mf_5, mf_6, mf_7, mf_8, mf_9, mf_10, mf_11, mf_12, mf_13, mf_14, mf_15, mf_16, mf_17, mf_18, mf_19, mf_20, mf_21, mf_22, mf_23, mf_24, mf_25, mf_26, mf_27, mf_28, mf_29, mf_30, mp_4, mp_7, mp_9, mp_10, mp_12, mp_14, mp_15, mp_16, mp_17, mp_18, mp_19, mp_20, mi_0, r0, h0, s_121_4, s_121_6, s_121_16, s_121_20, p0, s_121_23, m1, s_121_31, s_121_34, m4, s_121_38, s_121_45]
  · obtain ⟨n1, n2⟩ := na_bad (a := a) hw
    rw [n1, n2, (ea_keep hw).1] at ea2
    rw [n2, (ea_keep (a := a) hw).2] at eb2
    subst ea2 eb2
    obtain ⟨xa, xs, xg, xv, m2⟩ := m2 hw
    refine Or.inr ⟨_, upd A 0 1, nq f n p, nq f n (nt f n p) + 1, _, xa, xs, xg, xv, _, hw, by unfold nq; omega, rfl, ?_, ag⟩
    simp (decide := true) only [r_121, s_121_0, Option.bind_some, x_tlv, x_tln, if_true, if_false, m_wa_1, m_wa_s, m_wb_1, m_wb_2, m_wb_s, m_ws_1, m_ws_b, m_ws_s, m_ws_e, m_we_1, m_we_b, m_we_s, m_we_e, mf_0, mf_1, mf_2, mf_3, mf_4, mf_5, mf_6, mf_7, mf_8, mf_9, mf_10, mf_11, mf_12, mf_13, mf_14, mf_15, mf_16, mf_17, mf_18, mf_19, mf_20, mf_21, mf_22, mf_23, mf_24, mf_25, mf_26, mf_27, mf_28, mf_29, mf_30, mp_4, mp_7, mp_9, mp_10, mp_12, mp_14, mp_15, mp_16, mp_17, mp_18, mp_19, mp_20, mi_0, r0, h0, s_121_4, s_121_6, s_121_16, s_121_20, p0, s_121_23, m2, s_121_31, s_121_45]
theorem M_use {μ : x_U} {n p pl U : Nat} {f : Nat → Nat} (d : Nat) (h : TM μ n f) (A : Nat → Int32) (hA : A 2 = nI U) (b s g v0 w : Int32) (hp : p < 2 ^ 27) (hpl : pl < 68) : (wn (nt f n p) (nq f n p) (nv f n p) 0 (nI U - 1) = 0 → x_R x_P (d + 4) 123 [.ref 0, .int (nI pl)] (MG (RM μ A (nI p) b s g v0 w)) = some (some (.int 1), MG (RM μ (upd A pl (nI (nv f n p))) (nI (nt f n p)) (nI (nq f n p)) 48 (nI (nt f n p - nq f n p)) (nI (nv f n p)) w))) ∧ (wn (nt f n p) (nq f n p) (nv f n p) 0 (nI U - 1) ≠ 0 → ∃ a s' g' v', x_R x_P (d + 4) 123 [.ref 0, .int (nI pl)] (MG (RM μ A (nI p) b s g v0 w)) = some (some (.int 0), MG (RM μ A a (nI (nq f n p)) s' g' v' (wn (nt f n p) (nq f n p) (nv f n p) 0 (nI U - 1))))) := by
  have r2 : ∀ A a b s g v w, x_ild (MG (RM μ A a b s g v w)) 2 0 2 = some (A 2) := fun A a b s g v w => RM_ra μ A a b s g v w (k := 2) (by omega)
  obtain ⟨m1, m2⟩ := M_num2 (pl := pl) d h A b s g v0 w 0 (nI U - 1) (p := p) hp hpl
  refine ⟨fun z => ?_, fun z => ?_⟩
  · have m1 := m1 z
    simp (decide := true) only [r_123, s_123_0, Option.bind_some, x_tlv, x_tln, if_true, if_false, m_wa_1, m_wa_s, m_wb_1, m_wb_2, m_wb_s, m_ws_1, m_ws_b, m_ws_s, m_ws_e, m_we_1, m_we_b, m_we_s, m_we_e, mf_0, mf_1, mf_2, mf_3, mf_4, mf_5, mf_6, mf_7, mf_8, mf_9, mf_10, mf_11, mf_12, mf_13, mf_14, mf_15, mf_16, mf_17, mf_18, mf_19, mf_20, mf_21, mf_22, mf_23, mf_24, mf_25, mf_26, mf_27, mf_28, mf_29, mf_30, mp_4, mp_7, mp_9, mp_10, mp_12, mp_14, mp_15, mp_16, mp_17, mp_18, mp_19, mp_20, mi_0, s_123_7, r2, hA, s_123_9, m1, s_123_14]
  · obtain ⟨xa, xs, xg, xv, m2⟩ := m2 z
    refine ⟨xa, xs, xg, xv, ?_⟩
    simp (decide := true) only [r_123, s_123_0, Option.bind_some, x_tlv, x_tln, if_true, if_false, m_wa_1, m_wa_s, m_wb_1, m_wb_2, m_wb_s, m_ws_1, m_ws_b, m_ws_s, m_ws_e, m_we_1, m_we_b, m_we_s, m_we_e, mf_0, mf_1, mf_2, mf_3, mf_4, mf_5, mf_6, mf_7, mf_8, mf_9, mf_10, mf_11, mf_12, mf_13, mf_14, mf_15, mf_16, mf_17, mf_18, mf_19, mf_20, mf_21, mf_22, mf_23, mf_24, mf_25, mf_26, mf_27, mf_28, mf_29, mf_30, mp_4, mp_7, mp_9, mp_10, mp_12, mp_14, mp_15, mp_16, mp_17, mp_18, mp_19, mp_20, mi_0, s_123_7, r2, hA, s_123_9, m2, s_123_14]
theorem J_am34 {σ : x_S} {μ : x_U} {A : Nat → Int32} {U T P N n p : Nat} {f : Nat → Nat} (dC dM : Nat) (hx : TX σ n f) (hm : TM μ n f) (hD : DR σ A U T P N) (hK : P < 6) (hp : p ≤ n) (a e b s g v w : Int32) : Well σ μ n p a w (x_R x_P (dC + 4) 45 [.ref 1, .ref 23, .ref 34, .ref 36, .int 40] (CG (RD σ a 0 (nI p) e))) (x_R x_P (dM + 5) 125 [.ref 0] (MG (RM μ A (nI p) b s g v w))) ∨ Ill σ μ (x_R x_P (dC + 4) 45 [.ref 1, .ref 23, .ref 34, .ref 36, .int 40] (CG (RD σ a 0 (nI p) e))) (x_R x_P (dM + 5) 125 [.ref 0] (MG (RM μ A (nI p) b s g v w))) := by
  have h1 := hx.1
  obtain ⟨⟨hU6, hT, hP, hN⟩, d0, d1, ⟨d2, d2'⟩, d3, d4, d5, d6, d7, d8, d9⟩ := hD
  obtain ⟨c1, c2, c3⟩ := d4
  have hC := R_am34 dC hx a 0 e (p := p) (hi := nI U - 1) (by omega) (by rw [d2'])
  rw [hC]
  have k := nt_le f n p
  have k2 := nt_le f n (nt f n p)
  have k3 := sk_ok f n (nt f n (nt f n p))
  have bv := nv_le f n p
  have bv2 := nv_le f n (nt f n p)
  have e6 : ¬ nI P = 6 := fun z => by have := (nI_eq (b := 6) (by omega) (by omega)).mp z; omega
  have r4 : ∀ A a b s g v w, x_ild (MG (RM μ A a b s g v w)) 2 0 4 = some (A 4) := fun A a b s g v w => RM_ra μ A a b s g v w (k := 4) (by omega)
  have p4 : ∀ A a b s g v w x, x_ist (MG (RM μ A a b s g v w)) 2 0 4 x = some (MG (RM μ (upd A 4 x) a b s g v w)) := fun A a b s g v w x => RM_rp μ A a b s g v w x (k := 4) (by omega)
  obtain ⟨m1, m2⟩ := M_use (pl := 44 + P) (U := U) dM hm (upd A 4 (nI (P + 1))) (by rw [upd_n _ _ _ _ (by omega)]; exact d2) b s g v w (p := p) (by omega) (by omega)
  obtain ⟨m3, m4⟩ := M_num2 (pl := 50 + P) (dM + 1) hm (upd (upd A 4 (nI (P + 1))) (44 + P) (nI (nv f n p))) (nI (nq f n p)) 48 (nI (nt f n p - nq f n p)) (nI (nv f n p)) w 1 40 (p := nt f n p) (by omega) (by omega)
  obtain ⟨m5, m6⟩ := M_end2 (dM + 1) hm (upd (upd (upd A 4 (nI (P + 1))) (44 + P) (nI (nv f n p))) (50 + P) (nI (nv f n (nt f n p)))) (nI (nq f n (nt f n p))) 48 (nI (nt f n (nt f n p) - nq f n (nt f n p))) (nI (nv f n (nt f n p))) w (p := nt f n (nt f n p)) (by omega)
  have ag : AG σ (c_add (c_add σ 34 (nI (nv f n p))) 36 (nI (nv f n (nt f n p)))) := (AG.add σ (by omega) (by omega) _).tr (AG.add _ (by omega) (by omega) _)
  by_cases hw : wn (nt f n p) (nq f n p) (nv f n p) 0 (nI U - 1) = 0
  · obtain ⟨n1, n2⟩ := na_ok (a := a) (b := 0) hw
    rw [n1, n2]
    have m1 := m1 hw
    by_cases hw2 : wn (nt f n (nt f n p)) (nq f n (nt f n p)) (nv f n (nt f n p)) 1 40 = 0
    · obtain ⟨n3, n4⟩ := na_ok (a := a) (b := 0) hw2
      rw [n3, n4]
      have m3 := m3 hw2
      by_cases hw3 : w3 f n (nq f n (nt f n (nt f n p))) = 0
      · obtain ⟨n5, n6⟩ := ea_ok (a := a) (b := 0) hw3
        rw [n5, n6]
        have m5 := m5 hw3
        have hq : nq f n (nt f n (nt f n p)) < n := w3_lt hw3
        have hq2 : nt f n (nt f n p) ≤ nq f n (nt f n (nt f n p)) := k3.1
        have v1 := wn_rl (U := U) (by omega) (by omega) hw
        obtain ⟨v2, v3⟩ := wn_rg (lo := 1) (hi := 40) (by omega) (by omega) (by omega) hw2
        refine Or.inl ⟨_, upd (upd (upd A 4 (nI (P + 1))) (44 + P) (nI (nv f n p))) (50 + P) (nI (nv f n (nt f n p))), nq f n (nt f n (nt f n p)) + 1, nI (nq f n (nt f n p)), nI (nq f n (nt f n (nt f n p))), 59, 0, 0, U, T, P + 1, N, rfl, ?_, ag, ?_, by omega, by omega⟩
        · simp (decide := true) only [r_125, s_125_0, Option.bind_some, x_tlv, x_tln, if_true, if_false, m_wa_1, m_wa_s, m_wb_1, m_wb_2, m_wb_s, m_ws_1, m_ws_b, m_ws_s, m_ws_e, m_we_1, m_we_b, m_we_s, m_we_e, mf_0, mf_1, mf_2, mf_3, mf_4, mf_5, mf_6, mf_7, mf_8, mf_9, mf_10, mf_11, mf_12, mf_13, mf_14, mf_15, mf_16, mf_17, mf_18, mf_19, mf_20, mf_21, mf_22, mf_23, mf_24, mf_25, mf_26, mf_27, mf_28, mf_29, mf_30, mp_4, mp_7, mp_9, mp_10, mp_12, mp_14, mp_15, mp_16, mp_17, mp_18, mp_19, mp_20, mi_0, r4, c1, s_125_4, s_125_6, e6, s_125_19, s_125_23, s_125_26, nI_1, p4, s_125_29, x_a44, m1, s_125_37, s_125_40, x_a50, m3, s_125_51, s_125_54, m5, s_125_58, s_125_61]
        · rw [c_add_n (σ := σ) (q := 34) c2 (by show P < 6; omega)]
          rw [c_add_n (q := 36) (n := P) (by exact c3) (by show P < 6; omega)]
          have uA : ∀ j, j ≠ 4 → j ≠ 44 + P → j ≠ 50 + P → upd (upd (upd A 4 (nI (P + 1))) (44 + P) (nI (nv f n p))) (50 + P) (nI (nv f n (nt f n p))) j = A j := fun j z1 z2 z3 => by rw [upd_n _ _ _ _ z3, upd_n _ _ _ _ z2, upd_n _ _ _ _ z1]
          have uC : upd (upd (upd A 4 (nI (P + 1))) (44 + P) (nI (nv f n p))) (50 + P) (nI (nv f n (nt f n p))) 4 = nI (P + 1) := by rw [upd_n _ _ _ _ (by omega), upd_n _ _ _ _ (by omega), upd_s]
          refine ⟨⟨by omega, by omega, by omega, by omega⟩, ?_, ?_, ?_, ?_, ?_, ?_, fun u hu => ?_, fun t ht => ?_, fun p' hp' => ?_, fun m hm => ?_⟩
          · rw [uA 0 (by omega) (by omega) (by omega)]; exact d0
          · rw [uA 1 (by omega) (by omega) (by omega)]; exact d1
          · rw [uA 2 (by omega) (by omega) (by omega)]; exact ⟨d2, d2'⟩
          · rw [uA 3 (by omega) (by omega) (by omega)]; exact d3
          · rw [uC]; exact ⟨rfl, rfl, rfl⟩
          · rw [uA 5 (by omega) (by omega) (by omega)]; exact d5
          · rw [uA _ (by omega) (by omega) (by omega)]; exact d6 u hu
          · rw [uA _ (by omega) (by omega) (by omega), uA _ (by omega) (by omega) (by omega), uA _ (by omega) (by omega) (by omega), uA _ (by omega) (by omega) (by omega)]; exact d7 t ht
          · show (upd (σ.1 35) P (nI (nv f n p)) p' = upd (upd (upd A 4 (nI (P + 1))) (44 + P) (nI (nv f n p))) (50 + P) (nI (nv f n (nt f n p))) (44 + p') ∧ Rl (upd (upd (upd A 4 (nI (P + 1))) (44 + P) (nI (nv f n p))) (50 + P) (nI (nv f n (nt f n p))) (44 + p')) U) ∧ (upd (σ.1 37) P (nI (nv f n (nt f n p))) p' = upd (upd (upd A 4 (nI (P + 1))) (44 + P) (nI (nv f n p))) (50 + P) (nI (nv f n (nt f n p))) (50 + p') ∧ Rg (upd (upd (upd A 4 (nI (P + 1))) (44 + P) (nI (nv f n p))) (50 + P) (nI (nv f n (nt f n p))) (50 + p')) 1 40)
            by_cases hv : p' = P
            · rw [hv, upd_s, upd_s, upd_n _ _ _ _ (by omega), upd_s, upd_s]
              exact ⟨⟨rfl, _, rfl, v1⟩, rfl, _, rfl, v2, v3⟩
            · rw [upd_n _ _ p' _ hv, upd_n _ _ p' _ hv, uA _ (by omega) (by omega) (by omega), uA _ (by omega) (by omega) (by omega)]
              exact d8 p' (by omega)
          · rw [uA _ (by omega) (by omega) (by omega), uA _ (by omega) (by omega) (by omega)]; exact d9 m hm
      · obtain ⟨n5, n6⟩ := ea_bad (a := a) hw3
        rw [n5, n6]
        obtain ⟨xa, xs, xg, xv, m6⟩ := m6 hw3
        refine Or.inr ⟨_, upd (upd (upd A 4 (nI (P + 1))) (44 + P) (nI (nv f n p))) (50 + P) (nI (nv f n (nt f n p))), nq f n (nt f n (nt f n p)), nq f n (nt f n (nt f n p)) + 1, _, xa, xs, xg, xv, 1, by decide, by unfold nq; omega, rfl, ?_, ag⟩
        simp (decide := true) only [r_125, s_125_0, Option.bind_some, x_tlv, x_tln, if_true, if_false, m_wa_1, m_wa_s, m_wb_1, m_wb_2, m_wb_s, m_ws_1, m_ws_b, m_ws_s, m_ws_e, m_we_1, m_we_b, m_we_s, m_we_e, mf_0, mf_1, mf_2, mf_3, mf_4, mf_5, mf_6, mf_7, mf_8, mf_9, mf_10, mf_11, mf_12, mf_13, mf_14, mf_15, mf_16, mf_17, mf_18, mf_19, mf_20, mf_21, mf_22, mf_23, mf_24, mf_25, mf_26, mf_27, mf_28, mf_29, mf_30, mp_4, mp_7, mp_9, mp_10, mp_12, mp_14, mp_15, mp_16, mp_17, mp_18, mp_19, mp_20, mi_0, r4, c1, s_125_4, s_125_6, e6, s_125_19, s_125_23, s_125_26, nI_1, p4, s_125_29, x_a44, m1, s_125_37, s_125_40, x_a50, m3, s_125_51, s_125_54, m6, s_125_58, s_125_65]
    · obtain ⟨n3, n4⟩ := na_bad (a := a) hw2
      rw [n3, n4, (ea_keep hw2).1, (ea_keep (a := a) hw2).2]
      obtain ⟨xa, xs, xg, xv, m4⟩ := m4 hw2
      refine Or.inr ⟨_, upd (upd A 4 (nI (P + 1))) (44 + P) (nI (nv f n p)), nq f n (nt f n p), nq f n (nt f n (nt f n p)) + 1, _, xa, xs, xg, xv, _, hw2, by unfold nq; omega, rfl, ?_, ag⟩
      simp (decide := true) only [r_125, s_125_0, Option.bind_some, x_tlv, x_tln, if_true, if_false, m_wa_1, m_wa_s, m_wb_1, m_wb_2, m_wb_s, m_ws_1, m_ws_b, m_ws_s, m_ws_e, m_we_1, m_we_b, m_we_s, m_we_e, mf_0, mf_1, mf_2, mf_3, mf_4, mf_5, mf_6, mf_7, mf_8, mf_9, mf_10, mf_11, mf_12, mf_13, mf_14, mf_15, mf_16, mf_17, mf_18, mf_19, mf_20, mf_21, mf_22, mf_23, mf_24, mf_25, mf_26, mf_27, mf_28, mf_29, mf_30, mp_4, mp_7, mp_9, mp_10, mp_12, mp_14, mp_15, mp_16, mp_17, mp_18, mp_19, mp_20, mi_0, r4, c1, s_125_4, s_125_6, e6, s_125_19, s_125_23, s_125_26, nI_1, p4, s_125_29, x_a44, m1, s_125_37, s_125_40, x_a50, m4, s_125_51, s_125_65]
  · obtain ⟨n1, n2⟩ := na_bad (a := a) hw
    rw [n1, n2, (na_keep hw).1, (na_keep (a := a) hw).2, (ea_keep hw).1, (ea_keep (a := a) hw).2]
    obtain ⟨xa, xs, xg, xv, m2⟩ := m2 hw
    refine Or.inr ⟨_, upd A 4 (nI (P + 1)), nq f n p, nq f n (nt f n (nt f n p)) + 1, _, xa, xs, xg, xv, _, hw, by unfold nq; omega, rfl, ?_, ag⟩
    simp (decide := true) only [r_125, s_125_0, Option.bind_some, x_tlv, x_tln, if_true, if_false, m_wa_1, m_wa_s, m_wb_1, m_wb_2, m_wb_s, m_ws_1, m_ws_b, m_ws_s, m_ws_e, m_we_1, m_we_b, m_we_s, m_we_e, mf_0, mf_1, mf_2, mf_3, mf_4, mf_5, mf_6, mf_7, mf_8, mf_9, mf_10, mf_11, mf_12, mf_13, mf_14, mf_15, mf_16, mf_17, mf_18, mf_19, mf_20, mf_21, mf_22, mf_23, mf_24, mf_25, mf_26, mf_27, mf_28, mf_29, mf_30, mp_4, mp_7, mp_9, mp_10, mp_12, mp_14, mp_15, mp_16, mp_17, mp_18, mp_19, mp_20, mi_0, r4, c1, s_125_4, s_125_6, e6, s_125_19, s_125_23, s_125_26, nI_1, p4, s_125_29, x_a44, m2, s_125_37, s_125_65]
theorem J_am38 {σ : x_S} {μ : x_U} {A : Nat → Int32} {U T P N n p : Nat} {f : Nat → Nat} (dC dM : Nat) (hx : TX σ n f) (hm : TM μ n f) (hD : DR σ A U T P N) (hK : N < 6) (hp : p ≤ n) (a e b s g v w : Int32) : Well σ μ n p a w (x_R x_P (dC + 4) 45 [.ref 1, .ref 23, .ref 38, .ref 40, .int 20] (CG (RD σ a 0 (nI p) e))) (x_R x_P (dM + 5) 126 [.ref 0] (MG (RM μ A (nI p) b s g v w))) ∨ Ill σ μ (x_R x_P (dC + 4) 45 [.ref 1, .ref 23, .ref 38, .ref 40, .int 20] (CG (RD σ a 0 (nI p) e))) (x_R x_P (dM + 5) 126 [.ref 0] (MG (RM μ A (nI p) b s g v w))) := by
  have h1 := hx.1
  obtain ⟨⟨hU6, hT, hP, hN⟩, d0, d1, ⟨d2, d2'⟩, d3, d4, d5, d6, d7, d8, d9⟩ := hD
  obtain ⟨c1, c2, c3⟩ := d5
  have hC := R_am38 dC hx a 0 e (p := p) (hi := nI U - 1) (by omega) (by rw [d2'])
  rw [hC]
  have k := nt_le f n p
  have k2 := nt_le f n (nt f n p)
  have k3 := sk_ok f n (nt f n (nt f n p))
  have bv := nv_le f n p
  have bv2 := nv_le f n (nt f n p)
  have e6 : ¬ nI N = 6 := fun z => by have := (nI_eq (b := 6) (by omega) (by omega)).mp z; omega
  have r4 : ∀ A a b s g v w, x_ild (MG (RM μ A a b s g v w)) 2 0 5 = some (A 5) := fun A a b s g v w => RM_ra μ A a b s g v w (k := 5) (by omega)
  have p4 : ∀ A a b s g v w x, x_ist (MG (RM μ A a b s g v w)) 2 0 5 x = some (MG (RM μ (upd A 5 x) a b s g v w)) := fun A a b s g v w x => RM_rp μ A a b s g v w x (k := 5) (by omega)
  obtain ⟨m1, m2⟩ := M_use (pl := 56 + N) (U := U) dM hm (upd A 5 (nI (N + 1))) (by rw [upd_n _ _ _ _ (by omega)]; exact d2) b s g v w (p := p) (by omega) (by omega)
  obtain ⟨m3, m4⟩ := M_num2 (pl := 62 + N) (dM + 1) hm (upd (upd A 5 (nI (N + 1))) (56 + N) (nI (nv f n p))) (nI (nq f n p)) 48 (nI (nt f n p - nq f n p)) (nI (nv f n p)) w 1 20 (p := nt f n p) (by omega) (by omega)
  obtain ⟨m5, m6⟩ := M_end2 (dM + 1) hm (upd (upd (upd A 5 (nI (N + 1))) (56 + N) (nI (nv f n p))) (62 + N) (nI (nv f n (nt f n p)))) (nI (nq f n (nt f n p))) 48 (nI (nt f n (nt f n p) - nq f n (nt f n p))) (nI (nv f n (nt f n p))) w (p := nt f n (nt f n p)) (by omega)
  have ag : AG σ (c_add (c_add σ 38 (nI (nv f n p))) 40 (nI (nv f n (nt f n p)))) := (AG.add σ (by omega) (by omega) _).tr (AG.add _ (by omega) (by omega) _)
  by_cases hw : wn (nt f n p) (nq f n p) (nv f n p) 0 (nI U - 1) = 0
  · obtain ⟨n1, n2⟩ := na_ok (a := a) (b := 0) hw
    rw [n1, n2]
    have m1 := m1 hw
    by_cases hw2 : wn (nt f n (nt f n p)) (nq f n (nt f n p)) (nv f n (nt f n p)) 1 20 = 0
    · obtain ⟨n3, n4⟩ := na_ok (a := a) (b := 0) hw2
      rw [n3, n4]
      have m3 := m3 hw2
      by_cases hw3 : w3 f n (nq f n (nt f n (nt f n p))) = 0
      · obtain ⟨n5, n6⟩ := ea_ok (a := a) (b := 0) hw3
        rw [n5, n6]
        have m5 := m5 hw3
        have hq : nq f n (nt f n (nt f n p)) < n := w3_lt hw3
        have hq2 : nt f n (nt f n p) ≤ nq f n (nt f n (nt f n p)) := k3.1
        have v1 := wn_rl (U := U) (by omega) (by omega) hw
        obtain ⟨v2, v3⟩ := wn_rg (lo := 1) (hi := 20) (by omega) (by omega) (by omega) hw2
        refine Or.inl ⟨_, upd (upd (upd A 5 (nI (N + 1))) (56 + N) (nI (nv f n p))) (62 + N) (nI (nv f n (nt f n p))), nq f n (nt f n (nt f n p)) + 1, nI (nq f n (nt f n p)), nI (nq f n (nt f n (nt f n p))), 59, 0, 0, U, T, P, N + 1, rfl, ?_, ag, ?_, by omega, by omega⟩
        · simp (decide := true) only [r_126, s_126_0, Option.bind_some, x_tlv, x_tln, if_true, if_false, m_wa_1, m_wa_s, m_wb_1, m_wb_2, m_wb_s, m_ws_1, m_ws_b, m_ws_s, m_ws_e, m_we_1, m_we_b, m_we_s, m_we_e, mf_0, mf_1, mf_2, mf_3, mf_4, mf_5, mf_6, mf_7, mf_8, mf_9, mf_10, mf_11, mf_12, mf_13, mf_14, mf_15, mf_16, mf_17, mf_18, mf_19, mf_20, mf_21, mf_22, mf_23, mf_24, mf_25, mf_26, mf_27, mf_28, mf_29, mf_30, mp_4, mp_7, mp_9, mp_10, mp_12, mp_14, mp_15, mp_16, mp_17, mp_18, mp_19, mp_20, mi_0, r4, c1, s_126_4, s_126_6, e6, s_126_19, s_126_23, s_126_26, nI_1, p4, s_126_29, x_a56, m1, s_126_37, s_126_40, x_a62, m3, s_126_51, s_126_54, m5, s_126_58, s_126_61]
        · rw [c_add_n (σ := σ) (q := 38) c2 (by show N < 6; omega)]
          rw [c_add_n (q := 40) (n := N) (by exact c3) (by show N < 6; omega)]
          have uA : ∀ j, j ≠ 5 → j ≠ 56 + N → j ≠ 62 + N → upd (upd (upd A 5 (nI (N + 1))) (56 + N) (nI (nv f n p))) (62 + N) (nI (nv f n (nt f n p))) j = A j := fun j z1 z2 z3 => by rw [upd_n _ _ _ _ z3, upd_n _ _ _ _ z2, upd_n _ _ _ _ z1]
          have uC : upd (upd (upd A 5 (nI (N + 1))) (56 + N) (nI (nv f n p))) (62 + N) (nI (nv f n (nt f n p))) 5 = nI (N + 1) := by rw [upd_n _ _ _ _ (by omega), upd_n _ _ _ _ (by omega), upd_s]
          refine ⟨⟨by omega, by omega, by omega, by omega⟩, ?_, ?_, ?_, ?_, ?_, ?_, fun u hu => ?_, fun t ht => ?_, fun p' hp' => ?_, fun m hm => ?_⟩
          · rw [uA 0 (by omega) (by omega) (by omega)]; exact d0
          · rw [uA 1 (by omega) (by omega) (by omega)]; exact d1
          · rw [uA 2 (by omega) (by omega) (by omega)]; exact ⟨d2, d2'⟩
          · rw [uA 3 (by omega) (by omega) (by omega)]; exact d3
          · rw [uA 4 (by omega) (by omega) (by omega)]; exact d4
          · rw [uC]; exact ⟨rfl, rfl, rfl⟩
          · rw [uA _ (by omega) (by omega) (by omega)]; exact d6 u hu
          · rw [uA _ (by omega) (by omega) (by omega), uA _ (by omega) (by omega) (by omega), uA _ (by omega) (by omega) (by omega), uA _ (by omega) (by omega) (by omega)]; exact d7 t ht
          · rw [uA _ (by omega) (by omega) (by omega), uA _ (by omega) (by omega) (by omega)]; exact d8 p' hp'
          · show (upd (σ.1 39) N (nI (nv f n p)) m = upd (upd (upd A 5 (nI (N + 1))) (56 + N) (nI (nv f n p))) (62 + N) (nI (nv f n (nt f n p))) (56 + m) ∧ Rl (upd (upd (upd A 5 (nI (N + 1))) (56 + N) (nI (nv f n p))) (62 + N) (nI (nv f n (nt f n p))) (56 + m)) U) ∧ (upd (σ.1 41) N (nI (nv f n (nt f n p))) m = upd (upd (upd A 5 (nI (N + 1))) (56 + N) (nI (nv f n p))) (62 + N) (nI (nv f n (nt f n p))) (62 + m) ∧ Rg (upd (upd (upd A 5 (nI (N + 1))) (56 + N) (nI (nv f n p))) (62 + N) (nI (nv f n (nt f n p))) (62 + m)) 1 20)
            by_cases hv : m = N
            · rw [hv, upd_s, upd_s, upd_n _ _ _ _ (by omega), upd_s, upd_s]
              exact ⟨⟨rfl, _, rfl, v1⟩, rfl, _, rfl, v2, v3⟩
            · rw [upd_n _ _ m _ hv, upd_n _ _ m _ hv, uA _ (by omega) (by omega) (by omega), uA _ (by omega) (by omega) (by omega)]
              exact d9 m (by omega)
      · obtain ⟨n5, n6⟩ := ea_bad (a := a) hw3
        rw [n5, n6]
        obtain ⟨xa, xs, xg, xv, m6⟩ := m6 hw3
        refine Or.inr ⟨_, upd (upd (upd A 5 (nI (N + 1))) (56 + N) (nI (nv f n p))) (62 + N) (nI (nv f n (nt f n p))), nq f n (nt f n (nt f n p)), nq f n (nt f n (nt f n p)) + 1, _, xa, xs, xg, xv, 1, by decide, by unfold nq; omega, rfl, ?_, ag⟩
        simp (decide := true) only [r_126, s_126_0, Option.bind_some, x_tlv, x_tln, if_true, if_false, m_wa_1, m_wa_s, m_wb_1, m_wb_2, m_wb_s, m_ws_1, m_ws_b, m_ws_s, m_ws_e, m_we_1, m_we_b, m_we_s, m_we_e, mf_0, mf_1, mf_2, mf_3, mf_4, mf_5, mf_6, mf_7, mf_8, mf_9, mf_10, mf_11, mf_12, mf_13, mf_14, mf_15, mf_16, mf_17, mf_18, mf_19, mf_20, mf_21, mf_22, mf_23, mf_24, mf_25, mf_26, mf_27, mf_28, mf_29, mf_30, mp_4, mp_7, mp_9, mp_10, mp_12, mp_14, mp_15, mp_16, mp_17, mp_18, mp_19, mp_20, mi_0, r4, c1, s_126_4, s_126_6, e6, s_126_19, s_126_23, s_126_26, nI_1, p4, s_126_29, x_a56, m1, s_126_37, s_126_40, x_a62, m3, s_126_51, s_126_54, m6, s_126_58, s_126_65]
    · obtain ⟨n3, n4⟩ := na_bad (a := a) hw2
      rw [n3, n4, (ea_keep hw2).1, (ea_keep (a := a) hw2).2]
      obtain ⟨xa, xs, xg, xv, m4⟩ := m4 hw2
      refine Or.inr ⟨_, upd (upd A 5 (nI (N + 1))) (56 + N) (nI (nv f n p)), nq f n (nt f n p), nq f n (nt f n (nt f n p)) + 1, _, xa, xs, xg, xv, _, hw2, by unfold nq; omega, rfl, ?_, ag⟩
      simp (decide := true) only [r_126, s_126_0, Option.bind_some, x_tlv, x_tln, if_true, if_false, m_wa_1, m_wa_s, m_wb_1, m_wb_2, m_wb_s, m_ws_1, m_ws_b, m_ws_s, m_ws_e, m_we_1, m_we_b, m_we_s, m_we_e, mf_0, mf_1, mf_2, mf_3, mf_4, mf_5, mf_6, mf_7, mf_8, mf_9, mf_10, mf_11, mf_12, mf_13, mf_14, mf_15, mf_16, mf_17, mf_18, mf_19, mf_20, mf_21, mf_22, mf_23, mf_24, mf_25, mf_26, mf_27, mf_28, mf_29, mf_30, mp_4, mp_7, mp_9, mp_10, mp_12, mp_14, mp_15, mp_16, mp_17, mp_18, mp_19, mp_20, mi_0, r4, c1, s_126_4, s_126_6, e6, s_126_19, s_126_23, s_126_26, nI_1, p4, s_126_29, x_a56, m1, s_126_37, s_126_40, x_a62, m4, s_126_51, s_126_65]
  · obtain ⟨n1, n2⟩ := na_bad (a := a) hw
    rw [n1, n2, (na_keep hw).1, (na_keep (a := a) hw).2, (ea_keep hw).1, (ea_keep (a := a) hw).2]
    obtain ⟨xa, xs, xg, xv, m2⟩ := m2 hw
    refine Or.inr ⟨_, upd A 5 (nI (N + 1)), nq f n p, nq f n (nt f n (nt f n p)) + 1, _, xa, xs, xg, xv, _, hw, by unfold nq; omega, rfl, ?_, ag⟩
    simp (decide := true) only [r_126, s_126_0, Option.bind_some, x_tlv, x_tln, if_true, if_false, m_wa_1, m_wa_s, m_wb_1, m_wb_2, m_wb_s, m_ws_1, m_ws_b, m_ws_s, m_ws_e, m_we_1, m_we_b, m_we_s, m_we_e, mf_0, mf_1, mf_2, mf_3, mf_4, mf_5, mf_6, mf_7, mf_8, mf_9, mf_10, mf_11, mf_12, mf_13, mf_14, mf_15, mf_16, mf_17, mf_18, mf_19, mf_20, mf_21, mf_22, mf_23, mf_24, mf_25, mf_26, mf_27, mf_28, mf_29, mf_30, mp_4, mp_7, mp_9, mp_10, mp_12, mp_14, mp_15, mp_16, mp_17, mp_18, mp_19, mp_20, mi_0, r4, c1, s_126_4, s_126_6, e6, s_126_19, s_126_23, s_126_26, nI_1, p4, s_126_29, x_a56, m2, s_126_37, s_126_65]
