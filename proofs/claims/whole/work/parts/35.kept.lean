/-! kept -/
theorem x_pc {a q : Nat} (h : a * q < 2 ^ 31) : nI a * nI q / 100 = nI (a * q / 100) := by
  rw [pk_mul, show (100 : Int32) = nI 100 from rfl, pk_div h (by omega) (by omega)]
theorem kst_fn {F : Nat → Int32} {g : Nat → Nat} {q k n : Nat} (hq : q ≤ 100) (hk : k + 1 < n) (hF : ∀ j, j < n → F j = nI (g j)) : ∀ j, j < n → upd (upd F k (nI (g k) - nI (g k * q / 100))) (k + 1) (nI (g (k + 1)) + nI (g k * q / 100)) j = nI (kst q g k j) := by
  have hm : g k * q / 100 ≤ g k := by
    have : g k * q ≤ g k * 100 := Nat.mul_le_mul_left _ hq
    omega
  intro j hj
  unfold kst upd
  by_cases h1 : j = k + 1
  · rw [if_pos h1, if_neg (show ¬ j = k by omega), if_pos h1, nI_add]
  · rw [if_neg h1]
    by_cases h2 : j = k
    · rw [if_pos h2, if_pos h2, pk_sub hm]
    · rw [if_neg h2, if_neg h2, if_neg h1]
      exact hF j hj
theorem C_kin (d : Nat) (σ : x_S) {n q e M : Nat} (hq : q ≤ 100) (hM : M ≤ 1000000) : ∀ k (F : Nat → Int32) (g : Nat → Nat) (f : Value), k ≤ 20 → (∀ j, j < 21 → F j = nI (g j)) → ksum g 21 = M → ∃ F' f', (∀ j, j < 21 → F' j = nI (kin q g k j)) ∧ x_E x_P (d + 1) x_c107 29 [.ref 0, .int (nI n), .int (nI q), .int (nI e), .int (nI k + (-1)), f] [] (CG (c_wa σ 84 F)) = x_E x_P (d + 1) x_c107 21 [.ref 0, .int (nI n), .int (nI q), .int (nI (e + 1)), .int (nI 0 + (-1)), f'] [] (CG (c_wa σ 84 F')) := by
  intro k
  induction k with
  | zero =>
    intro F g f hk hF hg
    have e0 : nI 0 + (-1) < 0 := by decide
    refine ⟨F, f, hF, ?_⟩
    rw [s_107_29, if_pos e0, s_107_102, nI_1]
  | succ k ih =>
    intro F g f hk hF hg
    have b1 := ksum_le g k 21 (by omega)
    have b2 : g k * q ≤ 1000000 * 100 := Nat.mul_le_mul (by omega) hq
    have e0 : ¬ nI k < 0 := nI_pos (by omega)
    have e1 := x_pc (a := g k) (q := q) (by omega)
    have a1 : ∀ F, c_at (c_wa σ 84 F) 83 (nI k) = F k := fun F => by rw [c_at_n (q := 83) (by show k < 21; omega)]; rfl
    have a2 : ∀ F, c_at (c_wa σ 84 F) 83 (nI (k + 1)) = F (k + 1) := fun F => by rw [c_at_n (q := 83) (by show k + 1 < 21; omega)]; rfl
    have a3 : ∀ F v, c_pt (c_wa σ 84 F) 83 (nI k) v = c_wa σ 84 (upd F k v) := fun F v => c_pt_wa (q := 83) (by show k < 21; omega)
    have a4 : ∀ F v, c_pt (c_wa σ 84 F) 83 (nI (k + 1)) v = c_wa σ 84 (upd F (k + 1) v) := fun F v => c_pt_wa (q := 83) (by show k + 1 < 21; omega)
    obtain ⟨F', f', i1, i2⟩ := ih (upd (upd F k (nI (g k) - nI (g k * q / 100))) (k + 1) (nI (g (k + 1)) + nI (g k * q / 100))) (kst q g k) (.int (nI (g k * q / 100))) (by omega) (kst_fn hq (by omega) hF) (by rw [(kst_sum q k g hq 21).2.2 (by omega), hg])
    refine ⟨F', f', i1, ?_⟩
    rw [pk_m1, s_107_29, if_neg e0]
    simp (decide := true) only [s_107_34, s_107_38, s_107_43, s_107_54, s_107_60, s_107_65, s_107_71, s_107_75, s_107_83, s_107_90, s_107_96, Option.bind_some, x_tlv, x_tln, if_true, if_false, cr_isa, R_at, R_has, R_size, R_put, R_isFull, R_add, R_clear, c_has_eq, c_wa_1, c_wa_2, c_ws_1, c_ws_2, cf_0_0, cf_0_1, cf_0_2, cf_0_3, cf_0_4, cf_0_5, cf_0_6, cf_0_7, cf_0_8, cf_0_9, cf_0_10, cf_0_11, cf_0_12, cf_0_13, cp_0_12, cp_0_13, ci_0, cf_1_0, cf_1_1, cf_1_2, cf_1_3, cf_1_4, cp_1_1, cp_1_2, cp_1_3, cp_1_4, ci_1, cf_4_0, cf_4_1, cf_4_2, cf_4_3, cf_4_4, cf_4_5, cf_4_6, cf_4_7, cf_4_8, cf_4_9, cf_4_10, cp_4_0, cp_4_1, ci_4, cf_23_0, cf_23_1, cf_23_2, cf_23_3, cf_23_4, cf_23_5, cf_23_6, cf_23_7, cf_23_8, cf_23_9, cf_23_10, cp_23_0, cp_23_1, ci_23, cf_42_0, cf_42_1, cf_42_2, cf_42_3, cp_42_2, cp_42_3, ci_42, cf_47_0, cf_47_1, cf_47_2, cp_47_1, cp_47_2, ci_47, cf_50_0, cf_50_1, cf_50_2, ci_50, cf_57_0, cf_57_1, ci_57, cf_62_0, cf_62_1, ci_62, cf_67_0, cf_67_1, cf_67_2, cf_67_3, cf_67_4, cf_67_5, cp_67_1, cp_67_2, ci_67, cf_76_0, cf_76_1, cf_76_2, cf_76_3, cf_76_4, cf_76_5, cp_76_1, cp_76_2, cp_76_3, ci_76, a1, hF k (by omega), e1, a3, nI_1, a2, upd_n F k (k + 1) _ (by omega), hF (k + 1) (by omega), a4]
    exact i2
theorem C_kou (d : Nat) (σ : x_S) {n q M : Nat} (hq : q ≤ 100) (hM : M ≤ 1000000) (hn : n ≤ 20) : ∀ m e (F : Nat → Int32) (f f2 : Value), e + m = n → (∀ j, j < 21 → F j = nI (kou M q e j)) → ∃ F', (∀ j, j < 21 → F' j = nI (kou M q n j)) ∧ x_E x_P (d + 1) x_c107 21 [.ref 0, .int (nI n), .int (nI q), .int (nI e), f, f2] [] (CG (c_wa σ 84 F)) = some (none, CG (c_wa σ 84 F')) := by
  intro m
  induction m with
  | zero =>
    intro e F f f2 he hF
    obtain rfl : e = n := by omega
    refine ⟨F, hF, ?_⟩
    rw [s_107_21, if_pos (Int32.le_refl _), s_107_108]
  | succ m ih =>
    intro e F f f2 he hF
    have e0 : ¬ nI n ≤ nI e := nI_ge (by omega) (by omega)
    obtain ⟨F1, f', i1, i2⟩ := C_kin d σ (n := n) (e := e) hq hM (e + 1) F (kou M q e) f2 (by omega) hF (kou_sum M q hq e (by omega))
    obtain ⟨F', j1, j2⟩ := ih (e + 1) F1 (.int (nI 0 + (-1))) f' (by omega) i1
    refine ⟨F', j1, ?_⟩
    rw [s_107_21, if_neg e0, s_107_26]
    rw [pk_m1] at i2
    exact i2.trans j2
theorem M_kin (d : Nat) (μ : x_U) {n q e M : Nat} (hq : q ≤ 100) (hM : M ≤ 1000000) : ∀ k (F : Nat → Int32) (g : Nat → Nat) (f : Value), k ≤ 20 → (∀ j, j < 21 → F j = nI (g j)) → ksum g 21 = M → ∃ F' f', (∀ j, j < 21 → F' j = nI (kin q g k j)) ∧ x_E x_P d x_c168 68 [.ref 0, .int (nI n), .int (nI q), .int (nI e), .int (nI k + (-1)), f] [] (MG (m_wa μ 19 F)) = x_E x_P d x_c168 59 [.ref 0, .int (nI n), .int (nI q), .int (nI (e + 1)), .int (nI 0 + (-1)), f'] [] (MG (m_wa μ 19 F')) := by
  intro k
  induction k with
  | zero =>
    intro F g f hk hF hg
    have e0 : nI 0 + (-1) < 0 := by decide
    refine ⟨F, f, hF, ?_⟩
    rw [s_168_68, if_pos e0, s_168_119, nI_1]
  | succ k ih =>
    intro F g f hk hF hg
    have b1 := ksum_le g k 21 (by omega)
    have b2 : g k * q ≤ 1000000 * 100 := Nat.mul_le_mul (by omega) hq
    have e0 : ¬ nI k < 0 := nI_pos (by omega)
    have e1 := x_pc (a := g k) (q := q) (by omega)
    obtain ⟨F', f', i1, i2⟩ := ih (upd (upd F k (nI (g k) - nI (g k * q / 100))) (k + 1) (nI (g (k + 1)) + nI (g k * q / 100))) (kst q g k) (.int (nI (g k * q / 100))) (by omega) (kst_fn hq (by omega) hF) (by rw [(kst_sum q k g hq 21).2.2 (by omega), hg])
    refine ⟨F', f', i1, ?_⟩
    rw [pk_m1, s_168_68, if_neg e0]
    simp (disch := first | assumption | omega) only [s_168_73, s_168_77, s_168_80, s_168_91, s_168_95, s_168_99, s_168_103, s_168_109, s_168_113, Option.bind_some, x_tlv, x_tln, if_true, if_false, m_wa_1, m_wa_s, m_wb_1, m_wb_2, m_wb_s, m_ws_1, m_ws_b, m_ws_s, m_ws_e, m_we_1, m_we_b, m_we_s, m_we_e, mf_0, mf_1, mf_2, mf_3, mf_4, mf_5, mf_6, mf_7, mf_8, mf_9, mf_10, mf_11, mf_12, mf_13, mf_14, mf_15, mf_16, mf_17, mf_18, mf_19, mf_20, mf_21, mf_22, mf_23, mf_24, mf_25, mf_26, mf_27, mf_28, mf_29, mf_30, mp_4, mp_7, mp_9, mp_10, mp_12, mp_14, mp_15, mp_16, mp_17, mp_18, mp_19, mp_20, mi_0, md19n, mt19n, m_wa_wa, hF k (by omega), e1, nI_1, upd_n F k (k + 1) _ (by omega), hF (k + 1) (by omega)]
    exact i2
theorem M_kou (d : Nat) (μ : x_U) {n q M : Nat} (hq : q ≤ 100) (hM : M ≤ 1000000) (hn : n ≤ 20) : ∀ m e (F : Nat → Int32) (f f2 : Value), e + m = n → (∀ j, j < 21 → F j = nI (kou M q e j)) → ∃ F' f3 f4, (∀ j, j < 21 → F' j = nI (kou M q n j)) ∧ x_E x_P d x_c168 59 [.ref 0, .int (nI n), .int (nI q), .int (nI e), f, f2] [] (MG (m_wa μ 19 F)) = x_E x_P d x_c168 125 [.ref 0, .int (nI n), .int (nI q), .int (nI n), f3, f4] [] (MG (m_wa μ 19 F')) := by
  intro m
  induction m with
  | zero =>
    intro e F f f2 he hF
    obtain rfl : e = n := by omega
    refine ⟨F, f, f2, hF, ?_⟩
    rw [s_168_59, if_pos (Int32.le_refl _)]
  | succ m ih =>
    intro e F f f2 he hF
    have e0 : ¬ nI n ≤ nI e := nI_ge (by omega) (by omega)
    obtain ⟨F1, f', i1, i2⟩ := M_kin d μ (n := n) (e := e) hq hM 20 F (kou M q e) f2 (by omega) hF (kou_sum M q hq e (by omega))
    have i1' : ∀ j, j < 21 → F1 j = nI (kou M q (e + 1) j) := fun j hj => by
      rw [i1 j hj, kin_0 q e (kou M q e) (kou_sup M q e) (19 - e) 20 (by omega)]
      rfl
    obtain ⟨F', f3, f4, j1, j2⟩ := ih (e + 1) F1 (.int (nI 0 + (-1))) f' (by omega) i1'
    refine ⟨F', f3, f4, j1, ?_⟩
    rw [s_168_59, if_neg e0, s_168_64]
    rw [show nI 20 + (-1) = nI 19 from pk_m1 19] at i2
    exact i2.trans j2
theorem E_ini (d : Nat) (μ : x_U) (nn qq V : Int32) (hV : (1000000 : Int32) = V) : ∀ m k, k + m = 21 → x_E x_P d x_c168 29 [.ref 0, .int nn, .int qq, .int (nI k), x_j, x_j] [] (MG (m_wa μ 19 (fun j => if j < k then (if j = 0 then V else 0) else μ.1 19 j))) = x_E x_P d x_c168 59 [.ref 0, .int nn, .int qq, .int 0, x_j, x_j] [] (MG (m_wa μ 19 (fun j => if j < 21 then (if j = 0 then V else 0) else μ.1 19 j))) := by
  intro m
  induction m with
  | zero =>
    intro k hk
    obtain rfl : k = 21 := by omega
    have e : (21 : Int32) ≤ nI 21 := by decide
    rw [s_168_29, if_pos e, s_168_57]
  | succ m ih =>
    intro k hk
    have e : ¬ (21 : Int32) ≤ nI k := nI_ge (b := 21) (by omega) (by omega)
    have hu : ∀ v, (v = if k = 0 then V else 0) → upd (fun j => if j < k then (if j = 0 then V else 0) else μ.1 19 j) k v = (fun j => if j < k + 1 then (if j = 0 then V else 0) else μ.1 19 j) := by
      intro v hv
      funext j
      unfold upd
      by_cases h : j = k
      · subst h; rw [if_pos rfl, if_pos (by omega), hv]
      · rw [if_neg h]
        show (if j < k then (if j = 0 then V else 0) else μ.1 19 j) = _
        by_cases h2 : j < k
        · rw [if_pos h2, if_pos (show j < k + 1 by omega)]
        · rw [if_neg h2, if_neg (show ¬ j < k + 1 by omega)]
    by_cases hk0 : k = 0
    · have e0 : nI k = 0 := by rw [hk0]; rfl
      rw [s_168_29, if_neg e, s_168_35, mf_30, Option.bind_some, s_168_39, if_pos e0, s_168_44, hV, mt19n _ V (show k < 21 by omega), Option.bind_some, s_168_51, m_wa_wa, nI_1, m_wa_1, if_pos rfl]
      rw [hu V (by rw [if_pos hk0])]
      exact ih (k + 1) (by omega)
    · have e0 : ¬ nI k = 0 := nI_ne0 (by omega) (by omega)
      rw [s_168_29, if_neg e]
      simp (disch := first | assumption | omega) only [s_168_35, s_168_39, s_168_49, s_168_51, Option.bind_some, x_tlv, x_tln, if_true, if_false, m_wa_1, m_wa_s, m_wb_1, m_wb_2, m_wb_s, m_ws_1, m_ws_b, m_ws_s, m_ws_e, m_we_1, m_we_b, m_we_s, m_we_e, mf_0, mf_1, mf_2, mf_3, mf_4, mf_5, mf_6, mf_7, mf_8, mf_9, mf_10, mf_11, mf_12, mf_13, mf_14, mf_15, mf_16, mf_17, mf_18, mf_19, mf_20, mf_21, mf_22, mf_23, mf_24, mf_25, mf_26, mf_27, mf_28, mf_29, mf_30, mp_4, mp_7, mp_9, mp_10, mp_12, mp_14, mp_15, mp_16, mp_17, mp_18, mp_19, mp_20, mi_0, e0, mt19n, m_wa_wa, nI_1]
      rw [hu 0 (by rw [if_neg hk0])]
      exact ih (k + 1) (by omega)
theorem x_9 {S : Nat} (h : S < 2 ^ 31) : nI S < 900000 ↔ S < 900000 := by
  rw [x_lit 900000]; exact nI_ltI h (by omega)
theorem E_kept {σ : x_S} {μ : x_U} {g : Nat → Nat} {n : Nat} (dC d : Nat) (q : Int32) (hn : n ≤ 20) (h1 : 1 ≤ n) (hs : ksum g (n + 1) = ksum g 21) (hM : 900000 ≤ ksum g 21) (hM2 : ksum g 21 ≤ 1000000) (hC : ∀ j, j < 21 → σ.1 84 j = nI (g j)) (hm : ∀ j, j < 21 → μ.1 19 j = nI (g j)) : ∀ m k (f : Int32), k + m = n → ksum g k < 900000 → ∃ v : Int32, x_E x_P (dC + 1) x_c94 35 [.ref 0, .int (nI n), .int q, .int (nI (ksum g k)), .int (nI k)] [] (CG σ) = some (some (.int v), CG σ) ∧ x_E x_P d x_c168 133 [.ref 0, .int (nI n), .int q, .int (nI (ksum g k)), .int f, .int (nI k)] [] (MG μ) = some (some (.int v), MG μ) := by
  have hle : ∀ k, k ≤ 21 → ksum g k ≤ 1000000 := fun k hk => by
    have := ksum_mono g (21 - k) k
    rw [show k + (21 - k) = 21 by omega] at this
    omega
  have stp : ∀ k (f : Int32), k ≤ 20 → ksum g k < 900000 → x_E x_P d x_c168 133 [.ref 0, .int (nI n), .int q, .int (nI (ksum g k)), .int f, .int (nI k)] [] (MG μ) = x_E x_P d x_c168 133 [.ref 0, .int (nI n), .int q, .int (nI (ksum g (k + 1))), .int (nI k), .int (nI (k + 1))] [] (MG μ) := by
    intro k f hk hS
    have b := hle k (by omega)
    have e1 : ¬ (21 : Int32) ≤ nI k := nI_ge (b := 21) (by omega) (by omega)
    have e2 : ¬ (900000 : Int32) ≤ nI (ksum g k) := Int32.not_le.mpr ((x_9 (by omega)).mpr hS)
    rw [s_168_133, if_neg e1, s_168_140, if_neg e2]
    simp (disch := first | assumption | omega) only [s_168_146, s_168_151, s_168_154, Option.bind_some, x_tlv, x_tln, if_true, if_false, m_wa_1, m_wa_s, m_wb_1, m_wb_2, m_wb_s, m_ws_1, m_ws_b, m_ws_s, m_ws_e, m_we_1, m_we_b, m_we_s, m_we_e, mf_0, mf_1, mf_2, mf_3, mf_4, mf_5, mf_6, mf_7, mf_8, mf_9, mf_10, mf_11, mf_12, mf_13, mf_14, mf_15, mf_16, mf_17, mf_18, mf_19, mf_20, mf_21, mf_22, mf_23, mf_24, mf_25, mf_26, mf_27, mf_28, mf_29, mf_30, mp_4, mp_7, mp_9, mp_10, mp_12, mp_14, mp_15, mp_16, mp_17, mp_18, mp_19, mp_20, mi_0, md19n, hm k (by omega), nI_add, nI_1]
    rfl
  have fin : ∀ k (f : Int32), k ≤ 21 → 900000 ≤ ksum g k → x_E x_P d x_c168 133 [.ref 0, .int (nI n), .int q, .int (nI (ksum g k)), .int f, .int (nI k)] [] (MG μ) = some (some (.int f), MG μ) := by
    intro k f hk hS
    have b := hle k hk
    have e2 : (900000 : Int32) ≤ nI (ksum g k) := Int32.not_lt.mp fun z => absurd ((x_9 (by omega)).mp z) (by omega)
    rw [s_168_133]
    by_cases e1 : (21 : Int32) ≤ nI k
    · rw [if_pos e1, s_168_166]
    · rw [if_neg e1, s_168_140, if_pos e2, s_168_166]
  intro m
  induction m with
  | zero =>
    intro k f hk hS
    obtain rfl : k = n := by omega
    refine ⟨nI k, ?_, ?_⟩
    · rw [s_94_35, if_pos (Int32.le_refl _), s_94_68]
    · rw [stp k f hn hS]
      exact fin (k + 1) (nI k) (by omega) (by omega)
  | succ m ih =>
    intro k f hk hS
    have e0 : ¬ nI n ≤ nI k := nI_ge (by omega) (by omega)
    have b := hle (k + 1) (by omega)
    have a1 : c_at σ 83 (nI k) = nI (g k) := by rw [c_at_n (q := 83) (by show k < 21; omega)]; exact hC k (by omega)
    have a2 : nI (ksum g k) + nI (g k) = nI (ksum g (k + 1)) := nI_add _ _
    by_cases hS2 : ksum g (k + 1) < 900000
    · have e2 := (x_9 (show ksum g (k + 1) < 2 ^ 31 by omega)).mpr hS2
      obtain ⟨v, v1, v2⟩ := ih (k + 1) (nI k) (by omega) hS2
      refine ⟨v, ?_, ?_⟩
      · rw [s_94_35, if_neg e0]
        simp (decide := true) only [s_94_41, s_94_46, s_94_51, s_94_62, Option.bind_some, x_tlv, x_tln, if_true, if_false, cr_isa, R_at, R_has, R_size, R_put, R_isFull, R_add, R_clear, c_has_eq, c_wa_1, c_wa_2, c_ws_1, c_ws_2, cf_0_0, cf_0_1, cf_0_2, cf_0_3, cf_0_4, cf_0_5, cf_0_6, cf_0_7, cf_0_8, cf_0_9, cf_0_10, cf_0_11, cf_0_12, cf_0_13, cp_0_12, cp_0_13, ci_0, cf_1_0, cf_1_1, cf_1_2, cf_1_3, cf_1_4, cp_1_1, cp_1_2, cp_1_3, cp_1_4, ci_1, cf_4_0, cf_4_1, cf_4_2, cf_4_3, cf_4_4, cf_4_5, cf_4_6, cf_4_7, cf_4_8, cf_4_9, cf_4_10, cp_4_0, cp_4_1, ci_4, cf_23_0, cf_23_1, cf_23_2, cf_23_3, cf_23_4, cf_23_5, cf_23_6, cf_23_7, cf_23_8, cf_23_9, cf_23_10, cp_23_0, cp_23_1, ci_23, cf_42_0, cf_42_1, cf_42_2, cf_42_3, cp_42_2, cp_42_3, ci_42, cf_47_0, cf_47_1, cf_47_2, cp_47_1, cp_47_2, ci_47, cf_50_0, cf_50_1, cf_50_2, ci_50, cf_57_0, cf_57_1, ci_57, cf_62_0, cf_62_1, ci_62, cf_67_0, cf_67_1, cf_67_2, cf_67_3, cf_67_4, cf_67_5, cp_67_1, cp_67_2, ci_67, cf_76_0, cf_76_1, cf_76_2, cf_76_3, cf_76_4, cf_76_5, cp_76_1, cp_76_2, cp_76_3, ci_76, a1, a2, e2, nI_1]
        exact v1
      · rw [stp k f (by omega) hS]; exact v2
    · have e2 : ¬ nI (ksum g (k + 1)) < 900000 := fun z => hS2 ((x_9 (show ksum g (k + 1) < 2 ^ 31 by omega)).mp z)
      refine ⟨nI k, ?_, ?_⟩
      · rw [s_94_35, if_neg e0]
        simp (decide := true) only [s_94_41, s_94_46, s_94_51, s_94_59, Option.bind_some, x_tlv, x_tln, if_true, if_false, cr_isa, R_at, R_has, R_size, R_put, R_isFull, R_add, R_clear, c_has_eq, c_wa_1, c_wa_2, c_ws_1, c_ws_2, cf_0_0, cf_0_1, cf_0_2, cf_0_3, cf_0_4, cf_0_5, cf_0_6, cf_0_7, cf_0_8, cf_0_9, cf_0_10, cf_0_11, cf_0_12, cf_0_13, cp_0_12, cp_0_13, ci_0, cf_1_0, cf_1_1, cf_1_2, cf_1_3, cf_1_4, cp_1_1, cp_1_2, cp_1_3, cp_1_4, ci_1, cf_4_0, cf_4_1, cf_4_2, cf_4_3, cf_4_4, cf_4_5, cf_4_6, cf_4_7, cf_4_8, cf_4_9, cf_4_10, cp_4_0, cp_4_1, ci_4, cf_23_0, cf_23_1, cf_23_2, cf_23_3, cf_23_4, cf_23_5, cf_23_6, cf_23_7, cf_23_8, cf_23_9, cf_23_10, cp_23_0, cp_23_1, ci_23, cf_42_0, cf_42_1, cf_42_2, cf_42_3, cp_42_2, cp_42_3, ci_42, cf_47_0, cf_47_1, cf_47_2, cp_47_1, cp_47_2, ci_47, cf_50_0, cf_50_1, cf_50_2, ci_50, cf_57_0, cf_57_1, ci_57, cf_62_0, cf_62_1, ci_62, cf_67_0, cf_67_1, cf_67_2, cf_67_3, cf_67_4, cf_67_5, cp_67_1, cp_67_2, ci_67, cf_76_0, cf_76_1, cf_76_2, cf_76_3, cf_76_4, cf_76_5, cp_76_1, cp_76_2, cp_76_3, ci_76, a1, a2, e2]
      · rw [stp k f (by omega) hS]
        exact fin (k + 1) (nI k) (by omega) (by omega)
theorem sim_kept (n q : Int32) : Sim 94 168 [.int n, .int q] := Sim.of fun σ μ hS => by
  have hS' := hS
  obtain ⟨U, T, P, N, hc, hu, ht, hp, hw, hnow, hpa, hi, hl, hb, hx, hm⟩ := hS
  by_cases h1 : (1 : Int32) ≤ n ∧ n ≤ 20
  · obtain ⟨a, rfl, a1, a2⟩ := (x_rng 1 20 (by omega) (by omega)).mp h1
    have g1 : ¬ nI a < 1 := nI_nlt (b := 1) a1 (by omega)
    have g2 : ¬ (20 : Int32) < nI a := nI_nlt (a := 20) a2 (by omega)
    by_cases h2 : (0 : Int32) ≤ q ∧ q ≤ 100
    · obtain ⟨b, rfl, -, b2⟩ := (x_rng 0 100 (by omega) (by omega)).mp h2
      have g3 : ¬ nI b < 0 := nI_pos (by omega)
      have g4 : nI b ≤ 100 := h2.2
      obtain ⟨M, hM, hM1, hM2⟩ : ∃ M, (1000000 : Int32) = nI M ∧ M ≤ 1000000 ∧ 900000 ≤ M := ⟨1000000, x_lit _, Nat.le_refl _, by omega⟩
      have z0 : (0 : Int32) = nI 0 := rfl
      -- the class
      have a3 : c_pt (c_wa σ 84 (x_fl (σ.1 84) 0 21)) 83 0 (nI M) = c_wa σ 84 (upd (x_fl (σ.1 84) 0 21) 0 (nI M)) := c_pt_wa (q := 83) (i := 0) (by show 0 < 21; omega)
      have hF0 : ∀ j, j < 21 → upd (x_fl (σ.1 84) 0 21) 0 (nI M) j = nI (kou M b 0 j) := by
        intro j hj
        unfold upd x_fl kou
        by_cases h : j = 0
        · rw [if_pos h, if_pos h]
        · rw [if_neg h, if_neg h, if_pos hj]
          rfl
      obtain ⟨F1, i1, i2⟩ := C_kou 27 σ (n := a) (q := b) b2 hM1 a2 a 0 _ x_j x_j (by omega) hF0
      have hR : x_R x_P 29 107 [.ref 0, .int (nI a), .int (nI b)] (CG σ) = some (none, CG (c_wa σ 84 F1)) := by
        have hf := R_fill 27 σ 83 0 (by decide)
        simp (decide := true) only [r_107, s_107_0, s_107_4, s_107_8, Option.bind_some, x_tlv, x_tln, if_true, if_false, cr_isa, R_at, R_has, R_size, R_put, R_isFull, R_add, R_clear, c_has_eq, c_wa_1, c_wa_2, c_ws_1, c_ws_2, cf_0_0, cf_0_1, cf_0_2, cf_0_3, cf_0_4, cf_0_5, cf_0_6, cf_0_7, cf_0_8, cf_0_9, cf_0_10, cf_0_11, cf_0_12, cf_0_13, cp_0_12, cp_0_13, ci_0, cf_1_0, cf_1_1, cf_1_2, cf_1_3, cf_1_4, cp_1_1, cp_1_2, cp_1_3, cp_1_4, ci_1, cf_4_0, cf_4_1, cf_4_2, cf_4_3, cf_4_4, cf_4_5, cf_4_6, cf_4_7, cf_4_8, cf_4_9, cf_4_10, cp_4_0, cp_4_1, ci_4, cf_23_0, cf_23_1, cf_23_2, cf_23_3, cf_23_4, cf_23_5, cf_23_6, cf_23_7, cf_23_8, cf_23_9, cf_23_10, cp_23_0, cp_23_1, ci_23, cf_42_0, cf_42_1, cf_42_2, cf_42_3, cp_42_2, cp_42_3, ci_42, cf_47_0, cf_47_1, cf_47_2, cp_47_1, cp_47_2, ci_47, cf_50_0, cf_50_1, cf_50_2, ci_50, cf_57_0, cf_57_1, ci_57, cf_62_0, cf_62_1, ci_62, cf_67_0, cf_67_1, cf_67_2, cf_67_3, cf_67_4, cf_67_5, cp_67_1, cp_67_2, ci_67, cf_76_0, cf_76_1, cf_76_2, cf_76_3, cf_76_4, cf_76_5, cp_76_1, cp_76_2, cp_76_3, ci_76, hf, s_107_12, hM]
        rw [show c_room 83 = 21 from rfl]
        rw [a3]
        simp (decide := true) only [s_107_19]
        exact i2
      -- the model
      have hG0 : ∀ j, j < 21 → (fun j => if j < 21 then (if j = 0 then nI M else 0) else μ.1 19 j) j = nI (kou M b 0 j) := by
        intro j hj
        show (if j < 21 then (if j = 0 then nI M else 0) else μ.1 19 j) = nI (if j = 0 then M else 0)
        rw [if_pos hj]
        by_cases h : j = 0
        · rw [if_pos h, if_pos h]
        · rw [if_neg h, if_neg h]
          rfl
      obtain ⟨F2, f3, f4, k1, k2⟩ := M_kou 29 μ (n := a) (q := b) b2 hM1 a2 a 0 _ x_j x_j (by omega) hG0
      have k3 := E_ini 29 μ (nI a) (nI b) (nI M) hM 21 0 (by omega)
      have e19 : m_wa μ 19 (fun j => if j < 0 then (if j = 0 then nI M else 0) else μ.1 19 j) = μ := by
        have : (fun j => if j < 0 then (if j = 0 then nI M else 0) else μ.1 19 j) = μ.1 19 := by
          funext j
          rw [if_neg (by omega)]
        rw [this, m_wa_id]
      rw [e19] at k3
      have hs : ksum (kou M b a) (a + 1) = ksum (kou M b a) 21 := by
        have h := ksum_sup (kou M b a) a (kou_sup M b a) (20 - a)
        rw [show a + 1 + (20 - a) = 21 by omega] at h
        exact h.symm
      have hs2 : ksum (kou M b a) 21 = M := kou_sum M b b2 a a2
      obtain ⟨v, v1, v2⟩ := E_kept (σ := c_wa σ 84 F1) (μ := m_wa μ 19 F2) (g := kou M b a) 28 29 (nI b) a2 a1 hs (by omega) (by omega) i1 k1 a 0 0 (by omega) (by show 0 < 900000; omega)
      refine ⟨v, c_wa σ 84 F1, m_wa μ 19 F2, ?_, ?_, ?_⟩
      · simp (decide := true) only [r_94, s_94_0, s_94_5, s_94_11, s_94_15, s_94_24, Option.bind_some, x_tlv, x_tln, if_true, if_false, cr_isa, R_at, R_has, R_size, R_put, R_isFull, R_add, R_clear, c_has_eq, c_wa_1, c_wa_2, c_ws_1, c_ws_2, cf_0_0, cf_0_1, cf_0_2, cf_0_3, cf_0_4, cf_0_5, cf_0_6, cf_0_7, cf_0_8, cf_0_9, cf_0_10, cf_0_11, cf_0_12, cf_0_13, cp_0_12, cp_0_13, ci_0, cf_1_0, cf_1_1, cf_1_2, cf_1_3, cf_1_4, cp_1_1, cp_1_2, cp_1_3, cp_1_4, ci_1, cf_4_0, cf_4_1, cf_4_2, cf_4_3, cf_4_4, cf_4_5, cf_4_6, cf_4_7, cf_4_8, cf_4_9, cf_4_10, cp_4_0, cp_4_1, ci_4, cf_23_0, cf_23_1, cf_23_2, cf_23_3, cf_23_4, cf_23_5, cf_23_6, cf_23_7, cf_23_8, cf_23_9, cf_23_10, cp_23_0, cp_23_1, ci_23, cf_42_0, cf_42_1, cf_42_2, cf_42_3, cp_42_2, cp_42_3, ci_42, cf_47_0, cf_47_1, cf_47_2, cp_47_1, cp_47_2, ci_47, cf_50_0, cf_50_1, cf_50_2, ci_50, cf_57_0, cf_57_1, ci_57, cf_62_0, cf_62_1, ci_62, cf_67_0, cf_67_1, cf_67_2, cf_67_3, cf_67_4, cf_67_5, cp_67_1, cp_67_2, ci_67, cf_76_0, cf_76_1, cf_76_2, cf_76_3, cf_76_4, cf_76_5, cp_76_1, cp_76_2, cp_76_3, ci_76, g1, g2, g3, g4, hR, s_94_30]
        exact v1
      · simp (decide := true) only [r_168, s_168_0, s_168_9, s_168_12, s_168_21, s_168_27, Option.bind_some, x_tlv, x_tln, if_true, if_false, m_wa_1, m_wa_s, m_wb_1, m_wb_2, m_wb_s, m_ws_1, m_ws_b, m_ws_s, m_ws_e, m_we_1, m_we_b, m_we_s, m_we_e, mf_0, mf_1, mf_2, mf_3, mf_4, mf_5, mf_6, mf_7, mf_8, mf_9, mf_10, mf_11, mf_12, mf_13, mf_14, mf_15, mf_16, mf_17, mf_18, mf_19, mf_20, mf_21, mf_22, mf_23, mf_24, mf_25, mf_26, mf_27, mf_28, mf_29, mf_30, mp_4, mp_7, mp_9, mp_10, mp_12, mp_14, mp_15, mp_16, mp_17, mp_18, mp_19, mp_20, mi_0, M_in, x_w0, x_w1, x_w20, x_w100, x_wle, x_b_t h1, x_b_t h2]
        refine Eq.trans k3 (Eq.trans k2 ?_)
        rw [s_168_125]
        exact v2
      · exact ⟨U, T, P, N, hc, hu, ht, hp, hw, hnow, hpa, hi, hl, hb, hx, hm⟩
    · refine ⟨-1000000002, σ, μ, ?_, ?_, hS'⟩
      · simp (decide := true) only [r_94, s_94_0, s_94_5, s_94_11, s_94_15, s_94_21, g1, g2, if_true, if_false]
        by_cases h0 : q < 0
        · rw [if_pos h0]
        · rw [if_neg h0, if_neg (fun z => h2 ⟨Int32.not_lt.mp h0, z⟩)]
      · simp (decide := true) only [r_168, s_168_0, s_168_9, s_168_12, s_168_21, s_168_24, Option.bind_some, x_tlv, x_tln, if_true, if_false, m_wa_1, m_wa_s, m_wb_1, m_wb_2, m_wb_s, m_ws_1, m_ws_b, m_ws_s, m_ws_e, m_we_1, m_we_b, m_we_s, m_we_e, mf_0, mf_1, mf_2, mf_3, mf_4, mf_5, mf_6, mf_7, mf_8, mf_9, mf_10, mf_11, mf_12, mf_13, mf_14, mf_15, mf_16, mf_17, mf_18, mf_19, mf_20, mf_21, mf_22, mf_23, mf_24, mf_25, mf_26, mf_27, mf_28, mf_29, mf_30, mp_4, mp_7, mp_9, mp_10, mp_12, mp_14, mp_15, mp_16, mp_17, mp_18, mp_19, mp_20, mi_0, M_in, x_w0, x_w1, x_w20, x_w100, x_wle, x_b_t h1, x_b_f h2]
  · refine ⟨-1000000002, σ, μ, ?_, ?_, hS'⟩
    · simp (decide := true) only [r_94, s_94_0, s_94_5, s_94_21]
      by_cases h0 : n < 1
      · rw [if_pos h0]
      · rw [if_neg h0, if_pos (Int32.not_le.mp fun z => h1 ⟨Int32.not_lt.mp h0, z⟩)]
    · simp (decide := true) only [r_168, s_168_0, s_168_9, s_168_12, s_168_21, s_168_24, Option.bind_some, x_tlv, x_tln, if_true, if_false, m_wa_1, m_wa_s, m_wb_1, m_wb_2, m_wb_s, m_ws_1, m_ws_b, m_ws_s, m_ws_e, m_we_1, m_we_b, m_we_s, m_we_e, mf_0, mf_1, mf_2, mf_3, mf_4, mf_5, mf_6, mf_7, mf_8, mf_9, mf_10, mf_11, mf_12, mf_13, mf_14, mf_15, mf_16, mf_17, mf_18, mf_19, mf_20, mf_21, mf_22, mf_23, mf_24, mf_25, mf_26, mf_27, mf_28, mf_29, mf_30, mp_4, mp_7, mp_9, mp_10, mp_12, mp_14, mp_15, mp_16, mp_17, mp_18, mp_19, mp_20, mi_0, M_in, x_w0, x_w1, x_w20, x_w100, x_wle, x_b_f h1]
