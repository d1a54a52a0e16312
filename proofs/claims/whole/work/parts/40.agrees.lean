/-! heights: the model; agree, clash, slips -/
def HM (μ : x_U) (A B : Nat → Int64) : x_U := m_wb (m_wb μ 10 A) 11 B
theorem m_wb_wb (μ : x_U) (a : Nat) (f g : Nat → Int64) : m_wb (m_wb μ a f) a g = m_wb μ a g := by
  unfold m_wb
  congr 2
  funext q
  by_cases h : q = a <;> simp [h]
theorem m_wb_cm (μ : x_U) {a b : Nat} (h : a ≠ b) (f g : Nat → Int64) : m_wb (m_wb μ a f) b g = m_wb (m_wb μ b g) a f := by
  unfold m_wb
  congr 2
  funext q
  by_cases h1 : q = b
  · subst h1
    simp [Ne.symm h]
  · simp [h1]
theorem m_wb_id (μ : x_U) (a : Nat) : m_wb μ a (μ.2.1 a) = μ := by
  unfold m_wb
  have : (fun q => if q = a then μ.2.1 a else μ.2.1 q) = μ.2.1 := by
    funext q
    by_cases h : q = a <;> simp [h]
  rw [this]
theorem HM_id (μ : x_U) : HM μ (μ.2.1 10) (μ.2.1 11) = μ := by
  unfold HM
  rw [m_wb_id]
  exact m_wb_id μ 11
theorem HM_1 (μ : x_U) (F G f : Nat → Int64) : m_wb (HM μ F G) 10 f = HM μ f G := by
  unfold HM
  rw [m_wb_cm _ (by decide), m_wb_wb, m_wb_cm _ (by decide)]
theorem HM_2 (μ : x_U) (F G f : Nat → Int64) : m_wb (HM μ F G) 11 f = HM μ F f := by
  unfold HM
  rw [m_wb_wb]
theorem HM_a1 (μ : x_U) (F G : Nat → Int64) {k : Nat} (h : k < 6) : x_lld (MG (HM μ F G)) 10 (nI k) = some (F k) := md10n _ h
theorem HM_a2 (μ : x_U) (F G : Nat → Int64) {k : Nat} (h : k < 6) : x_lld (MG (HM μ F G)) 11 (nI k) = some (G k) := md11n _ h
theorem HM_p1 (μ : x_U) (F G : Nat → Int64) (v : Int64) {k : Nat} (h : k < 6) : x_lst (MG (HM μ F G)) 10 (nI k) v = some (MG (HM μ (vp_updL F k v) G)) := by rw [mt10n _ v h]; exact congrArg (fun z => some (MG z)) (HM_1 μ F G _)
theorem HM_p2 (μ : x_U) (F G : Nat → Int64) (v : Int64) {k : Nat} (h : k < 6) : x_lst (MG (HM μ F G)) 11 (nI k) v = some (MG (HM μ F (vp_updL G k v))) := by rw [mt11n _ v h]; exact congrArg (fun z => some (MG z)) (HM_2 μ F G _)
theorem HM_t (μ : x_U) (F G : Nat → Int64) {k : Nat} (h : k < 68) : x_ild (MG (HM μ F G)) 1 0 (nI k) = some (μ.1 1 k) := md1n _ h
theorem HM_3 (μ : x_U) (F G : Nat → Int64) : x_ild (MG (HM μ F G)) 1 0 3 = some (μ.1 1 3) := rfl
theorem HM_2' (μ : x_U) (F G : Nat → Int64) : x_ild (MG (HM μ F G)) 1 0 2 = some (μ.1 1 2) := rfl
def hrm (A B : Nat → Int64) (s : HS) : Prop := ∀ j, j < 6 → B j = lN (s.2 j) ∧ (s.2 j ≠ 0 → A j = lN (s.1 j))
theorem hrm_upd {A B : Nat → Int64} {s : HS} {q x y : Nat} (h : hrm A B s) : hrm (vp_updL A q (lN x)) (vp_updL B q (lN y)) (nupd s.1 q x, nupd s.2 q y) := by
  intro j hj
  show vp_updL B q (lN y) j = lN (if j = q then y else s.2 j) ∧ ((if j = q then y else s.2 j) ≠ 0 → vp_updL A q (lN x) j = lN (if j = q then x else s.1 j))
  unfold vp_updL
  by_cases e : j = q
  · rw [if_pos e, if_pos e, if_pos e, if_pos e]; exact ⟨rfl, fun _ => rfl⟩
  · rw [if_neg e, if_neg e, if_neg e, if_neg e]; exact h j hj
theorem lg_z {b : Nat} (h : b < 2 ^ 63) : lg_cmp (lN b) 0 = 0 ↔ b = 0 := by
  rw [lg_cmp_eq, x_litL 0, pk_lEQ h (by omega)]
theorem lg_zl {b : Nat} (h : b < 2 ^ 63) : lg_cmp (lN b) 0 ≤ 0 ↔ b = 0 := by
  rw [lg_cmp_le, x_litL 0, pk_lLE h (by omega)]; omega
theorem M_step {σ : x_S} {μ : x_U} {U T t : Nat} (d : Nat) (set c : Int32) (hU : U ≤ 6) (hT : T ≤ 8) (c4 : μ.1 1 3 = nI T) (htT : t < T) (B : TB σ μ U T t) {F G : Nat → Int64} {s : HS} (hb : bd s) (h : hrm F G s) (f g i k : Value) : ∃ F' G' f' g' i' k', hrm F' G' (stp μ set t s) ∧ x_E x_P (d + 1) x_c152 10 [.ref 0, .int set, .int c, .int (nI t), f, g, i, x_j, k, x_j] [] (MG (HM μ F G)) = x_E x_P (d + 1) x_c152 10 [.ref 0, .int set, .int c, .int (nI (t + 1)), f', g', i', x_j, k', x_j] [] (MG (HM μ F' G')) := by
  have fU := B.fU
  have o := B.tU
  have g2 := B.g2
  have h2 := B.h2
  have e0 : ¬ nI T ≤ nI t := nI_ge (by omega) (by omega)
  have v1 := fun F G => HM_t μ F G (k := 12 + t) (by omega)
  have v2 := fun F G => HM_t μ F G (k := 20 + t) (by omega)
  have v3 := fun F G => HM_t μ F G (k := 28 + t) (by omega)
  have v4 := fun F G => HM_t μ F G (k := 36 + t) (by omega)
  rw [B.fM] at v1
  rw [B.tM] at v2
  rw [B.gM] at v3
  rw [B.hM] at v4
  have l1 := nI_l (n := tGv μ t) (by omega)
  have l2 := nI_l (n := tGt μ t) (by omega)
  have b1 := fun F G => HM_a1 μ F G (show tFr μ t < 6 by omega)
  have b2 := fun F G => HM_a2 μ F G (show tFr μ t < 6 by omega)
  have b3 := fun F G => HM_a1 μ F G (show tTo μ t < 6 by omega)
  have b4 := fun F G => HM_a2 μ F G (show tTo μ t < 6 by omega)
  have p1 := fun F G v => HM_p1 μ F G v (show tFr μ t < 6 by omega)
  have p2 := fun F G v => HM_p2 μ F G v (show tFr μ t < 6 by omega)
  have p3 := fun F G v => HM_p1 μ F G v (show tTo μ t < 6 by omega)
  have p4 := fun F G v => HM_p2 μ F G v (show tTo μ t < 6 by omega)
  have q1 := bd_le2 hb (tFr μ t)
  have q2 := bd_le2 hb (tTo μ t)
  have w1 := (h (tFr μ t) (by omega)).1
  have w2 := (h (tTo μ t) (by omega)).1
  have z1 := lg_z (b := s.2 (tFr μ t)) (by omega)
  have z2 := lg_z (b := s.2 (tTo μ t)) (by omega)
  have y1 := lg_zl (b := s.2 (tFr μ t)) (by omega)
  have y2 := lg_zl (b := s.2 (tTo μ t)) (by omega)
  by_cases hs : ((set >>> (nI t &&& 31)) &&& 1) = 1
  · have e1 : stp μ set t s = rch μ t s := if_pos hs
    rw [e1]
    by_cases h1 : s.2 (tFr μ t) = 0
    · by_cases h3 : s.2 (tTo μ t) = 0
      · have e : rch μ t s = s := by
          unfold rch
          rw [if_neg (fun z => z.1 h1), if_neg (fun z => z.1 h3)]
        have y1' := y1.mpr h1
        have y2' := y2.mpr h3
        refine ⟨F, G, .int (nI (tFr μ t)), .int (nI (tTo μ t)), .long (lN (tGv μ t)), .long (lN (tGt μ t)), by rw [e]; exact h, ?_⟩
        rw [s_152_10]; simp (decide := true) only [s_152_0, s_152_8, s_152_15, s_152_17, s_152_20, s_152_24, s_152_29, s_152_35, s_152_40, s_152_46, s_152_51, s_152_58, s_152_63, s_152_71, s_152_74, s_152_78, s_152_81, s_152_86, s_152_90, s_152_93, s_152_98, s_152_102, s_152_108, s_152_111, s_152_115, s_152_119, s_152_125, s_152_128, s_152_132, s_152_135, s_152_140, s_152_143, s_152_147, s_152_150, s_152_155, s_152_159, s_152_162, s_152_167, s_152_171, s_152_177, s_152_180, s_152_184, s_152_188, s_152_194, s_152_197, s_152_201, s_152_207, s_152_213, Option.bind_some, x_tlv, x_tln, if_true, if_false, m_wa_1, m_wa_s, m_wb_1, m_wb_2, m_wb_s, m_ws_1, m_ws_b, m_ws_s, m_ws_e, m_we_1, m_we_b, m_we_s, m_we_e, mf_0, mf_1, mf_2, mf_3, mf_4, mf_5, mf_6, mf_7, mf_8, mf_9, mf_10, mf_11, mf_12, mf_13, mf_14, mf_15, mf_16, mf_17, mf_18, mf_19, mf_20, mf_21, mf_22, mf_23, mf_24, mf_25, mf_26, mf_27, mf_28, mf_29, mf_30, mp_4, mp_7, mp_9, mp_10, mp_12, mp_14, mp_15, mp_16, mp_17, mp_18, mp_19, mp_20, mi_0, HM_3, c4, e0, x_a12, x_a20, x_a28, x_a36, v1, v2, v3, v4, l1, l2, M_has, x_b_t hs, b2, b4, w1, w2, y1', y2', nI_1]
      · have e : rch μ t s = (nupd s.1 (tFr μ t) (s.1 (tTo μ t) * tGt μ t), nupd s.2 (tFr μ t) (s.2 (tTo μ t) * tGv μ t)) := by
          unfold rch
          rw [if_neg (fun z => z.1 h1), if_pos ⟨h3, h1⟩]
        have y1' := y1.mpr h1
        have y2' := (not_congr y2).mpr h3
        have z1' := z1.mpr h1
        have w3 := (h (tTo μ t) (by omega)).2 h3
        refine ⟨_, _, .int (nI (tFr μ t)), .int (nI (tTo μ t)), .long (lN (tGv μ t)), .long (lN (tGt μ t)), by rw [e]; exact hrm_upd h, ?_⟩
        rw [s_152_10]; simp (decide := true) only [s_152_0, s_152_8, s_152_15, s_152_17, s_152_20, s_152_24, s_152_29, s_152_35, s_152_40, s_152_46, s_152_51, s_152_58, s_152_63, s_152_71, s_152_74, s_152_78, s_152_81, s_152_86, s_152_90, s_152_93, s_152_98, s_152_102, s_152_108, s_152_111, s_152_115, s_152_119, s_152_125, s_152_128, s_152_132, s_152_135, s_152_140, s_152_143, s_152_147, s_152_150, s_152_155, s_152_159, s_152_162, s_152_167, s_152_171, s_152_177, s_152_180, s_152_184, s_152_188, s_152_194, s_152_197, s_152_201, s_152_207, s_152_213, Option.bind_some, x_tlv, x_tln, if_true, if_false, m_wa_1, m_wa_s, m_wb_1, m_wb_2, m_wb_s, m_ws_1, m_ws_b, m_ws_s, m_ws_e, m_we_1, m_we_b, m_we_s, m_we_e, mf_0, mf_1, mf_2, mf_3, mf_4, mf_5, mf_6, mf_7, mf_8, mf_9, mf_10, mf_11, mf_12, mf_13, mf_14, mf_15, mf_16, mf_17, mf_18, mf_19, mf_20, mf_21, mf_22, mf_23, mf_24, mf_25, mf_26, mf_27, mf_28, mf_29, mf_30, mp_4, mp_7, mp_9, mp_10, mp_12, mp_14, mp_15, mp_16, mp_17, mp_18, mp_19, mp_20, mi_0, HM_3, c4, e0, x_a12, x_a20, x_a28, x_a36, v1, v2, v3, v4, l1, l2, M_has, x_b_t hs, b2, b3, b4, w1, w2, w3, y1', y2', z1', lN_mul, p1, p2, nI_1]
    · by_cases h3 : s.2 (tTo μ t) = 0
      · have e : rch μ t s = (nupd s.1 (tTo μ t) (s.1 (tFr μ t) * tGv μ t), nupd s.2 (tTo μ t) (s.2 (tFr μ t) * tGt μ t)) := by
          unfold rch
          rw [if_pos ⟨h1, h3⟩]
        have y1' := (not_congr y1).mpr h1
        have z2' := z2.mpr h3
        have w3 := (h (tFr μ t) (by omega)).2 h1
        refine ⟨_, _, .int (nI (tFr μ t)), .int (nI (tTo μ t)), .long (lN (tGv μ t)), .long (lN (tGt μ t)), by rw [e]; exact hrm_upd h, ?_⟩
        rw [s_152_10]; simp (decide := true) only [s_152_0, s_152_8, s_152_15, s_152_17, s_152_20, s_152_24, s_152_29, s_152_35, s_152_40, s_152_46, s_152_51, s_152_58, s_152_63, s_152_71, s_152_74, s_152_78, s_152_81, s_152_86, s_152_90, s_152_93, s_152_98, s_152_102, s_152_108, s_152_111, s_152_115, s_152_119, s_152_125, s_152_128, s_152_132, s_152_135, s_152_140, s_152_143, s_152_147, s_152_150, s_152_155, s_152_159, s_152_162, s_152_167, s_152_171, s_152_177, s_152_180, s_152_184, s_152_188, s_152_194, s_152_197, s_152_201, s_152_207, s_152_213, Option.bind_some, x_tlv, x_tln, if_true, if_false, m_wa_1, m_wa_s, m_wb_1, m_wb_2, m_wb_s, m_ws_1, m_ws_b, m_ws_s, m_ws_e, m_we_1, m_we_b, m_we_s, m_we_e, mf_0, mf_1, mf_2, mf_3, mf_4, mf_5, mf_6, mf_7, mf_8, mf_9, mf_10, mf_11, mf_12, mf_13, mf_14, mf_15, mf_16, mf_17, mf_18, mf_19, mf_20, mf_21, mf_22, mf_23, mf_24, mf_25, mf_26, mf_27, mf_28, mf_29, mf_30, mp_4, mp_7, mp_9, mp_10, mp_12, mp_14, mp_15, mp_16, mp_17, mp_18, mp_19, mp_20, mi_0, HM_3, c4, e0, x_a12, x_a20, x_a28, x_a36, v1, v2, v3, v4, l1, l2, M_has, x_b_t hs, b1, b2, b4, w1, w2, w3, y1', z2', lN_mul, p3, p4, nI_1]
      · have e : rch μ t s = s := by
          unfold rch
          rw [if_neg (fun z => h3 z.2), if_neg (fun z => h1 z.2)]
        have y1' := (not_congr y1).mpr h1
        have y2' := (not_congr y2).mpr h3
        have z1' := (not_congr z1).mpr h1
        have z2' := (not_congr z2).mpr h3
        refine ⟨F, G, .int (nI (tFr μ t)), .int (nI (tTo μ t)), .long (lN (tGv μ t)), .long (lN (tGt μ t)), by rw [e]; exact h, ?_⟩
        rw [s_152_10]; simp (decide := true) only [s_152_0, s_152_8, s_152_15, s_152_17, s_152_20, s_152_24, s_152_29, s_152_35, s_152_40, s_152_46, s_152_51, s_152_58, s_152_63, s_152_71, s_152_74, s_152_78, s_152_81, s_152_86, s_152_90, s_152_93, s_152_98, s_152_102, s_152_108, s_152_111, s_152_115, s_152_119, s_152_125, s_152_128, s_152_132, s_152_135, s_152_140, s_152_143, s_152_147, s_152_150, s_152_155, s_152_159, s_152_162, s_152_167, s_152_171, s_152_177, s_152_180, s_152_184, s_152_188, s_152_194, s_152_197, s_152_201, s_152_207, s_152_213, Option.bind_some, x_tlv, x_tln, if_true, if_false, m_wa_1, m_wa_s, m_wb_1, m_wb_2, m_wb_s, m_ws_1, m_ws_b, m_ws_s, m_ws_e, m_we_1, m_we_b, m_we_s, m_we_e, mf_0, mf_1, mf_2, mf_3, mf_4, mf_5, mf_6, mf_7, mf_8, mf_9, mf_10, mf_11, mf_12, mf_13, mf_14, mf_15, mf_16, mf_17, mf_18, mf_19, mf_20, mf_21, mf_22, mf_23, mf_24, mf_25, mf_26, mf_27, mf_28, mf_29, mf_30, mp_4, mp_7, mp_9, mp_10, mp_12, mp_14, mp_15, mp_16, mp_17, mp_18, mp_19, mp_20, mi_0, HM_3, c4, e0, x_a12, x_a20, x_a28, x_a36, v1, v2, v3, v4, l1, l2, M_has, x_b_t hs, b2, b4, w1, w2, y1', y2', z1', z2', nI_1]
  · have e1 : stp μ set t s = s := if_neg hs
    refine ⟨F, G, .int (nI (tFr μ t)), .int (nI (tTo μ t)), .long (lN (tGv μ t)), .long (lN (tGt μ t)), by rw [e1]; exact h, ?_⟩
    rw [s_152_10]; simp (decide := true) only [s_152_0, s_152_8, s_152_15, s_152_17, s_152_20, s_152_24, s_152_29, s_152_35, s_152_40, s_152_46, s_152_51, s_152_58, s_152_63, s_152_71, s_152_74, s_152_78, s_152_81, s_152_86, s_152_90, s_152_93, s_152_98, s_152_102, s_152_108, s_152_111, s_152_115, s_152_119, s_152_125, s_152_128, s_152_132, s_152_135, s_152_140, s_152_143, s_152_147, s_152_150, s_152_155, s_152_159, s_152_162, s_152_167, s_152_171, s_152_177, s_152_180, s_152_184, s_152_188, s_152_194, s_152_197, s_152_201, s_152_207, s_152_213, Option.bind_some, x_tlv, x_tln, if_true, if_false, m_wa_1, m_wa_s, m_wb_1, m_wb_2, m_wb_s, m_ws_1, m_ws_b, m_ws_s, m_ws_e, m_we_1, m_we_b, m_we_s, m_we_e, mf_0, mf_1, mf_2, mf_3, mf_4, mf_5, mf_6, mf_7, mf_8, mf_9, mf_10, mf_11, mf_12, mf_13, mf_14, mf_15, mf_16, mf_17, mf_18, mf_19, mf_20, mf_21, mf_22, mf_23, mf_24, mf_25, mf_26, mf_27, mf_28, mf_29, mf_30, mp_4, mp_7, mp_9, mp_10, mp_12, mp_14, mp_15, mp_16, mp_17, mp_18, mp_19, mp_20, mi_0, HM_3, c4, e0, x_a12, x_a20, x_a28, x_a36, v1, v2, v3, v4, l1, l2, M_has, x_b_f hs, nI_1]
theorem M_rnd {σ : x_S} {μ : x_U} {U T : Nat} (d : Nat) (set c : Int32) (hU : U ≤ 6) (hT : T ≤ 8) (c4 : μ.1 1 3 = nI T) (ht : S_tab σ μ U T) : ∀ n t (F G : Nat → Int64) (s : HS) (f g i k : Value), t + n = T → bd s → hrm F G s → ∃ F' G' f' g' i' k', hrm F' G' (rnd μ set n t s) ∧ x_E x_P (d + 1) x_c152 10 [.ref 0, .int set, .int c, .int (nI t), f, g, i, x_j, k, x_j] [] (MG (HM μ F G)) = x_E x_P (d + 1) x_c152 207 [.ref 0, .int set, .int c, .int (nI T), f', g', i', x_j, k', x_j] [] (MG (HM μ F' G')) := by
  intro n
  induction n with
  | zero =>
    intro t F G s f g i k hn hb h
    obtain rfl : t = T := by omega
    refine ⟨F, G, f, g, i, k, h, ?_⟩
    rw [s_152_10]; simp (decide := true) only [s_152_15, s_152_17, Option.bind_some, x_tlv, x_tln, if_true, if_false, m_wa_1, m_wa_s, m_wb_1, m_wb_2, m_wb_s, m_ws_1, m_ws_b, m_ws_s, m_ws_e, m_we_1, m_we_b, m_we_s, m_we_e, mf_0, mf_1, mf_2, mf_3, mf_4, mf_5, mf_6, mf_7, mf_8, mf_9, mf_10, mf_11, mf_12, mf_13, mf_14, mf_15, mf_16, mf_17, mf_18, mf_19, mf_20, mf_21, mf_22, mf_23, mf_24, mf_25, mf_26, mf_27, mf_28, mf_29, mf_30, mp_4, mp_7, mp_9, mp_10, mp_12, mp_14, mp_15, mp_16, mp_17, mp_18, mp_19, mp_20, mi_0, HM_3, c4, Int32.le_refl]
  | succ n ih =>
    intro t F G s f g i k hn hb h
    have B := TB.of hU ht (show t < T by omega)
    obtain ⟨F1, G1, f1, g1, i1, k1, a1, a2⟩ := M_step d set c hU hT c4 (by omega) B hb h f g i k
    obtain ⟨F', G', f', g', i', k', j1, j2⟩ := ih (t + 1) F1 G1 _ f1 g1 i1 k1 (by omega) (stp_ok set hU B hb).1 a1
    exact ⟨F', G', f', g', i', k', j1, a2.trans j2⟩
theorem M_itr {σ : x_S} {μ : x_U} {U T : Nat} (d : Nat) (set : Int32) (hU : U ≤ 6) (hT : T ≤ 8) (c4 : μ.1 1 3 = nI T) (ht : S_tab σ μ U T) : ∀ n c (F G : Nat → Int64) (s : HS) (e f g i k : Value), c + n = 6 → bd s → hrm F G s → ∃ F' G', hrm F' G' (itr μ set T n s) ∧ x_E x_P (d + 1) x_c152 2 [.ref 0, .int set, .int (nI c), e, f, g, i, x_j, k, x_j] [] (MG (HM μ F G)) = some (none, MG (HM μ F' G')) := by
  intro n
  induction n with
  | zero =>
    intro c F G s e f g i k hn hb h
    obtain rfl : c = 6 := by omega
    have e6 : (6 : Int32) ≤ nI 6 := by decide
    exact ⟨F, G, h, by rw [s_152_2, if_pos e6, s_152_213]⟩
  | succ n ih =>
    intro c F G s e f g i k hn hb h
    have e6 : ¬ (6 : Int32) ≤ nI c := nI_ge (b := 6) (by omega) (by omega)
    obtain ⟨F1, G1, f1, g1, i1, k1, a1, a2⟩ := M_rnd d set (nI c) hU hT c4 ht T 0 F G s f g i k (by omega) hb h
    obtain ⟨F', G', j1, j2⟩ := ih (c + 1) F1 G1 (rnd μ set T 0 s) (.int (nI T)) f1 g1 i1 k1 (by omega) (rnd_ok set hU ht T 0 s (by omega) hb).1 a1
    refine ⟨F', G', j1, ?_⟩
    rw [s_152_2, if_neg e6, s_152_8]
    refine Eq.trans a2 ?_
    rw [s_152_207, nI_1]
    exact j2
theorem M_zero (d : Nat) (μ : x_U) (set : Int32) (F : Nat → Int64) : ∀ m k (G : Nat → Int64), k + m = 6 → (∀ j, j < k → G j = 0) → ∃ G', (∀ j, j < 6 → G' j = 0) ∧ x_E x_P d x_c153 2 [.ref 0, .int set, .int (nI k), x_j, x_j, x_j] [] (MG (HM μ F G)) = x_E x_P d x_c153 23 [.ref 0, .int set, .int 0, x_j, x_j, x_j] [] (MG (HM μ F G')) := by
  intro m
  induction m with
  | zero =>
    intro k G hk hG
    obtain rfl : k = 6 := by omega
    have e : (6 : Int32) ≤ nI 6 := by decide
    exact ⟨G, hG, by rw [s_153_2, if_pos e, s_153_21]⟩
  | succ m ih =>
    intro k G hk hG
    have e : ¬ (6 : Int32) ≤ nI k := nI_ge (b := 6) (by omega) (by omega)
    obtain ⟨G', j1, j2⟩ := ih (k + 1) (vp_updL G k 0) (by omega) (fun j hj => by
      unfold vp_updL
      by_cases h : j = k
      · rw [if_pos h]
      · rw [if_neg h]; exact hG j (by omega))
    refine ⟨G', j1, ?_⟩
    have p1 := HM_p2 μ F G 0 (k := k) (by omega)
    rw [s_153_2, if_neg e, s_153_8, mf_22, Option.bind_some, s_153_12, p1, Option.bind_some, s_153_15, nI_1]
    exact j2
theorem M_usl {σ : x_S} {μ : x_U} {U T : Nat} (d : Nat) (set : Int32) (hU : U ≤ 6) (hT : T ≤ 8) (c3 : μ.1 1 2 = nI U) (c4 : μ.1 1 3 = nI T) (ht : S_tab σ μ U T) : ∀ n u (F G : Nat → Int64) (s : HS), u + n = U → bd s → hrm F G s → ∃ F' G', hrm F' G' (usl μ set T n u s) ∧ x_E x_P (d + 2) x_c153 23 [.ref 0, .int set, .int (nI u), x_j, x_j, x_j] [] (MG (HM μ F G)) = x_E x_P (d + 2) x_c153 73 [.ref 0, .int set, .int 1, .int (nI 0), x_j, x_j] [] (MG (HM μ F' G')) := by
  intro n
  induction n with
  | zero =>
    intro u F G s hn hb h
    obtain rfl : u = U := by omega
    refine ⟨F, G, h, ?_⟩
    rw [s_153_23]; simp (decide := true) only [s_153_28, s_153_30, s_153_69, Option.bind_some, x_tlv, x_tln, if_true, if_false, m_wa_1, m_wa_s, m_wb_1, m_wb_2, m_wb_s, m_ws_1, m_ws_b, m_ws_s, m_ws_e, m_we_1, m_we_b, m_we_s, m_we_e, mf_0, mf_1, mf_2, mf_3, mf_4, mf_5, mf_6, mf_7, mf_8, mf_9, mf_10, mf_11, mf_12, mf_13, mf_14, mf_15, mf_16, mf_17, mf_18, mf_19, mf_20, mf_21, mf_22, mf_23, mf_24, mf_25, mf_26, mf_27, mf_28, mf_29, mf_30, mp_4, mp_7, mp_9, mp_10, mp_12, mp_14, mp_15, mp_16, mp_17, mp_18, mp_19, mp_20, mi_0, HM_2', c3, Int32.le_refl]
    rfl
  | succ n ih =>
    intro u F G s hn hb h
    have e0 : ¬ nI U ≤ nI u := nI_ge (by omega) (by omega)
    have b2 := HM_a2 μ F G (show u < 6 by omega)
    rw [(h u (by omega)).1] at b2
    have q := bd_le2 hb u
    by_cases h0 : s.2 u = 0
    · have z := (lg_z (b := s.2 u) (by omega)).mpr h0
      have p1 := HM_p1 μ F G 1 (show u < 6 by omega)
      have p2 := HM_p2 μ (vp_updL F u 1) G 1 (show u < 6 by omega)
      have hb1 := bd_nt1 (by omega) h0 hb
      have h1 : hrm (vp_updL F u 1) (vp_updL G u 1) (nt1 s u) := hrm_upd (x := 1) (y := 1) h
      obtain ⟨F1, G1, i1, i2⟩ := M_itr d set hU hT c4 ht 6 0 (vp_updL F u 1) (vp_updL G u 1) (nt1 s u) x_j x_j x_j x_j x_j (by omega) hb1 h1
      have r1 : x_R x_P (d + 2) 152 [.ref 0, .int set] (MG (HM μ (vp_updL F u 1) (vp_updL G u 1))) = some (none, MG (HM μ F1 G1)) := by
        rw [r_152, s_152_0]; exact i2
      obtain ⟨F', G', j1, j2⟩ := ih (u + 1) F1 G1 (itr μ set T 6 (nt1 s u)) (by omega) (itr_ok set hU ht 6 _ hb1).1 i1
      refine ⟨F', G', by show hrm F' G' (usl μ set T n (u + 1) (if s.2 u = 0 then itr μ set T 6 (nt1 s u) else s)); rw [if_pos h0]; exact j1, ?_⟩
      rw [s_153_23]; simp (decide := true) only [s_153_28, s_153_30, s_153_33, s_153_37, s_153_39, s_153_44, s_153_48, s_153_51, s_153_55, s_153_58, s_153_63, Option.bind_some, x_tlv, x_tln, if_true, if_false, m_wa_1, m_wa_s, m_wb_1, m_wb_2, m_wb_s, m_ws_1, m_ws_b, m_ws_s, m_ws_e, m_we_1, m_we_b, m_we_s, m_we_e, mf_0, mf_1, mf_2, mf_3, mf_4, mf_5, mf_6, mf_7, mf_8, mf_9, mf_10, mf_11, mf_12, mf_13, mf_14, mf_15, mf_16, mf_17, mf_18, mf_19, mf_20, mf_21, mf_22, mf_23, mf_24, mf_25, mf_26, mf_27, mf_28, mf_29, mf_30, mp_4, mp_7, mp_9, mp_10, mp_12, mp_14, mp_15, mp_16, mp_17, mp_18, mp_19, mp_20, mi_0, HM_2', c3, e0, b2, z, p1, p2, r1, nI_1]
      exact j2
    · have z := (not_congr (lg_z (b := s.2 u) (by omega))).mpr h0
      obtain ⟨F', G', j1, j2⟩ := ih (u + 1) F G s (by omega) hb h
      refine ⟨F', G', by show hrm F' G' (usl μ set T n (u + 1) (if s.2 u = 0 then itr μ set T 6 (nt1 s u) else s)); rw [if_neg h0]; exact j1, ?_⟩
      rw [s_153_23]; simp (decide := true) only [s_153_28, s_153_30, s_153_33, s_153_37, s_153_39, s_153_63, Option.bind_some, x_tlv, x_tln, if_true, if_false, m_wa_1, m_wa_s, m_wb_1, m_wb_2, m_wb_s, m_ws_1, m_ws_b, m_ws_s, m_ws_e, m_we_1, m_we_b, m_we_s, m_we_e, mf_0, mf_1, mf_2, mf_3, mf_4, mf_5, mf_6, mf_7, mf_8, mf_9, mf_10, mf_11, mf_12, mf_13, mf_14, mf_15, mf_16, mf_17, mf_18, mf_19, mf_20, mf_21, mf_22, mf_23, mf_24, mf_25, mf_26, mf_27, mf_28, mf_29, mf_30, mp_4, mp_7, mp_9, mp_10, mp_12, mp_14, mp_15, mp_16, mp_17, mp_18, mp_19, mp_20, mi_0, HM_2', c3, e0, b2, z, nI_1]
      exact j2
theorem M_chk {σ : x_S} {μ : x_U} {U T : Nat} (d : Nat) (set : Int32) (hU : U ≤ 6) (hT : T ≤ 8) (c4 : μ.1 1 3 = nI T) (ht : S_tab σ μ U T) {F G : Nat → Int64} {s : HS} (hb : bd s) (hk : ∀ j, j < U → s.2 j ≠ 0) (h : hrm F G s) : ∀ n t (c : Int32) (f g : Value), t + n = T → (c = 0 ∨ c = 1) → ∃ r : Int32, (r = 0 ∨ r = 1) ∧ (r = 1 ↔ c = 1 ∧ ∀ w, t ≤ w → w < T → ((set >>> (nI w &&& 31)) &&& 1) = 1 → hok μ w s) ∧ x_E x_P (d + 1) x_c153 73 [.ref 0, .int set, .int c, .int (nI t), f, g] [] (MG (HM μ F G)) = some (some (.int r), MG (HM μ F G)) := by
  intro n
  induction n with
  | zero =>
    intro t c f g hn hc
    obtain rfl : t = T := by omega
    have e1 : c &&& 1 = c := by rcases hc with rfl | rfl <;> decide
    refine ⟨c, hc, ⟨fun z => ⟨z, fun w h1 h2 => by omega⟩, fun z => z.1⟩, ?_⟩
    rw [s_153_73]; simp (decide := true) only [s_153_78, s_153_80, s_153_185, Option.bind_some, x_tlv, x_tln, if_true, if_false, m_wa_1, m_wa_s, m_wb_1, m_wb_2, m_wb_s, m_ws_1, m_ws_b, m_ws_s, m_ws_e, m_we_1, m_we_b, m_we_s, m_we_e, mf_0, mf_1, mf_2, mf_3, mf_4, mf_5, mf_6, mf_7, mf_8, mf_9, mf_10, mf_11, mf_12, mf_13, mf_14, mf_15, mf_16, mf_17, mf_18, mf_19, mf_20, mf_21, mf_22, mf_23, mf_24, mf_25, mf_26, mf_27, mf_28, mf_29, mf_30, mp_4, mp_7, mp_9, mp_10, mp_12, mp_14, mp_15, mp_16, mp_17, mp_18, mp_19, mp_20, mi_0, HM_3, c4, Int32.le_refl, e1]
  | succ n ih =>
    intro t c f g hn hc
    have e0 : ¬ nI T ≤ nI t := nI_ge (by omega) (by omega)
    have B := TB.of hU ht (show t < T by omega)
    have fU := B.fU
    have o := B.tU
    have g2 := B.g2
    have h2 := B.h2
    have v1 := HM_t μ F G (k := 12 + t) (by omega)
    have v2 := HM_t μ F G (k := 20 + t) (by omega)
    have v3 := HM_t μ F G (k := 28 + t) (by omega)
    have v4 := HM_t μ F G (k := 36 + t) (by omega)
    rw [B.fM] at v1
    rw [B.tM] at v2
    rw [B.gM] at v3
    rw [B.hM] at v4
    have l1 := nI_l (n := tGv μ t) (by omega)
    have l2 := nI_l (n := tGt μ t) (by omega)
    have b1 := HM_a1 μ F G (show tFr μ t < 6 by omega)
    have b2 := HM_a2 μ F G (show tFr μ t < 6 by omega)
    have b3 := HM_a1 μ F G (show tTo μ t < 6 by omega)
    have b4 := HM_a2 μ F G (show tTo μ t < 6 by omega)
    rw [(h _ (by omega)).2 (hk _ fU)] at b1
    rw [(h _ (by omega)).1] at b2
    rw [(h _ (by omega)).2 (hk _ o)] at b3
    rw [(h _ (by omega)).1] at b4
    have hh := (lg_cmp_eq (lN (tGv μ t) * lN (s.1 (tFr μ t)) * lN (s.2 (tTo μ t))) (lN (tGt μ t) * lN (s.1 (tTo μ t)) * lN (s.2 (tFr μ t)))).trans (hok_l B hb hk)
    rcases hc with rfl | rfl
    · obtain ⟨r, r1, r2, r3⟩ := ih (t + 1) 0 (.int (nI (tFr μ t))) (.int (nI (tTo μ t))) (by omega) (Or.inl rfl)
      refine ⟨r, r1, r2.trans ⟨fun z => absurd z.1 (by decide), fun z => absurd z.1 (by decide)⟩, ?_⟩
      rw [s_153_73]; simp (decide := true) only [s_153_78, s_153_80, s_153_83, s_153_87, s_153_92, s_153_98, s_153_103, s_153_177, Option.bind_some, x_tlv, x_tln, if_true, if_false, m_wa_1, m_wa_s, m_wb_1, m_wb_2, m_wb_s, m_ws_1, m_ws_b, m_ws_s, m_ws_e, m_we_1, m_we_b, m_we_s, m_we_e, mf_0, mf_1, mf_2, mf_3, mf_4, mf_5, mf_6, mf_7, mf_8, mf_9, mf_10, mf_11, mf_12, mf_13, mf_14, mf_15, mf_16, mf_17, mf_18, mf_19, mf_20, mf_21, mf_22, mf_23, mf_24, mf_25, mf_26, mf_27, mf_28, mf_29, mf_30, mp_4, mp_7, mp_9, mp_10, mp_12, mp_14, mp_15, mp_16, mp_17, mp_18, mp_19, mp_20, mi_0, HM_3, c4, e0, x_a12, x_a20, v1, v2, nI_1]
      exact r3
    · by_cases hs : ((set >>> (nI t &&& 31)) &&& 1) = 1
      · by_cases ho : hok μ t s
        · have e := hh.mpr ho
          obtain ⟨r, r1, r2, r3⟩ := ih (t + 1) 1 (.int (nI (tFr μ t))) (.int (nI (tTo μ t))) (by omega) (Or.inr rfl)
          refine ⟨r, r1, r2.trans ⟨fun z => ⟨rfl, fun w h1 h2 h3 => ?_⟩, fun z => ⟨rfl, fun w h1 h2 => z.2 w (by omega) h2⟩⟩, ?_⟩
          · by_cases hw : w = t
            · rw [hw]; exact ho
            · exact z.2 w (by omega) h2 h3
          · rw [s_153_73]; simp (decide := true) only [s_153_78, s_153_80, s_153_83, s_153_87, s_153_92, s_153_98, s_153_103, s_153_109, s_153_114, s_153_117, s_153_121, s_153_126, s_153_131, s_153_134, s_153_139, s_153_142, s_153_147, s_153_152, s_153_157, s_153_160, s_153_165, s_153_168, s_153_173, Option.bind_some, x_tlv, x_tln, if_true, if_false, m_wa_1, m_wa_s, m_wb_1, m_wb_2, m_wb_s, m_ws_1, m_ws_b, m_ws_s, m_ws_e, m_we_1, m_we_b, m_we_s, m_we_e, mf_0, mf_1, mf_2, mf_3, mf_4, mf_5, mf_6, mf_7, mf_8, mf_9, mf_10, mf_11, mf_12, mf_13, mf_14, mf_15, mf_16, mf_17, mf_18, mf_19, mf_20, mf_21, mf_22, mf_23, mf_24, mf_25, mf_26, mf_27, mf_28, mf_29, mf_30, mp_4, mp_7, mp_9, mp_10, mp_12, mp_14, mp_15, mp_16, mp_17, mp_18, mp_19, mp_20, mi_0, HM_3, c4, e0, x_a12, x_a20, x_a28, x_a36, v1, v2, v3, v4, l1, l2, b1, b2, b3, b4, M_has, x_b_t hs, e, nI_1]
            exact r3
        · have e := (not_congr hh).mpr ho
          obtain ⟨r, r1, r2, r3⟩ := ih (t + 1) 0 (.int (nI (tFr μ t))) (.int (nI (tTo μ t))) (by omega) (Or.inl rfl)
          refine ⟨r, r1, r2.trans ⟨fun z => absurd z.1 (by decide), fun z => absurd (z.2 t (Nat.le_refl _) (by omega) hs) ho⟩, ?_⟩
          rw [s_153_73]; simp (decide := true) only [s_153_78, s_153_80, s_153_83, s_153_87, s_153_92, s_153_98, s_153_103, s_153_109, s_153_114, s_153_117, s_153_121, s_153_126, s_153_131, s_153_134, s_153_139, s_153_142, s_153_147, s_153_152, s_153_157, s_153_160, s_153_165, s_153_168, s_153_177, Option.bind_some, x_tlv, x_tln, if_true, if_false, m_wa_1, m_wa_s, m_wb_1, m_wb_2, m_wb_s, m_ws_1, m_ws_b, m_ws_s, m_ws_e, m_we_1, m_we_b, m_we_s, m_we_e, mf_0, mf_1, mf_2, mf_3, mf_4, mf_5, mf_6, mf_7, mf_8, mf_9, mf_10, mf_11, mf_12, mf_13, mf_14, mf_15, mf_16, mf_17, mf_18, mf_19, mf_20, mf_21, mf_22, mf_23, mf_24, mf_25, mf_26, mf_27, mf_28, mf_29, mf_30, mp_4, mp_7, mp_9, mp_10, mp_12, mp_14, mp_15, mp_16, mp_17, mp_18, mp_19, mp_20, mi_0, HM_3, c4, e0, x_a12, x_a20, x_a28, x_a36, v1, v2, v3, v4, l1, l2, b1, b2, b3, b4, M_has, x_b_t hs, e, nI_1]
          exact r3
      · obtain ⟨r, r1, r2, r3⟩ := ih (t + 1) 1 (.int (nI (tFr μ t))) (.int (nI (tTo μ t))) (by omega) (Or.inr rfl)
        refine ⟨r, r1, r2.trans ⟨fun z => ⟨rfl, fun w h1 h2 h3 => ?_⟩, fun z => ⟨rfl, fun w h1 h2 => z.2 w (by omega) h2⟩⟩, ?_⟩
        · by_cases hw : w = t
          · subst hw; exact absurd h3 hs
          · exact z.2 w (by omega) h2 h3
        · rw [s_153_73]; simp (decide := true) only [s_153_78, s_153_80, s_153_83, s_153_87, s_153_92, s_153_98, s_153_103, s_153_109, s_153_114, s_153_173, Option.bind_some, x_tlv, x_tln, if_true, if_false, m_wa_1, m_wa_s, m_wb_1, m_wb_2, m_wb_s, m_ws_1, m_ws_b, m_ws_s, m_ws_e, m_we_1, m_we_b, m_we_s, m_we_e, mf_0, mf_1, mf_2, mf_3, mf_4, mf_5, mf_6, mf_7, mf_8, mf_9, mf_10, mf_11, mf_12, mf_13, mf_14, mf_15, mf_16, mf_17, mf_18, mf_19, mf_20, mf_21, mf_22, mf_23, mf_24, mf_25, mf_26, mf_27, mf_28, mf_29, mf_30, mp_4, mp_7, mp_9, mp_10, mp_12, mp_14, mp_15, mp_16, mp_17, mp_18, mp_19, mp_20, mi_0, HM_3, c4, e0, x_a12, x_a20, v1, v2, M_has, x_b_f hs, nI_1]
          exact r3
theorem M_fit {σ : x_S} {μ : x_U} {U T : Nat} (d : Nat) (set : Int32) (hU : U ≤ 6) (hT : T ≤ 8) (c3 : μ.1 1 2 = nI U) (c4 : μ.1 1 3 = nI T) (ht : S_tab σ μ U T) (F G : Nat → Int64) : ∃ F' G' r, (r = 0 ∨ r = 1) ∧ (r = 1 ↔ hag μ set U T) ∧ x_R x_P (d + 3) 153 [.ref 0, .int set] (MG (HM μ F G)) = some (some (.int r), MG (HM μ F' G')) := by
  obtain ⟨G0, z1, z2⟩ := M_zero (d + 2) μ set F 6 0 G (by omega) (fun j hj => absurd hj (Nat.not_lt_zero j))
  have h0 : hrm F G0 (fun _ => 0, fun _ => 0) := fun j hj => ⟨z1 j hj, fun z => absurd rfl z⟩
  obtain ⟨F1, G1, i1, i2⟩ := M_usl d set hU hT c3 c4 ht U 0 F G0 _ (by omega) bd_0 h0
  obtain ⟨b1, b2⟩ := usl_ok set hU ht U 0 _ (by omega) bd_0 (fun j hj => absurd hj (Nat.not_lt_zero j))
  obtain ⟨r, r1, r2, r3⟩ := M_chk (d + 1) set hU hT c4 ht b1 b2 i1 T 0 1 x_j x_j (by omega) (Or.inr rfl)
  refine ⟨F1, G1, r, r1, r2.trans ⟨fun z t h1 h2 => z.2 t (by omega) h1 h2, fun z => ⟨rfl, fun t _ h1 h2 => z t h1 h2⟩⟩, ?_⟩
  rw [r_153, s_153_0]
  exact z2.trans (i2.trans r3)
