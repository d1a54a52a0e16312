/-! turn -/
theorem c_ws_id (σ : x_S) (q k : Nat) : c_ws σ q k (σ.2 q k) = σ := by
  unfold c_ws
  have : (fun x => if x = q then (fun j => if j = k then σ.2 q k else σ.2 q j) else σ.2 x) = σ.2 := by
    funext x
    by_cases h : x = q
    · subst h
      rw [if_pos rfl]
      funext j
      by_cases hj : j = k
      · subst hj; rw [if_pos rfl]
      · rw [if_neg hj]
    · rw [if_neg h]
  rw [this]
theorem x_mn {n m : Nat} (hn : n < 2 ^ 31) (hm : m < 2 ^ 31) : (if nI m < nI n then nI m else nI n) = nI (if m < n then m else n) := by
  by_cases h : m < n
  · rw [if_pos h, if_pos (nI_lt h hn)]
  · rw [if_neg h, if_neg (nI_nlt (a := m) (b := n) (by omega) hm)]
theorem x_mx {n m : Nat} (hn : n < 2 ^ 31) (hm : m < 2 ^ 31) : (if nI n ≤ nI m then nI n else nI m) = nI (if m < n then m else n) := by
  by_cases h : m < n
  · rw [if_pos h, if_neg (nI_ge h hn)]
  · rw [if_neg h, if_pos (nI_le (by omega) hm)]
theorem R_turned (d : Nat) (σ : x_S) {t k g h : Nat} (ht : t < 8) (hg : 0 < g) (hg2 : g < 2 ^ 31) (hk : k * h < 2 ^ 31) (h1 : σ.1 12 t = nI g) (h2 : σ.1 14 t = nI h) : x_R x_P (d + 2) 63 [.ref 4, .int (nI t), .int (nI k)] (CG σ) = some (some (.int (nI (k * h / g))), CG σ) := by
  have a1 : c_at σ 13 (nI t) = nI h := by rw [c_at_n (q := 13) (by show t < 8; omega), h2]
  have a2 : c_at σ 11 (nI t) = nI g := by rw [c_at_n (q := 11) (by show t < 8; omega), h1]
  have a3 : c_quo (nI (k * h)) (nI g) = nI (k * h / g) := by rw [c_quo_t (nI_ne0 hg hg2), pk_div hk hg hg2]
  simp (decide := true) only [r_63, s_63_0, s_63_5, s_63_9, s_63_14, s_63_18, s_63_21, Option.bind_some, x_tlv, x_tln, if_true, if_false, cr_isa, R_at, R_has, R_size, R_put, R_isFull, R_add, R_clear, c_has_eq, c_wa_1, c_wa_2, c_ws_1, c_ws_2, cf_0_0, cf_0_1, cf_0_2, cf_0_3, cf_0_4, cf_0_5, cf_0_6, cf_0_7, cf_0_8, cf_0_9, cf_0_10, cf_0_11, cf_0_12, cf_0_13, cp_0_12, cp_0_13, ci_0, cf_1_0, cf_1_1, cf_1_2, cf_1_3, cf_1_4, cp_1_1, cp_1_2, cp_1_3, cp_1_4, ci_1, cf_4_0, cf_4_1, cf_4_2, cf_4_3, cf_4_4, cf_4_5, cf_4_6, cf_4_7, cf_4_8, cf_4_9, cf_4_10, cp_4_0, cp_4_1, ci_4, cf_23_0, cf_23_1, cf_23_2, cf_23_3, cf_23_4, cf_23_5, cf_23_6, cf_23_7, cf_23_8, cf_23_9, cf_23_10, cp_23_0, cp_23_1, ci_23, cf_42_0, cf_42_1, cf_42_2, cf_42_3, cp_42_2, cp_42_3, ci_42, cf_47_0, cf_47_1, cf_47_2, cp_47_1, cp_47_2, ci_47, cf_50_0, cf_50_1, cf_50_2, ci_50, cf_57_0, cf_57_1, ci_57, cf_62_0, cf_62_1, ci_62, cf_67_0, cf_67_1, cf_67_2, cf_67_3, cf_67_4, cf_67_5, cp_67_1, cp_67_2, ci_67, cf_76_0, cf_76_1, cf_76_2, cf_76_3, cf_76_4, cf_76_5, cp_76_1, cp_76_2, cp_76_3, ci_76, a1, a2, R_quot, pk_mul, a3]
theorem x_due {v D : Nat} (hD : D < 100) (hv : v * D < 2 ^ 31) : nI v - nI v * nI D / 100 = nI (v - v * D / 100) := by
  have h : v * D ≤ v * 100 := Nat.mul_le_mul_left v (by omega)
  rw [pk_mul, show (100 : Int32) = nI 100 from rfl, pk_div hv (by omega) (by omega), pk_sub (by omega)]
theorem M_turned (d : Nat) (μ : x_U) {t k g h D : Nat} (ht : t < 8) (hg : 0 < g) (hg2 : g < 2 ^ 31) (hk : k * h < 2 ^ 31) (hD : D < 100) (hv : k * h / g * D < 2 ^ 31) (h1 : μ.1 1 (28 + t) = nI g) (h2 : μ.1 1 (36 + t) = nI h) : x_R x_P (d + 1) 145 [.ref 0, .int (nI k), .int (nI t), .int (nI D)] (MG μ) = some (some (.int (nI (k * h / g - k * h / g * D / 100))), MG μ) := by
  have a3 : ¬ nI g = 0 := nI_ne0 hg hg2
  simp (disch := first | decide | omega) only [r_145, s_145_0, s_145_5, s_145_10, s_145_15, s_145_20, s_145_21, Option.bind_some, x_tlv, x_tln, if_true, if_false, m_wa_1, m_wa_s, m_wb_1, m_wb_2, m_wb_s, m_ws_1, m_ws_b, m_ws_s, m_ws_e, m_we_1, m_we_b, m_we_s, m_we_e, mf_0, mf_1, mf_2, mf_3, mf_4, mf_5, mf_6, mf_7, mf_8, mf_9, mf_10, mf_11, mf_12, mf_13, mf_14, mf_15, mf_16, mf_17, mf_18, mf_19, mf_20, mf_21, mf_22, mf_23, mf_24, mf_25, mf_26, mf_27, mf_28, mf_29, mf_30, mp_4, mp_7, mp_9, mp_10, mp_12, mp_14, mp_15, mp_16, mp_17, mp_18, mp_19, mp_20, mi_0, x_a28, x_a36, md1n, h1, h2, pk_mul]
  simp only [a3, not_false_eq_true, if_true]
  rw [pk_div hk hg hg2, x_due hD hv]
theorem M_bound (d : Nat) (h : x_H) (a b : Int32) : x_R x_P (d + 1) 143 [.int a, .int b] h = some (some (.int (if a ≤ b then a else b)), h) := by
  rw [r_143, s_143_0]
  by_cases z : a ≤ b
  · rw [if_pos z, if_pos z, s_143_9]
  · rw [if_neg z, if_neg z, s_143_5]
def c_tn (σ : x_S) (p : Nat) (L u w : Int32) : x_S := c_wa (c_wa (c_ws σ 42 3 w) 44 (upd (σ.1 44) p L)) 46 (upd (σ.1 46) p u)
def m_tn (μ : x_U) (p : Nat) (L u w : Int32) : x_U := m_wa μ 3 (upd (upd (upd (μ.1 3) p L) (6 + p) u) 13 w)
theorem tn_blk {σ : x_S} {μ : x_U} {U P p : Nat} {L u w : Int32} (hP : P ≤ 6) (hp : p < P) (hL : Rg L 0 9999) (hu : Rl u U) (hw : Rg w 0 999999) (nb : blk P U (n14 σ) (μ.1 3)) : blk P U (n14 (c_tn σ p L u w)) ((m_tn μ p L u w).1 3) := by
  refine blk_congr hP (fun z hz => ?_) (fun z hz => rfl) (blk_13 hP hw (blk_use hP hp hu (blk_len hP hp hL nb)))
  show n14 (c_wa (c_wa (c_ws σ 42 3 w) 44 (upd (σ.1 44) p L)) 46 (upd (σ.1 46) p u)) z = _
  rw [show c_wa (c_wa (c_ws σ 42 3 w) 44 (upd (σ.1 44) p L)) 46 (upd (σ.1 46) p u) = c_ws (c_wa (c_wa σ 44 (upd (σ.1 44) p L)) 46 (upd ((c_wa σ 44 (upd (σ.1 44) p L)).1 46) p u)) 42 3 w from rfl, n14_s3 _ hz]
  unfold upd
  by_cases h : z = 13
  · rw [if_pos h, if_pos h]
  · rw [if_neg h, if_neg h]
    have e := n14_46 (c_wa σ 44 (upd (σ.1 44) p L)) (p := p) (k := z) (v := u) (by omega)
    have e2 := n14_44 σ (p := p) (k := z) (v := L) (by omega)
    unfold upd at e e2
    rw [e, e2]
theorem turn_sim {σ : x_S} {μ : x_U} {U T P N p t : Nat} (hc : S_cnt σ μ U T P N) (hu : S_use σ μ U) (ht : S_tab σ μ U T) (nb : blk P U (n14 σ) (μ.1 3)) (hp : p < P) (htT : t < T) : ∃ L u w, Rg L 0 9999 ∧ Rl u U ∧ Rg w 0 999999 ∧ (∀ d, x_R x_P (d + 3) 10 [.ref 42, .ref 4, .int (nI p), .int (nI t)] (CG σ) = some (none, CG (c_tn σ p L u w))) ∧ (∀ d, x_R x_P (d + 2) 146 [.ref 0, .int (nI p), .int (nI t)] (MG μ) = some (none, MG (m_tn μ p L u w))) := by
  obtain ⟨⟨hU, hT, hP, hN⟩, c1, ⟨c2, D, c2', D1, D2⟩, c3, c4, c5, c6⟩ := hc
  obtain ⟨⟨-, -⟩, ⟨t1, b, t2, t3⟩, ⟨t4, g, t5, t6, t7⟩, ⟨t8, h, t9, t10, t11⟩⟩ := ht t htT
  obtain ⟨a, ha, ha2, hy, hK⟩ := blk_yards hU hP hu nb hp
  obtain ⟨b1, ⟨L0, b2, b3, b4⟩, b5⟩ := nb.1 p hp
  rw [n14_l σ (by omega)] at b1
  obtain ⟨w1, w, w2, w3, w4⟩ := nb.2.2.1
  rw [n14_w] at w1
  obtain ⟨u1, y, u2, u3, u4⟩ := hu a ha
  obtain ⟨v1, z, v2, v3, v4⟩ := hu b t3
  have hK2 : c_whole σ (nI p) = nI (L0 / y) := by rw [hK, b2, u2, pk_div (by omega) (by omega) (by omega)]
  have e1 : L0 / y ≤ 9999 := Nat.le_trans (Nat.div_le_self _ _) b4
  have e2 : L0 / y * h ≤ 9999 * 20 := Nat.mul_le_mul e1 t11
  have e3 : L0 / y * h / g ≤ 9999 * 20 := Nat.le_trans (Nat.div_le_self _ _) e2
  have e4 : L0 / y * h / g * D ≤ 9999 * 20 * 99 := Nat.mul_le_mul e3 D2
  generalize hv : L0 / y * h / g = v at e3 e4
  have e5 : v - v * D / 100 ≤ 9999 * 20 := by omega
  have e6 : (v - v * D / 100) * z ≤ 9999 * 20 * 99 := Nat.mul_le_mul e5 v4
  have f1 : nI v - nI v * nI D / 100 = nI (v - v * D / 100) := x_due (by omega) (by omega)
  generalize hq : v - v * D / 100 = q at e5 e6 f1
  have f2 : (if (9999 : Int32) < nI q * nI z then 9999 else nI q * nI z) = nI (if 9999 < q * z then 9999 else q * z) := by rw [x_lit 9999, pk_mul]; exact x_mn (by omega) (by omega)
  have f3 : (if nI q * nI z ≤ (9999 : Int32) then nI q * nI z else 9999) = nI (if 9999 < q * z then 9999 else q * z) := by rw [x_lit 9999, pk_mul]; exact x_mx (by omega) (by omega)
  have e7 : (if 9999 < q * z then 9999 else q * z) ≤ 9999 := by split <;> omega
  generalize hL : (if 9999 < q * z then 9999 else q * z) = L at e7 f2 f3
  have a1 : c_at σ 9 (nI t) = nI b := by rw [c_at_n (q := 9) (by show t < 8; omega), t1, t2]
  have a2 : c_at σ 5 (nI b) = nI z := by rw [c_at_n (q := 5) (by show b < 6; omega), v1, v2]
  have a3 : c_at σ 43 (nI p) = nI L0 := by rw [c_at_n (q := 43) (by show p < 6; omega), b1, b2]
  have hR := fun d => R_turned d σ (k := L0 / y) (by omega) (by omega) (by omega) (by omega) (t4.trans t5) (t8.trans t9) (t := t)
  have hM := fun d => M_turned d μ (k := L0 / y) (D := D) (t := t) (by omega) (by omega) (by omega) (by omega) (by omega) (by rw [hv]; omega) t5 t9
  rw [hv] at hR hM
  rw [hq] at hM
  have hMy := fun d => M_yards d μ (show p < 6 by omega) (show a < 6 by omega) ha2 hy
  rw [show μ.1 3 p / μ.1 1 (6 + a) = nI (L0 / y) from hK.symm.trans hK2] at hMy
  have p1 : ∀ w', c_pt (c_ws σ 42 3 w') 43 (nI p) (nI L) = c_wa (c_ws σ 42 3 w') 44 (upd (σ.1 44) p (nI L)) := fun w' => c_pt_n (q := 43) (by show p < 6; omega)
  have p2 : ∀ w', c_pt (c_wa (c_ws σ 42 3 w') 44 (upd (σ.1 44) p (nI L))) 45 (nI p) (nI b) = c_tn σ p (nI L) (nI b) w' := fun w' => c_pt_n (q := 45) (by show p < 6; omega)
  by_cases hless : L < L0
  · have g1 : ¬ nI L0 - nI L ≤ 0 := by rw [pk_sub (by omega)]; exact nI_nle (by omega) (by omega)
    have g2 : ¬ nI L0 ≤ nI L := nI_ge hless (by omega)
    have f4 : (if (999999 : Int32) < nI w + (nI L0 - nI L) then 999999 else nI w + (nI L0 - nI L)) = nI (if 999999 < w + (L0 - L) then 999999 else w + (L0 - L)) := by
      rw [x_lit 999999, pk_sub (by omega), nI_add]; exact x_mn (by omega) (by omega)
    have f5 : (if nI w + nI L0 - nI L ≤ (999999 : Int32) then nI w + nI L0 - nI L else 999999) = nI (if 999999 < w + (L0 - L) then 999999 else w + (L0 - L)) := by
      rw [x_lit 999999, nI_add, pk_sub (by omega), show w + L0 - L = w + (L0 - L) by omega]; exact x_mx (by omega) (by omega)
    refine ⟨nI L, nI b, nI (if 999999 < w + (L0 - L) then 999999 else w + (L0 - L)), ⟨L, rfl, by omega, e7⟩, ⟨b, rfl, t3⟩, ⟨_, rfl, by omega, by split <;> omega⟩, fun d => ?_, fun d => ?_⟩
    · simp (decide := true) only [r_10, s_10_0, s_10_4, s_10_8, s_10_18, s_10_21, s_10_31, s_10_44, s_10_49, s_10_62, s_10_66, s_10_76, s_10_81, s_10_92, s_10_96, s_10_102, s_10_106, s_10_112, Option.bind_some, x_tlv, x_tln, if_true, if_false, cr_isa, R_at, R_has, R_size, R_put, R_isFull, R_add, R_clear, c_has_eq, c_wa_1, c_wa_2, c_ws_1, c_ws_2, cf_0_0, cf_0_1, cf_0_2, cf_0_3, cf_0_4, cf_0_5, cf_0_6, cf_0_7, cf_0_8, cf_0_9, cf_0_10, cf_0_11, cf_0_12, cf_0_13, cp_0_12, cp_0_13, ci_0, cf_1_0, cf_1_1, cf_1_2, cf_1_3, cf_1_4, cp_1_1, cp_1_2, cp_1_3, cp_1_4, ci_1, cf_4_0, cf_4_1, cf_4_2, cf_4_3, cf_4_4, cf_4_5, cf_4_6, cf_4_7, cf_4_8, cf_4_9, cf_4_10, cp_4_0, cp_4_1, ci_4, cf_23_0, cf_23_1, cf_23_2, cf_23_3, cf_23_4, cf_23_5, cf_23_6, cf_23_7, cf_23_8, cf_23_9, cf_23_10, cp_23_0, cp_23_1, ci_23, cf_42_0, cf_42_1, cf_42_2, cf_42_3, cp_42_2, cp_42_3, ci_42, cf_47_0, cf_47_1, cf_47_2, cp_47_1, cp_47_2, ci_47, cf_50_0, cf_50_1, cf_50_2, ci_50, cf_57_0, cf_57_1, ci_57, cf_62_0, cf_62_1, ci_62, cf_67_0, cf_67_1, cf_67_2, cf_67_3, cf_67_4, cf_67_5, cp_67_1, cp_67_2, ci_67, cf_76_0, cf_76_1, cf_76_2, cf_76_3, cf_76_4, cf_76_5, cp_76_1, cp_76_2, cp_76_3, ci_76, a1, R_whole, hK2, hR, c2, c2', f1, a2, f2, a3, g1, w1, w2, f4, p1, p2]
    · simp (disch := first | decide | omega) only [r_146, s_146_0, s_146_4, s_146_8, s_146_13, s_146_18, s_146_26, s_146_31, s_146_33, s_146_36, s_146_40, s_146_46, s_146_53, s_146_59, s_146_65, s_146_69, s_146_76, s_146_80, s_146_88, s_146_92, s_146_95, s_146_105, s_146_108, s_146_112, s_146_115, s_146_116, Option.bind_some, x_tlv, x_tln, if_true, if_false, m_wa_1, m_wa_s, m_wb_1, m_wb_2, m_wb_s, m_ws_1, m_ws_b, m_ws_s, m_ws_e, m_we_1, m_we_b, m_we_s, m_we_e, mf_0, mf_1, mf_2, mf_3, mf_4, mf_5, mf_6, mf_7, mf_8, mf_9, mf_10, mf_11, mf_12, mf_13, mf_14, mf_15, mf_16, mf_17, mf_18, mf_19, mf_20, mf_21, mf_22, mf_23, mf_24, mf_25, mf_26, mf_27, mf_28, mf_29, mf_30, mp_4, mp_7, mp_9, mp_10, mp_12, mp_14, mp_15, mp_16, mp_17, mp_18, mp_19, mp_20, mi_0, x_a0, x_a6, x_a20, md3n, md1n, b2, t2, hMy, md1_1, c2', hM, v2, M_bound, f3, mt3n, m_wa_wa, g2, md3_13, upd_n, w2, f5, mt3_13]
      rfl
  · have g1 : nI L0 - nI L ≤ 0 := by
      rw [Int32.le_iff_toInt_le, pk_sub_toInt (by omega) (by omega)]
      have : (0 : Int32).toInt = 0 := rfl
      omega
    have g2 : nI L0 ≤ nI L := nI_le (by omega) (by omega)
    have q1 : c_pt σ 43 (nI p) (nI L) = c_pt (c_ws σ 42 3 (nI w)) 43 (nI p) (nI L) := by rw [← w2, ← w1, c_ws_id]
    refine ⟨nI L, nI b, nI w, ⟨L, rfl, by omega, e7⟩, ⟨b, rfl, t3⟩, ⟨w, rfl, w3, w4⟩, fun d => ?_, fun d => ?_⟩
    · simp (decide := true) only [r_10, s_10_0, s_10_4, s_10_8, s_10_18, s_10_21, s_10_31, s_10_44, s_10_49, s_10_62, s_10_66, s_10_76, s_10_81, s_10_92, s_10_96, s_10_102, s_10_106, s_10_112, Option.bind_some, x_tlv, x_tln, if_true, if_false, cr_isa, R_at, R_has, R_size, R_put, R_isFull, R_add, R_clear, c_has_eq, c_wa_1, c_wa_2, c_ws_1, c_ws_2, cf_0_0, cf_0_1, cf_0_2, cf_0_3, cf_0_4, cf_0_5, cf_0_6, cf_0_7, cf_0_8, cf_0_9, cf_0_10, cf_0_11, cf_0_12, cf_0_13, cp_0_12, cp_0_13, ci_0, cf_1_0, cf_1_1, cf_1_2, cf_1_3, cf_1_4, cp_1_1, cp_1_2, cp_1_3, cp_1_4, ci_1, cf_4_0, cf_4_1, cf_4_2, cf_4_3, cf_4_4, cf_4_5, cf_4_6, cf_4_7, cf_4_8, cf_4_9, cf_4_10, cp_4_0, cp_4_1, ci_4, cf_23_0, cf_23_1, cf_23_2, cf_23_3, cf_23_4, cf_23_5, cf_23_6, cf_23_7, cf_23_8, cf_23_9, cf_23_10, cp_23_0, cp_23_1, ci_23, cf_42_0, cf_42_1, cf_42_2, cf_42_3, cp_42_2, cp_42_3, ci_42, cf_47_0, cf_47_1, cf_47_2, cp_47_1, cp_47_2, ci_47, cf_50_0, cf_50_1, cf_50_2, ci_50, cf_57_0, cf_57_1, ci_57, cf_62_0, cf_62_1, ci_62, cf_67_0, cf_67_1, cf_67_2, cf_67_3, cf_67_4, cf_67_5, cp_67_1, cp_67_2, ci_67, cf_76_0, cf_76_1, cf_76_2, cf_76_3, cf_76_4, cf_76_5, cp_76_1, cp_76_2, cp_76_3, ci_76, a1, R_whole, hK2, hR, c2, c2', f1, a2, f2, a3, g1, q1, p1, p2]
    · simp (disch := first | decide | omega) only [r_146, s_146_0, s_146_4, s_146_8, s_146_13, s_146_18, s_146_26, s_146_31, s_146_33, s_146_36, s_146_40, s_146_46, s_146_53, s_146_59, s_146_65, s_146_69, s_146_76, s_146_80, s_146_88, s_146_92, s_146_95, s_146_105, s_146_108, s_146_112, s_146_115, s_146_116, Option.bind_some, x_tlv, x_tln, if_true, if_false, m_wa_1, m_wa_s, m_wb_1, m_wb_2, m_wb_s, m_ws_1, m_ws_b, m_ws_s, m_ws_e, m_we_1, m_we_b, m_we_s, m_we_e, mf_0, mf_1, mf_2, mf_3, mf_4, mf_5, mf_6, mf_7, mf_8, mf_9, mf_10, mf_11, mf_12, mf_13, mf_14, mf_15, mf_16, mf_17, mf_18, mf_19, mf_20, mf_21, mf_22, mf_23, mf_24, mf_25, mf_26, mf_27, mf_28, mf_29, mf_30, mp_4, mp_7, mp_9, mp_10, mp_12, mp_14, mp_15, mp_16, mp_17, mp_18, mp_19, mp_20, mi_0, x_a0, x_a6, x_a20, md3n, md1n, b2, t2, hMy, md1_1, c2', hM, v2, M_bound, f3, mt3n, m_wa_wa, g2, md3_13, upd_n, w2, mt3_13]
      rfl
theorem sim_turn (p t : Int32) : Sim 81 147 [.int p, .int t] := Sim.of fun σ μ hS => by
  have hS' := hS
  obtain ⟨U, T, P, N, hc, hu, ht, hp, hw, ⟨n1, n2, nb⟩, hpa, hi, hl, hb, hx, hm⟩ := hS
  have hc' := hc
  obtain ⟨⟨hU, hT, hP, hN⟩, c1, c2, c3, c4, c5, c6⟩ := hc'
  rcases x_hv_cases (U := P) (by omega) p with h | ⟨k, hk, rfl, h⟩
  · refine ⟨-1000000001, σ, μ, ?_, ?_, hS'⟩
    · simp (decide := true) only [r_81, s_81_0, s_81_4, s_81_7, s_81_11, s_81_14, s_81_18, s_81_21, s_81_25, s_81_28, s_81_31, s_81_35, s_81_38, s_81_42, s_81_46, s_81_49, s_81_53, s_81_56, s_81_59, s_81_63, s_81_67, s_81_70, s_81_74, s_81_78, s_81_83, s_81_87, s_81_90, s_81_94, Option.bind_some, x_tlv, x_tln, if_true, if_false, cr_isa, R_at, R_has, R_size, R_put, R_isFull, R_add, R_clear, c_has_eq, c_wa_1, c_wa_2, c_ws_1, c_ws_2, cf_0_0, cf_0_1, cf_0_2, cf_0_3, cf_0_4, cf_0_5, cf_0_6, cf_0_7, cf_0_8, cf_0_9, cf_0_10, cf_0_11, cf_0_12, cf_0_13, cp_0_12, cp_0_13, ci_0, cf_1_0, cf_1_1, cf_1_2, cf_1_3, cf_1_4, cp_1_1, cp_1_2, cp_1_3, cp_1_4, ci_1, cf_4_0, cf_4_1, cf_4_2, cf_4_3, cf_4_4, cf_4_5, cf_4_6, cf_4_7, cf_4_8, cf_4_9, cf_4_10, cp_4_0, cp_4_1, ci_4, cf_23_0, cf_23_1, cf_23_2, cf_23_3, cf_23_4, cf_23_5, cf_23_6, cf_23_7, cf_23_8, cf_23_9, cf_23_10, cp_23_0, cp_23_1, ci_23, cf_42_0, cf_42_1, cf_42_2, cf_42_3, cp_42_2, cp_42_3, ci_42, cf_47_0, cf_47_1, cf_47_2, cp_47_1, cp_47_2, ci_47, cf_50_0, cf_50_1, cf_50_2, ci_50, cf_57_0, cf_57_1, ci_57, cf_62_0, cf_62_1, ci_62, cf_67_0, cf_67_1, cf_67_2, cf_67_3, cf_67_4, cf_67_5, cp_67_1, cp_67_2, ci_67, cf_76_0, cf_76_1, cf_76_2, cf_76_3, cf_76_4, cf_76_5, cp_76_1, cp_76_2, cp_76_3, ci_76, c5.2, h]
    · simp (decide := true) only [r_147, s_147_0, s_147_5, s_147_8, s_147_13, s_147_16, s_147_19, s_147_23, s_147_28, s_147_32, s_147_37, s_147_40, s_147_43, s_147_47, s_147_53, s_147_57, s_147_61, Option.bind_some, x_tlv, x_tln, if_true, if_false, m_wa_1, m_wa_s, m_wb_1, m_wb_2, m_wb_s, m_ws_1, m_ws_b, m_ws_s, m_ws_e, m_we_1, m_we_b, m_we_s, m_we_e, mf_0, mf_1, mf_2, mf_3, mf_4, mf_5, mf_6, mf_7, mf_8, mf_9, mf_10, mf_11, mf_12, mf_13, mf_14, mf_15, mf_16, mf_17, mf_18, mf_19, mf_20, mf_21, mf_22, mf_23, mf_24, mf_25, mf_26, mf_27, mf_28, mf_29, mf_30, mp_4, mp_7, mp_9, mp_10, mp_12, mp_14, mp_15, mp_16, mp_17, mp_18, mp_19, mp_20, mi_0, M_isPiece _ _ (show P < 1000 by omega) c5.1, h]
  rcases x_hv_cases (U := T) (by omega) t with h2 | ⟨s, hs, rfl, h2⟩
  · refine ⟨-1000000001, σ, μ, ?_, ?_, hS'⟩
    · simp (decide := true) only [r_81, s_81_0, s_81_4, s_81_7, s_81_11, s_81_14, s_81_18, s_81_21, s_81_25, s_81_28, s_81_31, s_81_35, s_81_38, s_81_42, s_81_46, s_81_49, s_81_53, s_81_56, s_81_59, s_81_63, s_81_67, s_81_70, s_81_74, s_81_78, s_81_83, s_81_87, s_81_90, s_81_94, Option.bind_some, x_tlv, x_tln, if_true, if_false, cr_isa, R_at, R_has, R_size, R_put, R_isFull, R_add, R_clear, c_has_eq, c_wa_1, c_wa_2, c_ws_1, c_ws_2, cf_0_0, cf_0_1, cf_0_2, cf_0_3, cf_0_4, cf_0_5, cf_0_6, cf_0_7, cf_0_8, cf_0_9, cf_0_10, cf_0_11, cf_0_12, cf_0_13, cp_0_12, cp_0_13, ci_0, cf_1_0, cf_1_1, cf_1_2, cf_1_3, cf_1_4, cp_1_1, cp_1_2, cp_1_3, cp_1_4, ci_1, cf_4_0, cf_4_1, cf_4_2, cf_4_3, cf_4_4, cf_4_5, cf_4_6, cf_4_7, cf_4_8, cf_4_9, cf_4_10, cp_4_0, cp_4_1, ci_4, cf_23_0, cf_23_1, cf_23_2, cf_23_3, cf_23_4, cf_23_5, cf_23_6, cf_23_7, cf_23_8, cf_23_9, cf_23_10, cp_23_0, cp_23_1, ci_23, cf_42_0, cf_42_1, cf_42_2, cf_42_3, cp_42_2, cp_42_3, ci_42, cf_47_0, cf_47_1, cf_47_2, cp_47_1, cp_47_2, ci_47, cf_50_0, cf_50_1, cf_50_2, ci_50, cf_57_0, cf_57_1, ci_57, cf_62_0, cf_62_1, ci_62, cf_67_0, cf_67_1, cf_67_2, cf_67_3, cf_67_4, cf_67_5, cp_67_1, cp_67_2, ci_67, cf_76_0, cf_76_1, cf_76_2, cf_76_3, cf_76_4, cf_76_5, cp_76_1, cp_76_2, cp_76_3, ci_76, c5.2, h, c4.2, h2]
    · simp (decide := true) only [r_147, s_147_0, s_147_5, s_147_8, s_147_13, s_147_16, s_147_19, s_147_23, s_147_28, s_147_32, s_147_37, s_147_40, s_147_43, s_147_47, s_147_53, s_147_57, s_147_61, Option.bind_some, x_tlv, x_tln, if_true, if_false, m_wa_1, m_wa_s, m_wb_1, m_wb_2, m_wb_s, m_ws_1, m_ws_b, m_ws_s, m_ws_e, m_we_1, m_we_b, m_we_s, m_we_e, mf_0, mf_1, mf_2, mf_3, mf_4, mf_5, mf_6, mf_7, mf_8, mf_9, mf_10, mf_11, mf_12, mf_13, mf_14, mf_15, mf_16, mf_17, mf_18, mf_19, mf_20, mf_21, mf_22, mf_23, mf_24, mf_25, mf_26, mf_27, mf_28, mf_29, mf_30, mp_4, mp_7, mp_9, mp_10, mp_12, mp_14, mp_15, mp_16, mp_17, mp_18, mp_19, mp_20, mi_0, M_isPiece _ _ (show P < 1000 by omega) c5.1, h, M_isTable _ _ (show T < 1000 by omega) c4.1, h2]
  obtain ⟨b1, b2, b3, a, b4, b5⟩ := nb.1 k hk
  rw [n14_d σ (by omega)] at b3
  have a1 : c_at σ 45 (nI k) = nI a := by rw [c_at_n (q := 45) (by show k < 6; omega), b3, b4]
  obtain ⟨⟨t1, b, t2, t3⟩, -, -, -⟩ := ht s hs
  have a2 : c_at σ 7 (nI s) = nI b := by rw [c_at_n (q := 7) (by show s < 8; omega), t1, t2]
  by_cases hab : nI a = nI b
  · obtain ⟨F, A, B, G, C, p1, p2, p3⟩ := push_sim (σ := σ) (μ := μ) hP hpa nb
    have p1 := p1 26
    have p2 := p2 27
    obtain ⟨L, u, w, hL, hu2, hw2, q1, q2⟩ := turn_sim (σ := c_ws (c_ws (c_wa σ 49 F) 47 1 A) 47 2 B) (μ := m_ws (m_wa μ 4 G) 4 C) (N := N) hc hu ht nb hk hs
    have q1 := q1 26
    have q2 := q2 27
    refine ⟨L, c_tn (c_ws (c_ws (c_wa σ 49 F) 47 1 A) 47 2 B) k L u w, m_tn (m_ws (m_wa μ 4 G) 4 C) k L u w, ?_, ?_, ?_⟩
    · have a3 : c_at (c_tn (c_ws (c_ws (c_wa σ 49 F) 47 1 A) 47 2 B) k L u w) 43 (nI k) = L := by
        rw [c_at_n (q := 43) (by show k < 6; omega)]
        show upd (σ.1 44) k L k = _
        rw [upd_s]
      simp (decide := true) only [r_81, s_81_0, s_81_4, s_81_7, s_81_11, s_81_14, s_81_18, s_81_21, s_81_25, s_81_28, s_81_31, s_81_35, s_81_38, s_81_42, s_81_46, s_81_49, s_81_53, s_81_56, s_81_59, s_81_63, s_81_67, s_81_70, s_81_74, s_81_78, s_81_83, s_81_87, s_81_90, s_81_94, Option.bind_some, x_tlv, x_tln, if_true, if_false, cr_isa, R_at, R_has, R_size, R_put, R_isFull, R_add, R_clear, c_has_eq, c_wa_1, c_wa_2, c_ws_1, c_ws_2, cf_0_0, cf_0_1, cf_0_2, cf_0_3, cf_0_4, cf_0_5, cf_0_6, cf_0_7, cf_0_8, cf_0_9, cf_0_10, cf_0_11, cf_0_12, cf_0_13, cp_0_12, cp_0_13, ci_0, cf_1_0, cf_1_1, cf_1_2, cf_1_3, cf_1_4, cp_1_1, cp_1_2, cp_1_3, cp_1_4, ci_1, cf_4_0, cf_4_1, cf_4_2, cf_4_3, cf_4_4, cf_4_5, cf_4_6, cf_4_7, cf_4_8, cf_4_9, cf_4_10, cp_4_0, cp_4_1, ci_4, cf_23_0, cf_23_1, cf_23_2, cf_23_3, cf_23_4, cf_23_5, cf_23_6, cf_23_7, cf_23_8, cf_23_9, cf_23_10, cp_23_0, cp_23_1, ci_23, cf_42_0, cf_42_1, cf_42_2, cf_42_3, cp_42_2, cp_42_3, ci_42, cf_47_0, cf_47_1, cf_47_2, cp_47_1, cp_47_2, ci_47, cf_50_0, cf_50_1, cf_50_2, ci_50, cf_57_0, cf_57_1, ci_57, cf_62_0, cf_62_1, ci_62, cf_67_0, cf_67_1, cf_67_2, cf_67_3, cf_67_4, cf_67_5, cp_67_1, cp_67_2, ci_67, cf_76_0, cf_76_1, cf_76_2, cf_76_3, cf_76_4, cf_76_5, cp_76_1, cp_76_2, cp_76_3, ci_76, c5.2, h, c4.2, h2, a1, a2, hab]
      rw [p1]
      simp (decide := true) only [s_81_0, s_81_4, s_81_7, s_81_11, s_81_14, s_81_18, s_81_21, s_81_25, s_81_28, s_81_31, s_81_35, s_81_38, s_81_42, s_81_46, s_81_49, s_81_53, s_81_56, s_81_59, s_81_63, s_81_67, s_81_70, s_81_74, s_81_78, s_81_83, s_81_87, s_81_90, s_81_94, Option.bind_some, x_tlv, x_tln, if_true, if_false, cr_isa, R_at, R_has, R_size, R_put, R_isFull, R_add, R_clear, c_has_eq, c_wa_1, c_wa_2, c_ws_1, c_ws_2, cf_0_0, cf_0_1, cf_0_2, cf_0_3, cf_0_4, cf_0_5, cf_0_6, cf_0_7, cf_0_8, cf_0_9, cf_0_10, cf_0_11, cf_0_12, cf_0_13, cp_0_12, cp_0_13, ci_0, cf_1_0, cf_1_1, cf_1_2, cf_1_3, cf_1_4, cp_1_1, cp_1_2, cp_1_3, cp_1_4, ci_1, cf_4_0, cf_4_1, cf_4_2, cf_4_3, cf_4_4, cf_4_5, cf_4_6, cf_4_7, cf_4_8, cf_4_9, cf_4_10, cp_4_0, cp_4_1, ci_4, cf_23_0, cf_23_1, cf_23_2, cf_23_3, cf_23_4, cf_23_5, cf_23_6, cf_23_7, cf_23_8, cf_23_9, cf_23_10, cp_23_0, cp_23_1, ci_23, cf_42_0, cf_42_1, cf_42_2, cf_42_3, cp_42_2, cp_42_3, ci_42, cf_47_0, cf_47_1, cf_47_2, cp_47_1, cp_47_2, ci_47, cf_50_0, cf_50_1, cf_50_2, ci_50, cf_57_0, cf_57_1, ci_57, cf_62_0, cf_62_1, ci_62, cf_67_0, cf_67_1, cf_67_2, cf_67_3, cf_67_4, cf_67_5, cp_67_1, cp_67_2, ci_67, cf_76_0, cf_76_1, cf_76_2, cf_76_3, cf_76_4, cf_76_5, cp_76_1, cp_76_2, cp_76_3, ci_76]
      rw [q1]
      simp (decide := true) only [s_81_0, s_81_4, s_81_7, s_81_11, s_81_14, s_81_18, s_81_21, s_81_25, s_81_28, s_81_31, s_81_35, s_81_38, s_81_42, s_81_46, s_81_49, s_81_53, s_81_56, s_81_59, s_81_63, s_81_67, s_81_70, s_81_74, s_81_78, s_81_83, s_81_87, s_81_90, s_81_94, Option.bind_some, x_tlv, x_tln, if_true, if_false, cr_isa, R_at, R_has, R_size, R_put, R_isFull, R_add, R_clear, c_has_eq, c_wa_1, c_wa_2, c_ws_1, c_ws_2, cf_0_0, cf_0_1, cf_0_2, cf_0_3, cf_0_4, cf_0_5, cf_0_6, cf_0_7, cf_0_8, cf_0_9, cf_0_10, cf_0_11, cf_0_12, cf_0_13, cp_0_12, cp_0_13, ci_0, cf_1_0, cf_1_1, cf_1_2, cf_1_3, cf_1_4, cp_1_1, cp_1_2, cp_1_3, cp_1_4, ci_1, cf_4_0, cf_4_1, cf_4_2, cf_4_3, cf_4_4, cf_4_5, cf_4_6, cf_4_7, cf_4_8, cf_4_9, cf_4_10, cp_4_0, cp_4_1, ci_4, cf_23_0, cf_23_1, cf_23_2, cf_23_3, cf_23_4, cf_23_5, cf_23_6, cf_23_7, cf_23_8, cf_23_9, cf_23_10, cp_23_0, cp_23_1, ci_23, cf_42_0, cf_42_1, cf_42_2, cf_42_3, cp_42_2, cp_42_3, ci_42, cf_47_0, cf_47_1, cf_47_2, cp_47_1, cp_47_2, ci_47, cf_50_0, cf_50_1, cf_50_2, ci_50, cf_57_0, cf_57_1, ci_57, cf_62_0, cf_62_1, ci_62, cf_67_0, cf_67_1, cf_67_2, cf_67_3, cf_67_4, cf_67_5, cp_67_1, cp_67_2, ci_67, cf_76_0, cf_76_1, cf_76_2, cf_76_3, cf_76_4, cf_76_5, cp_76_1, cp_76_2, cp_76_3, ci_76, a3]
    · have a3 : (m_tn (m_ws (m_wa μ 4 G) 4 C) k L u w).1 3 k = L := by
        show upd (upd (upd (μ.1 3) k L) (6 + k) u) 13 w k = L
        rw [upd_n _ _ _ _ (by omega), upd_n _ _ _ _ (by omega), upd_s]
      simp (disch := first | decide | omega) only [r_147, s_147_0, s_147_5, s_147_8, s_147_13, s_147_16, s_147_19, s_147_23, s_147_28, s_147_32, s_147_37, s_147_40, s_147_43, s_147_47, s_147_53, s_147_57, s_147_61, Option.bind_some, x_tlv, x_tln, if_true, if_false, m_wa_1, m_wa_s, m_wb_1, m_wb_2, m_wb_s, m_ws_1, m_ws_b, m_ws_s, m_ws_e, m_we_1, m_we_b, m_we_s, m_we_e, mf_0, mf_1, mf_2, mf_3, mf_4, mf_5, mf_6, mf_7, mf_8, mf_9, mf_10, mf_11, mf_12, mf_13, mf_14, mf_15, mf_16, mf_17, mf_18, mf_19, mf_20, mf_21, mf_22, mf_23, mf_24, mf_25, mf_26, mf_27, mf_28, mf_29, mf_30, mp_4, mp_7, mp_9, mp_10, mp_12, mp_14, mp_15, mp_16, mp_17, mp_18, mp_19, mp_20, mi_0, M_isPiece _ _ (show P < 1000 by omega) c5.1, h, M_isTable _ _ (show T < 1000 by omega) c4.1, h2, x_a6, x_a12, md3n, md1n, b4, t2, hab]
      rw [p2]
      simp (decide := true) only [s_147_0, s_147_5, s_147_8, s_147_13, s_147_16, s_147_19, s_147_23, s_147_28, s_147_32, s_147_37, s_147_40, s_147_43, s_147_47, s_147_53, s_147_57, s_147_61, Option.bind_some, x_tlv, x_tln, if_true, if_false, m_wa_1, m_wa_s, m_wb_1, m_wb_2, m_wb_s, m_ws_1, m_ws_b, m_ws_s, m_ws_e, m_we_1, m_we_b, m_we_s, m_we_e, mf_0, mf_1, mf_2, mf_3, mf_4, mf_5, mf_6, mf_7, mf_8, mf_9, mf_10, mf_11, mf_12, mf_13, mf_14, mf_15, mf_16, mf_17, mf_18, mf_19, mf_20, mf_21, mf_22, mf_23, mf_24, mf_25, mf_26, mf_27, mf_28, mf_29, mf_30, mp_4, mp_7, mp_9, mp_10, mp_12, mp_14, mp_15, mp_16, mp_17, mp_18, mp_19, mp_20, mi_0]
      rw [q2]
      simp (disch := first | decide | omega) only [s_147_0, s_147_5, s_147_8, s_147_13, s_147_16, s_147_19, s_147_23, s_147_28, s_147_32, s_147_37, s_147_40, s_147_43, s_147_47, s_147_53, s_147_57, s_147_61, Option.bind_some, x_tlv, x_tln, if_true, if_false, m_wa_1, m_wa_s, m_wb_1, m_wb_2, m_wb_s, m_ws_1, m_ws_b, m_ws_s, m_ws_e, m_we_1, m_we_b, m_we_s, m_we_e, mf_0, mf_1, mf_2, mf_3, mf_4, mf_5, mf_6, mf_7, mf_8, mf_9, mf_10, mf_11, mf_12, mf_13, mf_14, mf_15, mf_16, mf_17, mf_18, mf_19, mf_20, mf_21, mf_22, mf_23, mf_24, mf_25, mf_26, mf_27, mf_28, mf_29, mf_30, mp_4, mp_7, mp_9, mp_10, mp_12, mp_14, mp_15, mp_16, mp_17, mp_18, mp_19, mp_20, mi_0, x_a0, md3n, a3]
    · exact ⟨U, T, P, N, hc, hu, ht, hp, hw, ⟨n1, n2, tn_blk (σ := c_ws (c_ws (c_wa σ 49 F) 47 1 A) 47 2 B) (μ := m_ws (m_wa μ 4 G) 4 C) hP hk hL hu2 hw2 nb⟩, p3, hi, hl, hb, hx, hm⟩
  · refine ⟨-1000000003, σ, μ, ?_, ?_, hS'⟩
    · simp (decide := true) only [r_81, s_81_0, s_81_4, s_81_7, s_81_11, s_81_14, s_81_18, s_81_21, s_81_25, s_81_28, s_81_31, s_81_35, s_81_38, s_81_42, s_81_46, s_81_49, s_81_53, s_81_56, s_81_59, s_81_63, s_81_67, s_81_70, s_81_74, s_81_78, s_81_83, s_81_87, s_81_90, s_81_94, Option.bind_some, x_tlv, x_tln, if_true, if_false, cr_isa, R_at, R_has, R_size, R_put, R_isFull, R_add, R_clear, c_has_eq, c_wa_1, c_wa_2, c_ws_1, c_ws_2, cf_0_0, cf_0_1, cf_0_2, cf_0_3, cf_0_4, cf_0_5, cf_0_6, cf_0_7, cf_0_8, cf_0_9, cf_0_10, cf_0_11, cf_0_12, cf_0_13, cp_0_12, cp_0_13, ci_0, cf_1_0, cf_1_1, cf_1_2, cf_1_3, cf_1_4, cp_1_1, cp_1_2, cp_1_3, cp_1_4, ci_1, cf_4_0, cf_4_1, cf_4_2, cf_4_3, cf_4_4, cf_4_5, cf_4_6, cf_4_7, cf_4_8, cf_4_9, cf_4_10, cp_4_0, cp_4_1, ci_4, cf_23_0, cf_23_1, cf_23_2, cf_23_3, cf_23_4, cf_23_5, cf_23_6, cf_23_7, cf_23_8, cf_23_9, cf_23_10, cp_23_0, cp_23_1, ci_23, cf_42_0, cf_42_1, cf_42_2, cf_42_3, cp_42_2, cp_42_3, ci_42, cf_47_0, cf_47_1, cf_47_2, cp_47_1, cp_47_2, ci_47, cf_50_0, cf_50_1, cf_50_2, ci_50, cf_57_0, cf_57_1, ci_57, cf_62_0, cf_62_1, ci_62, cf_67_0, cf_67_1, cf_67_2, cf_67_3, cf_67_4, cf_67_5, cp_67_1, cp_67_2, ci_67, cf_76_0, cf_76_1, cf_76_2, cf_76_3, cf_76_4, cf_76_5, cp_76_1, cp_76_2, cp_76_3, ci_76, c5.2, h, c4.2, h2, a1, a2, hab]
    · simp (disch := first | decide | omega) only [r_147, s_147_0, s_147_5, s_147_8, s_147_13, s_147_16, s_147_19, s_147_23, s_147_28, s_147_32, s_147_37, s_147_40, s_147_43, s_147_47, s_147_53, s_147_57, s_147_61, Option.bind_some, x_tlv, x_tln, if_true, if_false, m_wa_1, m_wa_s, m_wb_1, m_wb_2, m_wb_s, m_ws_1, m_ws_b, m_ws_s, m_ws_e, m_we_1, m_we_b, m_we_s, m_we_e, mf_0, mf_1, mf_2, mf_3, mf_4, mf_5, mf_6, mf_7, mf_8, mf_9, mf_10, mf_11, mf_12, mf_13, mf_14, mf_15, mf_16, mf_17, mf_18, mf_19, mf_20, mf_21, mf_22, mf_23, mf_24, mf_25, mf_26, mf_27, mf_28, mf_29, mf_30, mp_4, mp_7, mp_9, mp_10, mp_12, mp_14, mp_15, mp_16, mp_17, mp_18, mp_19, mp_20, mi_0, M_isPiece _ _ (show P < 1000 by omega) c5.1, h, M_isTable _ _ (show T < 1000 by omega) c4.1, h2, x_a6, x_a12, md3n, md1n, b4, t2, hab]
      simp (decide := true) only [if_false]
