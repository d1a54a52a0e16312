/-! reading: the model's steps -/
def fig (f : Nat → Nat) (n q : Nat) : Prop := q < n ∧ 48 ≤ f q ∧ f q ≤ 57
theorem num_non {f : Nat → Nat} {n q : Nat} (h : ¬ fig f n q) : num f n q = (q, 0) := by
  unfold num
  rcases Nat.eq_zero_or_pos (n - q) with h0 | h0
  · rw [h0]; rfl
  · obtain ⟨m, hm⟩ : ∃ m, n - q = m + 1 := ⟨n - q - 1, by omega⟩
    rw [hm]
    exact if_neg h
theorem num_fig {f : Nat → Nat} {n q : Nat} (h : fig f n q) : q < (num f n q).1 := by
  unfold num
  obtain ⟨m, hm⟩ : ∃ m, n - q = m + 1 := ⟨n - q - 1, by have := h.1; omega⟩
  rw [hm, show nf f n q (m + 1) q 0 = nf f n q m (q + 1) (if q - q < 3 then 0 * 10 + f q - 48 else 0) from if_pos h]
  have h2 := h.2
  obtain ⟨a, -, -, -⟩ := nf_ok f n q m (q + 1) (if q - q < 3 then 0 * 10 + f q - 48 else 0) (by omega) (by omega) (by split <;> omega)
  omega
theorem hre_fig {f : Nat → Nat} {n p : Nat} (hf : ∀ k, k < n → f k ≤ 255) : ((48 : Int32) ≤ hre f n p ∧ hre f n p ≤ 57) ↔ fig f n p := by
  unfold hre fig
  by_cases hn : p < n
  · have := hf p hn
    rw [if_pos hn, show (48 : Int32) = nI 48 from rfl, show (57 : Int32) = nI 57 from rfl, nI_leI (by omega) (by omega), nI_leI (by omega) (by omega)]
    exact ⟨fun z => ⟨hn, z⟩, fun z => z.2⟩
  · rw [if_neg hn]
    exact ⟨fun z => absurd z.1 (by decide), fun z => absurd z.1 hn⟩
theorem M_figs {μ : x_U} {n q : Nat} {f : Nat → Nat} (d : Nat) (h : TM μ n f) (A : Nat → Int32) (b s w : Int32) (hq : q < 2 ^ 28) : ∀ m p v, q ≤ p → n - p ≤ m → p ≤ q + 240 → x_E x_P (d + 1) x_c117 93 [.ref 0] [] (MG (RM μ A (nI p) b s (nI (p - q)) (nI v) w)) = some (none, MG (RM μ A (nI (nf f n q m p v).1) b s (nI ((nf f n q m p v).1 - q)) (nI (nf f n q m p v).2) w)) := by
  have h1 := h.1
  have h3 : ∀ k, k < n → f k ≤ 255 := fun k hk => (h.2.2 k hk).2
  intro m
  induction m with
  | zero =>
    intro p v hp hm hp2
    have hh := M_here d h A b s (nI (p - q)) (nI v) w (p := p) (by omega)
    have hx : ¬ fig f n p := fun z => absurd z.1 (by omega)
    have e1 := (not_congr (hre_fig (p := p) h3)).mpr hx
    rw [s_117_93]; simp (decide := true) only [Option.bind_some, x_tlv, x_tln, if_true, if_false, m_wa_1, m_wa_s, m_wb_1, m_wb_2, m_wb_s, m_ws_1, m_ws_b, m_ws_s, m_ws_e, m_we_1, m_we_b, m_we_s, m_we_e, mf_0, mf_1, mf_2, mf_3, mf_4, mf_5, mf_6, mf_7, mf_8, mf_9, mf_10, mf_11, mf_12, mf_13, mf_14, mf_15, mf_16, mf_17, mf_18, mf_19, mf_20, mf_21, mf_22, mf_23, mf_24, mf_25, mf_26, mf_27, mf_28, mf_29, mf_30, mp_4, mp_7, mp_9, mp_10, mp_12, mp_14, mp_15, mp_16, mp_17, mp_18, mp_19, mp_20, mi_0, hh, s_117_97, M_in, x_w48, x_w57, x_wle, x_b_f e1, s_117_107, s_117_167]
    rfl
  | succ m ih =>
    intro p v hp hm hp2
    have hh := fun g v => M_here d h A b s g v w (p := p) (by omega)
    by_cases hx : fig f n p
    · have e1 := (hre_fig (p := p) h3).mpr hx
      have eh : hre f n p = nI (f p) := if_pos hx.1
      have hf := h3 p hx.1
      have hx2 := hx.2
      have hx1 : p < n := hx.1
      have e1' := e1
      rw [eh] at e1'
      rw [show nf f n q (m + 1) p v = nf f n q m (p + 1) (if p - q < 3 then v * 10 + f p - 48 else v) from if_pos hx]
      have e2 : nI (p - q) + 1 = nI (p + 1 - q) := by rw [nI_1, show p - q + 1 = p + 1 - q by omega]
      by_cases hl : p - q < 3
      · have e4 : ¬ (3 : Int32) ≤ nI (p - q) := nI_ge (b := 3) hl (by omega)
        have e5 : (10 : Int32) * nI v + nI (f p) - 48 = nI (v * 10 + f p - 48) := by
          rw [show (10 : Int32) = nI 10 from rfl, pk_mul, nI_add, show (48 : Int32) = nI 48 from rfl, pk_sub (by omega), Nat.mul_comm]
        have j := ih (p + 1) (v * 10 + f p - 48) (by omega) (by omega) (by omega)
        rw [if_pos hl]
        rw [s_117_93]; simp (decide := true) only [Option.bind_some, x_tlv, x_tln, if_true, if_false, m_wa_1, m_wa_s, m_wb_1, m_wb_2, m_wb_s, m_ws_1, m_ws_b, m_ws_s, m_ws_e, m_we_1, m_we_b, m_we_s, m_we_e, mf_0, mf_1, mf_2, mf_3, mf_4, mf_5, mf_6, mf_7, mf_8, mf_9, mf_10, mf_11, mf_12, mf_13, mf_14, mf_15, mf_16, mf_17, mf_18, mf_19, mf_20, mf_21, mf_22, mf_23, mf_24, mf_25, mf_26, mf_27, mf_28, mf_29, mf_30, mp_4, mp_7, mp_9, mp_10, mp_12, mp_14, mp_15, mp_16, mp_17, mp_18, mp_19, mp_20, mi_0, hh, s_117_97, M_in, x_w48, x_w57, x_wle, x_b_t e1', s_117_107, s_117_110, s_117_115, s_117_119, s_117_125, s_117_130, s_117_144, s_117_149, s_117_154, s_117_159, s_117_164, RM_g, RM_v, RM_a, e4, eh, e5, e2, nI_1, RM_19, RM_18, RM_15]
        exact j
      · have e4 : (3 : Int32) ≤ nI (p - q) := nI_le (a := 3) (by omega) (by omega)
        have j := ih (p + 1) v (by omega) (by omega) (by omega)
        rw [if_neg hl]
        rw [s_117_93]; simp (decide := true) only [Option.bind_some, x_tlv, x_tln, if_true, if_false, m_wa_1, m_wa_s, m_wb_1, m_wb_2, m_wb_s, m_ws_1, m_ws_b, m_ws_s, m_ws_e, m_we_1, m_we_b, m_we_s, m_we_e, mf_0, mf_1, mf_2, mf_3, mf_4, mf_5, mf_6, mf_7, mf_8, mf_9, mf_10, mf_11, mf_12, mf_13, mf_14, mf_15, mf_16, mf_17, mf_18, mf_19, mf_20, mf_21, mf_22, mf_23, mf_24, mf_25, mf_26, mf_27, mf_28, mf_29, mf_30, mp_4, mp_7, mp_9, mp_10, mp_12, mp_14, mp_15, mp_16, mp_17, mp_18, mp_19, mp_20, mi_0, hh, s_117_97, M_in, x_w48, x_w57, x_wle, x_b_t e1, s_117_107, s_117_110, s_117_115, s_117_137, s_117_141, s_117_144, s_117_149, s_117_154, s_117_159, s_117_164, RM_g, RM_v, RM_a, e4, e2, nI_1, RM_19, RM_18, RM_15]
        exact j
    · have e1 := (not_congr (hre_fig (p := p) h3)).mpr hx
      rw [show nf f n q (m + 1) p v = (p, v) from if_neg hx]
      rw [s_117_93]; simp (decide := true) only [Option.bind_some, x_tlv, x_tln, if_true, if_false, m_wa_1, m_wa_s, m_wb_1, m_wb_2, m_wb_s, m_ws_1, m_ws_b, m_ws_s, m_ws_e, m_we_1, m_we_b, m_we_s, m_we_e, mf_0, mf_1, mf_2, mf_3, mf_4, mf_5, mf_6, mf_7, mf_8, mf_9, mf_10, mf_11, mf_12, mf_13, mf_14, mf_15, mf_16, mf_17, mf_18, mf_19, mf_20, mf_21, mf_22, mf_23, mf_24, mf_25, mf_26, mf_27, mf_28, mf_29, mf_30, mp_4, mp_7, mp_9, mp_10, mp_12, mp_14, mp_15, mp_16, mp_17, mp_18, mp_19, mp_20, mi_0, hh, s_117_97, M_in, x_w48, x_w57, x_wle, x_b_f e1, s_117_107, s_117_167]
theorem M_step_fig {μ : x_U} {n p q t v : Nat} {f : Nat → Nat} (d : Nat) (h : TM μ n f) (A : Nat → Int32) (b s g v0 w : Int32) (hp : p < 2 ^ 27) (eq : sk f n p = q) (et : num f n q = (t, v)) (hx : fig f n q) : x_R x_P (d + 2) 117 [.ref 0] (MG (RM μ A (nI p) b s g v0 w)) = some (none, MG (RM μ A (nI t) (nI q) 48 (nI (t - q)) (nI v) w)) := by
  have h1 := h.1
  have h3 : ∀ k, k < n → f k ≤ 255 := fun k hk => (h.2.2 k hk).2
  obtain ⟨k1, k2, -⟩ := sk_ok f n p
  have hb := M_blk d h A b s g v0 w (n - p) p (Nat.le_refl _) (by omega)
  rw [show skf f n (n - p) p = q from eq] at hb
  rw [eq] at k1 k2
  have hh := fun b s g v => M_here d h A b s g v w (p := q) (by omega)
  have e1 := (hre_fig (p := q) h3).mpr hx
  have hf := M_figs d h A (nI q) 48 w (q := q) (by omega) (n - q) q 0 (Nat.le_refl _) (Nat.le_refl _) (by omega)
  rw [show nf f n q (n - q) q 0 = (t, v) from et, Nat.sub_self] at hf
  rw [r_117]
  refine Eq.trans hb ?_
  simp (decide := true) only [s_117_22, s_117_27, s_117_30, s_117_35, s_117_38, s_117_43, s_117_48, s_117_52, s_117_62, s_117_87, Option.bind_some, x_tlv, x_tln, if_true, if_false, m_wa_1, m_wa_s, m_wb_1, m_wb_2, m_wb_s, m_ws_1, m_ws_b, m_ws_s, m_ws_e, m_we_1, m_we_b, m_we_s, m_we_e, mf_0, mf_1, mf_2, mf_3, mf_4, mf_5, mf_6, mf_7, mf_8, mf_9, mf_10, mf_11, mf_12, mf_13, mf_14, mf_15, mf_16, mf_17, mf_18, mf_19, mf_20, mf_21, mf_22, mf_23, mf_24, mf_25, mf_26, mf_27, mf_28, mf_29, mf_30, mp_4, mp_7, mp_9, mp_10, mp_12, mp_14, mp_15, mp_16, mp_17, mp_18, mp_19, mp_20, mi_0, RM_a, RM_16, hh, RM_17, RM_18, RM_19, RM_s, M_in, x_w48, x_w57, x_wle, x_b_t e1]
  exact hf
theorem M_step_non {μ : x_U} {n p q : Nat} {f : Nat → Nat} (d : Nat) (h : TM μ n f) (A : Nat → Int32) (b s g v0 w : Int32) (hp : p < 2 ^ 27) (eq : sk f n p = q) (hx : ¬ fig f n q) : x_R x_P (d + 2) 117 [.ref 0] (MG (RM μ A (nI p) b s g v0 w)) = some (none, MG (RM μ A (nI (if q < n then q + 1 else q)) (nI q) (hre f n q) 0 0 w)) := by
  have h1 := h.1
  have h3 : ∀ k, k < n → f k ≤ 255 := fun k hk => (h.2.2 k hk).2
  obtain ⟨k1, k2, -⟩ := sk_ok f n p
  have hb := M_blk d h A b s g v0 w (n - p) p (Nat.le_refl _) (by omega)
  rw [show skf f n (n - p) p = q from eq] at hb
  rw [eq] at k1 k2
  have hh := fun b s g v => M_here d h A b s g v w (p := q) (by omega)
  have e1 := (not_congr (hre_fig (p := q) h3)).mpr hx
  rw [r_117]
  refine Eq.trans hb ?_
  by_cases hn : q < n
  · have e2 : (0 : Int32) ≤ hre f n q := by
      unfold hre
      rw [if_pos hn]
      have := h3 q hn
      exact nI_pos' (by omega)
    rw [if_pos hn]
    simp (decide := true) only [s_117_22, s_117_27, s_117_30, s_117_35, s_117_38, s_117_43, s_117_48, s_117_52, s_117_62, s_117_65, s_117_70, s_117_74, s_117_81, s_117_86, Option.bind_some, x_tlv, x_tln, if_true, if_false, m_wa_1, m_wa_s, m_wb_1, m_wb_2, m_wb_s, m_ws_1, m_ws_b, m_ws_s, m_ws_e, m_we_1, m_we_b, m_we_s, m_we_e, mf_0, mf_1, mf_2, mf_3, mf_4, mf_5, mf_6, mf_7, mf_8, mf_9, mf_10, mf_11, mf_12, mf_13, mf_14, mf_15, mf_16, mf_17, mf_18, mf_19, mf_20, mf_21, mf_22, mf_23, mf_24, mf_25, mf_26, mf_27, mf_28, mf_29, mf_30, mp_4, mp_7, mp_9, mp_10, mp_12, mp_14, mp_15, mp_16, mp_17, mp_18, mp_19, mp_20, mi_0, RM_a, RM_16, hh, RM_17, RM_18, RM_19, RM_s, M_in, x_w48, x_w57, x_wle, x_b_f e1, e2, nI_1, RM_15]
  · have e2 : ¬ (0 : Int32) ≤ hre f n q := by
      unfold hre
      rw [if_neg hn]
      decide
    have e3 : nI q + 0 = nI q := Int32.add_zero _
    rw [if_neg hn]
    simp (decide := true) only [s_117_22, s_117_27, s_117_30, s_117_35, s_117_38, s_117_43, s_117_48, s_117_52, s_117_62, s_117_65, s_117_70, s_117_74, s_117_77, s_117_86, Option.bind_some, x_tlv, x_tln, if_true, if_false, m_wa_1, m_wa_s, m_wb_1, m_wb_2, m_wb_s, m_ws_1, m_ws_b, m_ws_s, m_ws_e, m_we_1, m_we_b, m_we_s, m_we_e, mf_0, mf_1, mf_2, mf_3, mf_4, mf_5, mf_6, mf_7, mf_8, mf_9, mf_10, mf_11, mf_12, mf_13, mf_14, mf_15, mf_16, mf_17, mf_18, mf_19, mf_20, mf_21, mf_22, mf_23, mf_24, mf_25, mf_26, mf_27, mf_28, mf_29, mf_30, mp_4, mp_7, mp_9, mp_10, mp_12, mp_14, mp_15, mp_16, mp_17, mp_18, mp_19, mp_20, mi_0, RM_a, RM_16, hh, RM_17, RM_18, RM_19, RM_s, M_in, x_w48, x_w57, x_wle, x_b_f e1, e2, e3, RM_15]
theorem M_fails (d : Nat) (μ : x_U) (A : Nat → Int32) (a b s g v w x : Int32) : x_R x_P (d + 1) 118 [.ref 0, .int x] (MG (RM μ A a b s g v w)) = some (some (.int 0), MG (RM μ A a b s g v x)) := by
  simp (decide := true) only [r_118, s_118_0, s_118_5, Option.bind_some, x_tlv, x_tln, if_true, if_false, m_wa_1, m_wa_s, m_wb_1, m_wb_2, m_wb_s, m_ws_1, m_ws_b, m_ws_s, m_ws_e, m_we_1, m_we_b, m_we_s, m_we_e, mf_0, mf_1, mf_2, mf_3, mf_4, mf_5, mf_6, mf_7, mf_8, mf_9, mf_10, mf_11, mf_12, mf_13, mf_14, mf_15, mf_16, mf_17, mf_18, mf_19, mf_20, mf_21, mf_22, mf_23, mf_24, mf_25, mf_26, mf_27, mf_28, mf_29, mf_30, mp_4, mp_7, mp_9, mp_10, mp_12, mp_14, mp_15, mp_16, mp_17, mp_18, mp_19, mp_20, mi_0, RM_20]
/-- a number is read: as on the class's side -/
theorem M_num {μ : x_U} {n p q t v pl : Nat} {f : Nat → Nat} (d : Nat) (h : TM μ n f) (A : Nat → Int32) (b s g v0 w lo hi : Int32) (hp : p < 2 ^ 27) (hpl : pl < 68) (eq : sk f n p = q) (et : num f n q = (t, v)) : (w1 t q = 0 → w2 t q v lo hi = 0 → x_R x_P (d + 3) 119 [.ref 0, .int (nI pl), .int lo, .int hi] (MG (RM μ A (nI p) b s g v0 w)) = some (some (.int 1), MG (RM μ (upd A pl (nI v)) (nI t) (nI q) 48 (nI (t - q)) (nI v) w))) ∧ (bln (w1 t q) (w2 t q v lo hi) ≠ 0 → ∃ a s' g' v', x_R x_P (d + 3) 119 [.ref 0, .int (nI pl), .int lo, .int hi] (MG (RM μ A (nI p) b s g v0 w)) = some (some (.int 0), MG (RM μ A a (nI q) s' g' v' (bln (w1 t q) (w2 t q v lo hi))))) := by
  have h1 := h.1
  have h3 : ∀ k, k < n → f k ≤ 255 := fun k hk => (h.2.2 k hk).2
  obtain ⟨k1, k2, -⟩ := sk_ok f n p
  rw [eq] at k1 k2
  obtain ⟨m1, m2, m3⟩ := num_ok f n q
  rw [et] at m1 m2 m3
  have m1 : q ≤ t := m1
  have m2 : t ≤ n ∨ t = q := m2
  by_cases hx : fig f n q
  · have hs := M_step_fig (d + 0) h A b s g v0 w hp eq et hx
    have htq : t ≠ q := by
      have := num_fig hx
      rw [et] at this
      have : q < t := this
      omega
    have e1 : w1 t q = 0 := if_neg htq
    rw [e1]
    have e0 : bln 0 (w2 t q v lo hi) = w2 t q v lo hi := by
      unfold bln
      by_cases z : w2 t q v lo hi = 0
      · rw [if_pos (Or.inl z), z]
      · rw [if_neg (by rintro (q | q); exact z q; exact q rfl)]
    rw [e0]
    refine ⟨fun _ z => ?_, fun z => ?_⟩
    · have hb : ¬ bad t q v lo hi := fun y => absurd z (by unfold w2; rw [if_pos y]; decide)
      have c1 : ¬ 3 < t - q := fun z => hb (Or.inl z)
      have c2 : ¬ nI v < lo := fun z => hb (Or.inr (Or.inl z))
      have c3 : nI v ≤ hi := Classical.byContradiction fun z => hb (Or.inr (Or.inr z))
      have e4 : ¬ (3 : Int32) < nI (t - q) := nI_nlt (a := 3) (by omega) (by omega)
      have e5 : lo ≤ nI v ∧ nI v ≤ hi := ⟨Int32.not_lt.mp c2, c3⟩
      have rp := RM_rp μ A (nI t) (nI q) 48 (nI (t - q)) (nI v) w (nI v) hpl
      simp (decide := true) only [r_119, s_119_0, Option.bind_some, x_tlv, x_tln, if_true, if_false, m_wa_1, m_wa_s, m_wb_1, m_wb_2, m_wb_s, m_ws_1, m_ws_b, m_ws_s, m_ws_e, m_we_1, m_we_b, m_we_s, m_we_e, mf_0, mf_1, mf_2, mf_3, mf_4, mf_5, mf_6, mf_7, mf_8, mf_9, mf_10, mf_11, mf_12, mf_13, mf_14, mf_15, mf_16, mf_17, mf_18, mf_19, mf_20, mf_21, mf_22, mf_23, mf_24, mf_25, mf_26, mf_27, mf_28, mf_29, mf_30, mp_4, mp_7, mp_9, mp_10, mp_12, mp_14, mp_15, mp_16, mp_17, mp_18, mp_19, mp_20, mi_0, hs, s_119_4, s_119_8, s_119_19, s_119_23, s_119_27, s_119_31, RM_s, RM_g, RM_v, e4, M_in, x_wle, x_b_t e5, s_119_39, s_119_48, s_119_52, s_119_57, s_119_58, rp]
    · have hb : bad t q v lo hi := Classical.byContradiction fun y => z (if_neg y)
      have ew : w2 t q v lo hi = 2 := if_pos hb
      rw [ew]
      refine ⟨nI t, 48, nI (t - q), nI v, ?_⟩
      have hf := M_fails (d + 1) μ A (nI t) (nI q) 48 (nI (t - q)) (nI v) w 2
      by_cases c1 : 3 < t - q
      · have e4 : (3 : Int32) < nI (t - q) := nI_lt (a := 3) c1 (by omega)
        simp (decide := true) only [r_119, s_119_0, Option.bind_some, x_tlv, x_tln, if_true, if_false, m_wa_1, m_wa_s, m_wb_1, m_wb_2, m_wb_s, m_ws_1, m_ws_b, m_ws_s, m_ws_e, m_we_1, m_we_b, m_we_s, m_we_e, mf_0, mf_1, mf_2, mf_3, mf_4, mf_5, mf_6, mf_7, mf_8, mf_9, mf_10, mf_11, mf_12, mf_13, mf_14, mf_15, mf_16, mf_17, mf_18, mf_19, mf_20, mf_21, mf_22, mf_23, mf_24, mf_25, mf_26, mf_27, mf_28, mf_29, mf_30, mp_4, mp_7, mp_9, mp_10, mp_12, mp_14, mp_15, mp_16, mp_17, mp_18, mp_19, mp_20, mi_0, hs, s_119_4, s_119_8, s_119_19, s_119_23, RM_s, RM_g, e4, s_119_42, hf, s_119_47]
      · have e4 : ¬ (3 : Int32) < nI (t - q) := nI_nlt (a := 3) (by omega) (by omega)
        have e5 : ¬ (lo ≤ nI v ∧ nI v ≤ hi) := fun y => by
          rcases hb with z | z | z
          · exact c1 z
          · exact absurd y.1 (Int32.not_le.mpr z)
          · exact z y.2
        simp (decide := true) only [r_119, s_119_0, Option.bind_some, x_tlv, x_tln, if_true, if_false, m_wa_1, m_wa_s, m_wb_1, m_wb_2, m_wb_s, m_ws_1, m_ws_b, m_ws_s, m_ws_e, m_we_1, m_we_b, m_we_s, m_we_e, mf_0, mf_1, mf_2, mf_3, mf_4, mf_5, mf_6, mf_7, mf_8, mf_9, mf_10, mf_11, mf_12, mf_13, mf_14, mf_15, mf_16, mf_17, mf_18, mf_19, mf_20, mf_21, mf_22, mf_23, mf_24, mf_25, mf_26, mf_27, mf_28, mf_29, mf_30, mp_4, mp_7, mp_9, mp_10, mp_12, mp_14, mp_15, mp_16, mp_17, mp_18, mp_19, mp_20, mi_0, hs, s_119_4, s_119_8, s_119_19, s_119_23, s_119_27, s_119_31, RM_s, RM_g, RM_v, e4, M_in, x_wle, x_b_f e5, s_119_39, s_119_42, hf, s_119_47]
  · have hs := M_step_non (d + 0) h A b s g v0 w hp eq hx
    have htv := num_non hx
    rw [et] at htv
    injection htv with ht hv
    have e1 : w1 t q = 1 := if_pos ht
    rw [e1]
    have e0 : bln 1 (w2 t q v lo hi) = 1 := if_pos (Or.inr (by decide))
    rw [e0]
    refine ⟨fun z => absurd z (by decide), fun _ => ?_⟩
    have e2 : ¬ hre f n q = 48 := by
      unfold hre
      by_cases hn : q < n
      · have hf := h3 q hn
        rw [if_pos hn]
        exact fun z => hx ⟨hn, by have := (nI_eq (b := 48) (by omega) (by omega)).mp z; omega, by have := (nI_eq (b := 48) (by omega) (by omega)).mp z; omega⟩
      · rw [if_neg hn]; decide
    have hf := M_fails (d + 1) μ A (nI (if q < n then q + 1 else q)) (nI q) (hre f n q) 0 0 w 1
    refine ⟨nI (if q < n then q + 1 else q), hre f n q, 0, 0, ?_⟩
    simp (decide := true) only [r_119, s_119_0, Option.bind_some, x_tlv, x_tln, if_true, if_false, m_wa_1, m_wa_s, m_wb_1, m_wb_2, m_wb_s, m_ws_1, m_ws_b, m_ws_s, m_ws_e, m_we_1, m_we_b, m_we_s, m_we_e, mf_0, mf_1, mf_2, mf_3, mf_4, mf_5, mf_6, mf_7, mf_8, mf_9, mf_10, mf_11, mf_12, mf_13, mf_14, mf_15, mf_16, mf_17, mf_18, mf_19, mf_20, mf_21, mf_22, mf_23, mf_24, mf_25, mf_26, mf_27, mf_28, mf_29, mf_30, mp_4, mp_7, mp_9, mp_10, mp_12, mp_14, mp_15, mp_16, mp_17, mp_18, mp_19, mp_20, mi_0, hs, s_119_4, s_119_8, RM_s, e2, s_119_13, hf, s_119_18]
theorem M_end {μ : x_U} {n p q : Nat} {f : Nat → Nat} (d : Nat) (h : TM μ n f) (A : Nat → Int32) (b s g v0 w : Int32) (hp : p < 2 ^ 27) (eq : sk f n p = q) : (w3 f n q = 0 → x_R x_P (d + 3) 120 [.ref 0] (MG (RM μ A (nI p) b s g v0 w)) = some (some (.int 1), MG (RM μ A (nI (q + 1)) (nI q) 59 0 0 w))) ∧ (w3 f n q ≠ 0 → ∃ a s' g' v', x_R x_P (d + 3) 120 [.ref 0] (MG (RM μ A (nI p) b s g v0 w)) = some (some (.int 0), MG (RM μ A a (nI q) s' g' v' 1))) := by
  have h1 := h.1
  have h3 : ∀ k, k < n → f k ≤ 255 := fun k hk => (h.2.2 k hk).2
  have ff := fun a s g v => M_fails (d + 1) μ A a (nI q) s g v w 1
  refine ⟨fun z => ?_, fun z => ?_⟩
  · have hc : q < n ∧ f q = 59 := Classical.byContradiction fun y => absurd z (by unfold w3; rw [if_neg y]; decide)
    have hx : ¬ fig f n q := fun y => by have := y.2; omega
    have hs := M_step_non (d + 0) h A b s g v0 w hp eq hx
    have e1 : hre f n q = 59 := by
      unfold hre
      rw [if_pos hc.1, hc.2]
      rfl
    rw [if_pos hc.1, e1] at hs
    simp (decide := true) only [r_120, s_120_0, Option.bind_some, x_tlv, x_tln, if_true, if_false, m_wa_1, m_wa_s, m_wb_1, m_wb_2, m_wb_s, m_ws_1, m_ws_b, m_ws_s, m_ws_e, m_we_1, m_we_b, m_we_s, m_we_e, mf_0, mf_1, mf_2, mf_3, mf_4, mf_5, mf_6, mf_7, mf_8, mf_9, mf_10, mf_11, mf_12, mf_13, mf_14, mf_15, mf_16, mf_17, mf_18, mf_19, mf_20, mf_21, mf_22, mf_23, mf_24, mf_25, mf_26, mf_27, mf_28, mf_29, mf_30, mp_4, mp_7, mp_9, mp_10, mp_12, mp_14, mp_15, mp_16, mp_17, mp_18, mp_19, mp_20, mi_0, hs, s_120_4, s_120_8, RM_s, s_120_21]
  · have hc : ¬ (q < n ∧ f q = 59) := fun y => z (if_pos y)
    by_cases hx : fig f n q
    · have hs := M_step_fig (d + 0) h A b s g v0 w hp eq rfl hx
      refine ⟨nI (num f n q).1, 48, nI ((num f n q).1 - q), nI (num f n q).2, ?_⟩
      simp (decide := true) only [r_120, s_120_0, Option.bind_some, x_tlv, x_tln, if_true, if_false, m_wa_1, m_wa_s, m_wb_1, m_wb_2, m_wb_s, m_ws_1, m_ws_b, m_ws_s, m_ws_e, m_we_1, m_we_b, m_we_s, m_we_e, mf_0, mf_1, mf_2, mf_3, mf_4, mf_5, mf_6, mf_7, mf_8, mf_9, mf_10, mf_11, mf_12, mf_13, mf_14, mf_15, mf_16, mf_17, mf_18, mf_19, mf_20, mf_21, mf_22, mf_23, mf_24, mf_25, mf_26, mf_27, mf_28, mf_29, mf_30, mp_4, mp_7, mp_9, mp_10, mp_12, mp_14, mp_15, mp_16, mp_17, mp_18, mp_19, mp_20, mi_0, hs, s_120_4, s_120_8, RM_s, s_120_13, ff, s_120_18, s_120_25]
      rfl
    · have hs := M_step_non (d + 0) h A b s g v0 w hp eq hx
      have e2 : ¬ hre f n q = 59 := by
        unfold hre
        by_cases hn : q < n
        · have hf := h3 q hn
          rw [if_pos hn]
          exact fun y => hc ⟨hn, (nI_eq (b := 59) (by omega) (by omega)).mp y⟩
        · rw [if_neg hn]; decide
      refine ⟨nI (if q < n then q + 1 else q), hre f n q, 0, 0, ?_⟩
      simp (decide := true) only [r_120, s_120_0, Option.bind_some, x_tlv, x_tln, if_true, if_false, m_wa_1, m_wa_s, m_wb_1, m_wb_2, m_wb_s, m_ws_1, m_ws_b, m_ws_s, m_ws_e, m_we_1, m_we_b, m_we_s, m_we_e, mf_0, mf_1, mf_2, mf_3, mf_4, mf_5, mf_6, mf_7, mf_8, mf_9, mf_10, mf_11, mf_12, mf_13, mf_14, mf_15, mf_16, mf_17, mf_18, mf_19, mf_20, mf_21, mf_22, mf_23, mf_24, mf_25, mf_26, mf_27, mf_28, mf_29, mf_30, mp_4, mp_7, mp_9, mp_10, mp_12, mp_14, mp_15, mp_16, mp_17, mp_18, mp_19, mp_20, mi_0, hs, s_120_4, s_120_8, RM_s, e2, s_120_13, ff, s_120_18, s_120_25]
