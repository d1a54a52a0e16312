/-! cutting: what the model leaves -/
def NN (μ : x_U) (A B L : Nat → Int32) : x_U := m_wa (m_wa (m_wa μ 16 A) 17 B) 18 L
theorem NN_id (μ : x_U) : NN μ (μ.1 16) (μ.1 17) (μ.1 18) = μ := by
  unfold NN
  rw [m_wa_id]
  show m_wa (m_wa μ 17 (μ.1 17)) 18 (μ.1 18) = μ
  rw [m_wa_id]
  exact m_wa_id μ 18
theorem NN_A (μ : x_U) (A B L f : Nat → Int32) : m_wa (NN μ A B L) 16 f = NN μ f B L := by
  unfold NN
  rw [m_wa_cm (a := 18) (b := 16) _ (by decide), m_wa_cm (a := 17) (b := 16) _ (by decide), m_wa_wa]
theorem NN_B (μ : x_U) (A B L f : Nat → Int32) : m_wa (NN μ A B L) 17 f = NN μ A f L := by
  unfold NN
  rw [m_wa_cm (a := 18) (b := 17) _ (by decide), m_wa_wa]
theorem NN_L (μ : x_U) (A B L f : Nat → Int32) : m_wa (NN μ A B L) 18 f = NN μ A B f := by
  unfold NN
  rw [m_wa_wa]
theorem NN_aa (μ : x_U) (A B L : Nat → Int32) {k : Nat} (h : k < 6) : x_ild (MG (NN μ A B L)) 16 0 (nI k) = some (A k) := md16n _ h
theorem NN_ba (μ : x_U) (A B L : Nat → Int32) {k : Nat} (h : k < 6) : x_ild (MG (NN μ A B L)) 17 0 (nI k) = some (B k) := md17n _ h
theorem NN_la (μ : x_U) (A B L : Nat → Int32) {k : Nat} (h : k < 6) : x_ild (MG (NN μ A B L)) 18 0 (nI k) = some (L k) := md18n _ h
theorem NN_ap (μ : x_U) (A B L : Nat → Int32) (v : Int32) {k : Nat} (h : k < 6) : x_ist (MG (NN μ A B L)) 16 0 (nI k) v = some (MG (NN μ (upd A k v) B L)) := by rw [mt16n _ v h]; exact congrArg (fun z => some (MG z)) (NN_A μ A B L _)
theorem NN_bp (μ : x_U) (A B L : Nat → Int32) (v : Int32) {k : Nat} (h : k < 6) : x_ist (MG (NN μ A B L)) 17 0 (nI k) v = some (MG (NN μ A (upd B k v) L)) := by rw [mt17n _ v h]; exact congrArg (fun z => some (MG z)) (NN_B μ A B L _)
theorem NN_lp (μ : x_U) (A B L : Nat → Int32) (v : Int32) {k : Nat} (h : k < 6) : x_ist (MG (NN μ A B L)) 18 0 (nI k) v = some (MG (NN μ A B (upd L k v))) := by rw [mt18n _ v h]; exact congrArg (fun z => some (MG z)) (NN_L μ A B L _)
theorem NN_t (μ : x_U) (A B L : Nat → Int32) {k : Nat} (h : k < 68) : x_ild (MG (NN μ A B L)) 1 0 (nI k) = some (μ.1 1 k) := md1n _ h
theorem NN_4 (μ : x_U) (A B L : Nat → Int32) : x_ild (MG (NN μ A B L)) 1 0 4 = some (μ.1 1 4) := rfl
theorem NN_5 (μ : x_U) (A B L : Nat → Int32) : x_ild (MG (NN μ A B L)) 1 0 5 = some (μ.1 1 5) := rfl
theorem NN_n (μ : x_U) (A B L : Nat → Int32) {k : Nat} (h : k < 14) : x_ild (MG (NN μ A B L)) 3 0 (nI k) = some (μ.1 3 k) := md3n _ h
theorem L_dig {μ : x_U} {P k code : Nat} (d : Nat) (hP : P ≤ 6) (hT0 : 0 < P ∨ k = 0) (hk : k ≤ 6) (c4 : μ.1 1 4 = nI P) (hc : code < P ^ k) (B L : Nat → Int32) : ∀ s (A : Nat → Int32), s ≤ k → (∀ i, s ≤ i → i < k → A i = nI (dg P k code i)) → ∃ A' r, (∀ i, i < k → A' i = nI (dg P k code i)) ∧ x_E x_P d x_c164 11 [.ref 0, .int (nI code), .int (nI (code / P ^ (k - s))), .int (nI s + (-1)), x_j, x_j] [] (MG (NN μ A B L)) = x_E x_P d x_c164 49 [.ref 0, .int (nI code), .int r, .int 0, .int (nI 0), x_j] [] (MG (NN μ A' B L)) := by
  have pb := pw6 hP hk
  intro s
  induction s with
  | zero =>
    intro A hs hA
    have e0 : nI 0 + (-1) < 0 := by decide
    refine ⟨A, nI (code / P ^ (k - 0)), fun i hi => hA i (Nat.zero_le _) hi, ?_⟩
    rw [s_164_11, if_pos e0, s_164_44]
    rfl
  | succ s ih =>
    intro A hs hA
    have T0 : 0 < P := by omega
    have e0 : ¬ nI s < 0 := nI_pos (by omega)
    have eT : ¬ nI P = 0 := nI_ne0 T0 (by omega)
    have q1 : code / P ^ (k - (s + 1)) ≤ code := Nat.div_le_self _ _
    have q2 := pk_rem (a := code / P ^ (k - (s + 1))) (d := P) (by omega) T0 (by omega)
    have q3 := pk_div (a := code / P ^ (k - (s + 1))) (d := P) (by omega) T0 (by omega)
    have q4 : code / P ^ (k - (s + 1)) / P = code / P ^ (k - s) := by
      rw [show k - s = (k - (s + 1)) + 1 by omega, dv_s]
    have q5 : code / P ^ (k - (s + 1)) % P = dg P k code s := by
      unfold dg
      rw [show k - 1 - s = k - (s + 1) by omega]
    rw [q5] at q2
    rw [q4] at q3
    obtain ⟨A', r, i1, i2⟩ := ih (upd A s (nI (dg P k code s))) (by omega) (fun i h1 h2 => by
      unfold upd
      by_cases h : i = s
      · rw [if_pos h, h]
      · rw [if_neg h]; exact hA i (by omega) h2)
    refine ⟨A', r, i1, ?_⟩
    have pw := NN_ap μ A B L (nI (dg P k code s)) (k := s) (by omega)
    rw [pk_m1, s_164_11, if_neg e0]
    simp (decide := true) only [s_164_15, s_164_19, s_164_25, s_164_27, s_164_28, s_164_29, Option.bind_some, x_tlv, x_tln, if_true, if_false, m_wa_1, m_wa_s, m_wb_1, m_wb_2, m_wb_s, m_ws_1, m_ws_b, m_ws_s, m_ws_e, m_we_1, m_we_b, m_we_s, m_we_e, mf_0, mf_1, mf_2, mf_3, mf_4, mf_5, mf_6, mf_7, mf_8, mf_9, mf_10, mf_11, mf_12, mf_13, mf_14, mf_15, mf_16, mf_17, mf_18, mf_19, mf_20, mf_21, mf_22, mf_23, mf_24, mf_25, mf_26, mf_27, mf_28, mf_29, mf_30, mp_4, mp_7, mp_9, mp_10, mp_12, mp_14, mp_15, mp_16, mp_17, mp_18, mp_19, mp_20, mi_0, NN_4, c4, eT, not_false_eq_true, q2, pw]
    simp (decide := true) only [s_164_34, s_164_36, s_164_37, Option.bind_some, x_tlv, x_tln, if_true, if_false, m_wa_1, m_wa_s, m_wb_1, m_wb_2, m_wb_s, m_ws_1, m_ws_b, m_ws_s, m_ws_e, m_we_1, m_we_b, m_we_s, m_we_e, mf_0, mf_1, mf_2, mf_3, mf_4, mf_5, mf_6, mf_7, mf_8, mf_9, mf_10, mf_11, mf_12, mf_13, mf_14, mf_15, mf_16, mf_17, mf_18, mf_19, mf_20, mf_21, mf_22, mf_23, mf_24, mf_25, mf_26, mf_27, mf_28, mf_29, mf_30, mp_4, mp_7, mp_9, mp_10, mp_12, mp_14, mp_15, mp_16, mp_17, mp_18, mp_19, mp_20, mi_0, NN_4, c4, eT, not_false_eq_true, q3]
    exact i2
theorem L_now (d : Nat) (μ : x_U) (code r e : Int32) (A B : Nat → Int32) (hL : ∀ p, p < 6 → μ.1 3 p = nI (wL μ p)) : ∀ m k (L : Nat → Int32), k + m = 6 → (∀ j, j < k → L j = nI (wL μ j)) → ∃ L', (∀ j, j < 6 → L' j = nI (wL μ j)) ∧ x_E x_P d x_c164 49 [.ref 0, .int code, .int r, .int e, .int (nI k), x_j] [] (MG (NN μ A B L)) = x_E x_P d x_c164 81 [.ref 0, .int code, .int r, .int e, .int (nI 0), x_j] [] (MG (NN μ A B L')) := by
  intro m
  induction m with
  | zero =>
    intro k L hk h
    obtain rfl : k = 6 := by omega
    have e6 : (6 : Int32) ≤ nI 6 := by decide
    refine ⟨L, h, ?_⟩
    rw [s_164_49, if_pos e6, s_164_78]
    rfl
  | succ m ih =>
    intro k L hk h
    have e6 : ¬ (6 : Int32) ≤ nI k := nI_ge (b := 6) (by omega) (by omega)
    obtain ⟨L', j1, j2⟩ := ih (k + 1) (upd L k (nI (wL μ k))) (by omega) (fun j hj => by
      unfold upd
      by_cases h2 : j = k
      · rw [if_pos h2, h2]
      · rw [if_neg h2]; exact h j (by omega))
    refine ⟨L', j1, ?_⟩
    have a1 := NN_n μ A B L (k := k) (by omega)
    rw [hL k (by omega)] at a1
    have p1 := NN_lp μ A B L (nI (wL μ k)) (k := k) (by omega)
    rw [s_164_49, if_neg e6]
    simp (decide := true) only [s_164_56, s_164_60, s_164_66, s_164_71, s_164_72, Option.bind_some, x_tlv, x_tln, if_true, if_false, m_wa_1, m_wa_s, m_wb_1, m_wb_2, m_wb_s, m_ws_1, m_ws_b, m_ws_s, m_ws_e, m_we_1, m_we_b, m_we_s, m_we_e, mf_0, mf_1, mf_2, mf_3, mf_4, mf_5, mf_6, mf_7, mf_8, mf_9, mf_10, mf_11, mf_12, mf_13, mf_14, mf_15, mf_16, mf_17, mf_18, mf_19, mf_20, mf_21, mf_22, mf_23, mf_24, mf_25, mf_26, mf_27, mf_28, mf_29, mf_30, mp_4, mp_7, mp_9, mp_10, mp_12, mp_14, mp_15, mp_16, mp_17, mp_18, mp_19, mp_20, mi_0, x_a0, a1, p1, nI_1]
    exact j2
theorem x_msk : ∀ V, V < 64 → ∀ p, p < 6 → (nI V ||| (1 <<< (nI p &&& 31))) = nI (V ||| 2 ^ p) ∧ (V ||| 2 ^ p) < 64 ∧ ∀ j, j < 6 → ((((nI (V ||| 2 ^ p) >>> (nI j &&& 31)) &&& 1) = 1) ↔ (j = p ∨ ((nI V >>> (nI j &&& 31)) &&& 1) = 1)) := by decide +kernel
theorem x_msk0 : ∀ j, j < 6 → ¬ ((nI 0 >>> (nI j &&& 31)) &&& 1) = 1 := by decide +kernel
/-- where the model stands behind k wants -/
def LV (L I : Nat → Nat) (P k c : Nat) (Lo : Nat → Int32) (e : Int32) : Prop := (∃ R tc V, pl L I P k c = some (R, tc) ∧ (∀ p, p < 6 → Lo p = nI (R p)) ∧ e = nI V ∧ V < 64 ∧ ∀ p, p < 6 → ((((nI V >>> (nI p &&& 31)) &&& 1) = 1) ↔ R p ≠ L p)) ∨ (pl L I P k c = none ∧ (∃ p, p < 6 ∧ Lo p < 0) ∧ ∀ p, p < 6 → -(1980 * (k : Int)) ≤ (Lo p).toInt ∧ (Lo p).toInt ≤ 9999)
theorem sub_toInt {x : Int32} {b : Nat} (h1 : -100000 ≤ x.toInt) (h2 : x.toInt ≤ 100000) (hb : b ≤ 2000) : (x - nI b).toInt = x.toInt - b := by
  rw [Int32.toInt_sub, nI_toInt (by omega)]
  exact Int.bmod_eq_of_le (by omega) (by omega)
theorem LV_step {L I : Nat → Nat} {P k c t : Nat} {Lo : Nat → Int32} {e : Int32} (hP : P ≤ 6) (hk : k < 6) (ht : t < P) (hc : c < P ^ k) (hL : ∀ p, L p ≤ 9999) (hI : ∀ n, 1 ≤ I n) (hI2 : ∀ n, I n ≤ 1980) (h : LV L I P k c Lo e) : LV L I P (k + 1) (c * P + t) (upd Lo t (Lo t - nI (I k))) (e ||| (1 <<< (nI t &&& 31))) := by
  have i1 := hI k
  have i2 := hI2 k
  rcases h with ⟨R, tc, V, h1, h2, h3, h4, h5⟩ | ⟨h1, ⟨p, h2, h3⟩, h4⟩
  · obtain ⟨b1, b2, b3⟩ := pl_ok hP hI k c R tc hc h1
    have hch := pl_child (I := I) (L := L) ht h1
    by_cases hf : I k ≤ R t
    · rw [if_pos hf] at hch
      obtain ⟨m1, m2, m3⟩ := x_msk V h4 t (by omega)
      refine Or.inl ⟨_, _, V ||| 2 ^ t, hch, fun p hp => ?_, by rw [h3, m1], m2, fun p hp => ?_⟩
      · unfold upd nupd
        by_cases hpt : p = t
        · rw [if_pos hpt, if_pos hpt, h2 t (by omega), pk_sub hf]
        · rw [if_neg hpt, if_neg hpt]; exact h2 p hp
      · rw [m3 p hp]
        unfold nupd
        have := b1 t
        by_cases hpt : p = t
        · rw [if_pos hpt, hpt]
          exact ⟨fun _ => by omega, fun _ => Or.inl rfl⟩
        · rw [if_neg hpt]
          exact ⟨fun z => (h5 p hp).mp (z.resolve_left hpt), fun z => Or.inr ((h5 p hp).mpr z)⟩
    · rw [if_neg hf] at hch
      have hLt := hL t
      refine Or.inr ⟨hch, ⟨t, by omega, ?_⟩, fun p hp => ?_⟩
      · unfold upd
        rw [if_pos rfl, h2 t (by omega)]
        exact pk_sneg (by omega) (by omega)
      · have hb := b1 p
        have hLp := hL p
        unfold upd
        by_cases hpt : p = t
        · rw [if_pos hpt, h2 t (by omega), pk_sub_toInt (by omega) (by omega)]
          omega
        · rw [if_neg hpt, h2 p hp, nI_toInt (by omega)]
          omega
  · have hch : pl L I P (k + 1) (c * P + t) = none := pl_none 1 k c (c * P + t) h1 (by rw [Nat.pow_one]; exact (dv_c c t P ht).1)
    refine Or.inr ⟨hch, ⟨p, h2, ?_⟩, fun q hq => ?_⟩
    · unfold upd
      by_cases hpt : p = t
      · have := h4 t (by omega)
        rw [hpt] at h3
        rw [Int32.lt_iff_toInt_lt] at h3 ⊢
        rw [if_pos hpt, sub_toInt (by omega) (by omega) (by omega)]
        omega
      · rw [if_neg hpt]; exact h3
    · have := h4 q hq
      unfold upd
      by_cases hqt : q = t
      · have := h4 t (by omega)
        rw [if_pos hqt, sub_toInt (by omega) (by omega) (by omega)]
        omega
      · rw [if_neg hqt]; omega
theorem L_wants {σ : x_S} {μ : x_U} {U P N code : Nat} (d : Nat) (r : Int32) (hU : U ≤ 6) (hP : P ≤ 6) (hN : N ≤ 6) (c5 : μ.1 1 5 = nI N) (hu : S_use σ μ U) (hw : S_wan σ μ U N) (hL2 : ∀ p, wL μ p ≤ 9999) (hc : code < P ^ N) {A B : Nat → Int32} (hA : ∀ i, i < N → A i = nI (dg P N code i)) : ∀ m k (Lo : Nat → Int32) (e : Int32), k + m = N → LV (wL μ) (wI μ N) P k (code / P ^ (N - k)) Lo e → ∃ Lo' e', LV (wL μ) (wI μ N) P N code Lo' e' ∧ x_E x_P d x_c164 81 [.ref 0, .int (nI code), .int r, .int e, .int (nI k), x_j] [] (MG (NN μ A B Lo)) = x_E x_P d x_c164 160 [.ref 0, .int (nI code), .int r, .int e', .int 0, .int (nI 0)] [] (MG (NN μ A B Lo')) := by
  intro m
  induction m with
  | zero =>
    intro k Lo e hk h
    obtain rfl : k = N := by omega
    rw [Nat.sub_self, Nat.pow_zero, Nat.div_one] at h
    refine ⟨Lo, e, h, ?_⟩
    rw [s_164_81]; simp (decide := true) only [s_164_87, s_164_89, s_164_154, Option.bind_some, x_tlv, x_tln, if_true, if_false, m_wa_1, m_wa_s, m_wb_1, m_wb_2, m_wb_s, m_ws_1, m_ws_b, m_ws_s, m_ws_e, m_we_1, m_we_b, m_we_s, m_we_e, mf_0, mf_1, mf_2, mf_3, mf_4, mf_5, mf_6, mf_7, mf_8, mf_9, mf_10, mf_11, mf_12, mf_13, mf_14, mf_15, mf_16, mf_17, mf_18, mf_19, mf_20, mf_21, mf_22, mf_23, mf_24, mf_25, mf_26, mf_27, mf_28, mf_29, mf_30, mp_4, mp_7, mp_9, mp_10, mp_12, mp_14, mp_15, mp_16, mp_17, mp_18, mp_19, mp_20, mi_0, NN_5, c5, Int32.le_refl]
    rfl
  | succ m ih =>
    intro k Lo e hk h
    have T0 : 0 < P := by
      rcases Nat.eq_zero_or_pos P with h0 | h0
      · obtain ⟨s, rfl⟩ : ∃ s, N = s + 1 := ⟨N - 1, by omega⟩
        subst h0
        rw [Nat.pow_succ, Nat.mul_zero] at hc
        omega
      · exact h0
    have e0 : ¬ nI N ≤ nI k := nI_ge (by omega) (by omega)
    have hck : code / P ^ (N - k) < P ^ k := by
      rw [Nat.div_lt_iff_lt_mul (Nat.pow_pos T0), ← Nat.pow_add, show k + (N - k) = N by omega]
      exact hc
    have tT : dg P N code k < P := Nat.mod_lt _ T0
    have hx : code / P ^ (N - (k + 1)) = code / P ^ (N - k) * P + dg P N code k := by
      have h1 : code / P ^ (N - k) = code / P ^ (N - (k + 1)) / P := by rw [show N - k = (N - (k + 1)) + 1 by omega, dv_s]
      have h2 : dg P N code k = code / P ^ (N - (k + 1)) % P := by
        unfold dg
        rw [show N - 1 - k = N - (k + 1) by omega]
      rw [h1, h2, Nat.mul_comm, Nat.div_add_mod]
    have r1 := hA k (by omega)
    generalize dg P N code k = t at tT hx r1
    have h2 := LV_step hP (by omega) tT hck hL2 (wI_1 hU hu hw) (wI_le hU hu hw) h
    rw [← hx] at h2
    obtain ⟨Lo', e', j1, j2⟩ := ih (k + 1) _ _ (by omega) h2
    refine ⟨Lo', e', j1, ?_⟩
    obtain ⟨w, y, a, w0, -, w2, -, w4, -, w6, -, -, -, -, w7⟩ := wI_ok hU hu hw (show k < N by omega)
    have a1 := NN_aa μ A B Lo (k := k) (by omega)
    rw [r1] at a1
    have a2 := NN_la μ A B Lo (k := t) (by omega)
    have a3 := NN_t μ A B Lo (k := 62 + k) (by omega)
    rw [w4] at a3
    have a4 := NN_t μ A B Lo (k := 56 + k) (by omega)
    rw [w2] at a4
    have a5 := NN_t μ A B Lo (k := 6 + a) (by omega)
    rw [w6] at a5
    have p1 := NN_lp μ A B Lo (Lo t - nI (wI μ N k)) (k := t) (by omega)
    have a6 := NN_aa μ A B (upd Lo t (Lo t - nI (wI μ N k))) (k := k) (by omega)
    rw [r1] at a6
    rw [w7] at p1 a6 j2
    rw [s_164_81]; simp (decide := true) only [s_164_87, s_164_89, s_164_92, s_164_96, s_164_100, s_164_103, s_164_105, s_164_109, s_164_115, s_164_119, s_164_125, s_164_131, s_164_133, s_164_136, s_164_142, s_164_145, Option.bind_some, x_tlv, x_tln, if_true, if_false, m_wa_1, m_wa_s, m_wb_1, m_wb_2, m_wb_s, m_ws_1, m_ws_b, m_ws_s, m_ws_e, m_we_1, m_we_b, m_we_s, m_we_e, mf_0, mf_1, mf_2, mf_3, mf_4, mf_5, mf_6, mf_7, mf_8, mf_9, mf_10, mf_11, mf_12, mf_13, mf_14, mf_15, mf_16, mf_17, mf_18, mf_19, mf_20, mf_21, mf_22, mf_23, mf_24, mf_25, mf_26, mf_27, mf_28, mf_29, mf_30, mp_4, mp_7, mp_9, mp_10, mp_12, mp_14, mp_15, mp_16, mp_17, mp_18, mp_19, mp_20, mi_0, NN_5, c5, e0, a1, a2, x_a62, a3, x_a56, a4, x_a6, a5, pk_mul, p1, a6, nI_1]
    exact j2
theorem L_far (d : Nat) (μ : x_U) (code r e M : Int32) (hM : (1000000 : Int32) = M) (A B Lo : Nat → Int32) : ∀ m g (sm : Int32), g + m = 6 → (∃ p, g ≤ p ∧ p < 6 ∧ Lo p < 0) → x_E x_P (d + 1) x_c164 160 [.ref 0, .int code, .int r, .int e, .int sm, .int (nI g)] [] (MG (NN μ A B Lo)) = some (some (.int M), MG (NN μ A B Lo)) := by
  intro m
  induction m with
  | zero => intro g sm hg ⟨p, h1, h2, h3⟩; omega
  | succ m ih =>
    intro g sm hg ⟨p, h1, h2, h3⟩
    have e6 : ¬ (6 : Int32) ≤ nI g := nI_ge (b := 6) (by omega) (by omega)
    have a1 := NN_la μ A B Lo (k := g) (by omega)
    by_cases hn : 0 ≤ Lo g
    · have hp : ∃ p, g + 1 ≤ p ∧ p < 6 ∧ Lo p < 0 := by
        refine ⟨p, ?_, h2, h3⟩
        by_cases hpg : p = g
        · rw [hpg] at h3; exact absurd hn (Int32.not_le.mpr h3)
        · omega
      by_cases hb : ((e >>> (nI g &&& 31)) &&& 1) = 1
      · have j := ih (g + 1) (sm + Lo g) (by omega) hp
        rw [s_164_160, if_neg e6]; simp (decide := true) only [s_164_167, s_164_171, s_164_174, s_164_180, s_164_188, s_164_191, s_164_195, s_164_198, Option.bind_some, x_tlv, x_tln, if_true, if_false, m_wa_1, m_wa_s, m_wb_1, m_wb_2, m_wb_s, m_ws_1, m_ws_b, m_ws_s, m_ws_e, m_we_1, m_we_b, m_we_s, m_we_e, mf_0, mf_1, mf_2, mf_3, mf_4, mf_5, mf_6, mf_7, mf_8, mf_9, mf_10, mf_11, mf_12, mf_13, mf_14, mf_15, mf_16, mf_17, mf_18, mf_19, mf_20, mf_21, mf_22, mf_23, mf_24, mf_25, mf_26, mf_27, mf_28, mf_29, mf_30, mp_4, mp_7, mp_9, mp_10, mp_12, mp_14, mp_15, mp_16, mp_17, mp_18, mp_19, mp_20, mi_0, a1, hn, M_has, x_b_t hb, nI_1]
        exact j
      · have j := ih (g + 1) (sm + 0) (by omega) hp
        rw [s_164_160, if_neg e6]; simp (decide := true) only [s_164_167, s_164_171, s_164_174, s_164_180, s_164_188, s_164_201, Option.bind_some, x_tlv, x_tln, if_true, if_false, m_wa_1, m_wa_s, m_wb_1, m_wb_2, m_wb_s, m_ws_1, m_ws_b, m_ws_s, m_ws_e, m_we_1, m_we_b, m_we_s, m_we_e, mf_0, mf_1, mf_2, mf_3, mf_4, mf_5, mf_6, mf_7, mf_8, mf_9, mf_10, mf_11, mf_12, mf_13, mf_14, mf_15, mf_16, mf_17, mf_18, mf_19, mf_20, mf_21, mf_22, mf_23, mf_24, mf_25, mf_26, mf_27, mf_28, mf_29, mf_30, mp_4, mp_7, mp_9, mp_10, mp_12, mp_14, mp_15, mp_16, mp_17, mp_18, mp_19, mp_20, mi_0, a1, hn, M_has, x_b_f hb, nI_1]
        exact j
    · rw [s_164_160, if_neg e6]; simp (decide := true) only [s_164_167, s_164_171, s_164_174, s_164_177, Option.bind_some, x_tlv, x_tln, if_true, if_false, m_wa_1, m_wa_s, m_wb_1, m_wb_2, m_wb_s, m_ws_1, m_ws_b, m_ws_s, m_ws_e, m_we_1, m_we_b, m_we_s, m_we_e, mf_0, mf_1, mf_2, mf_3, mf_4, mf_5, mf_6, mf_7, mf_8, mf_9, mf_10, mf_11, mf_12, mf_13, mf_14, mf_15, mf_16, mf_17, mf_18, mf_19, mf_20, mf_21, mf_22, mf_23, mf_24, mf_25, mf_26, mf_27, mf_28, mf_29, mf_30, mp_4, mp_7, mp_9, mp_10, mp_12, mp_14, mp_15, mp_16, mp_17, mp_18, mp_19, mp_20, mi_0, a1, hn, hM]
theorem L_sum {μ : x_U} {L R : Nat → Nat} {V : Nat} (d : Nat) (code r : Int32) (A B Lo : Nat → Int32) (hLo : ∀ p, p < 6 → Lo p = nI (R p)) (hR : ∀ p, R p ≤ 9999) (hV : ∀ p, p < 6 → ((((nI V >>> (nI p &&& 31)) &&& 1) = 1) ↔ R p ≠ L p)) : ∀ m g, g + m = 6 → x_E x_P (d + 1) x_c164 160 [.ref 0, .int code, .int r, .int (nI V), .int (nI (ksum (lft L R) g)), .int (nI g)] [] (MG (NN μ A B Lo)) = some (some (.int (nI (s6 (lft L R)))), MG (NN μ A B Lo)) := by
  intro m
  induction m with
  | zero =>
    intro g hg
    obtain rfl : g = 6 := by omega
    have e6 : (6 : Int32) ≤ nI 6 := by decide
    rw [s_164_160, if_pos e6, s_164_211]
    have : ksum (lft L R) 6 = s6 (lft L R) := by
      show 0 + lft L R 0 + lft L R 1 + lft L R 2 + lft L R 3 + lft L R 4 + lft L R 5 = _
      unfold s6
      omega
    rw [this]
  | succ m ih =>
    intro g hg
    have e6 : ¬ (6 : Int32) ≤ nI g := nI_ge (b := 6) (by omega) (by omega)
    have a1 := NN_la μ A B Lo (k := g) (by omega)
    rw [hLo g (by omega)] at a1
    have hb := hR g
    have hn : 0 ≤ nI (R g) := nI_pos' (by omega)
    have j := ih (g + 1) (by omega)
    by_cases hc : R g ≠ L g
    · have hb1 := (hV g (by omega)).mpr hc
      have e1 : nI (ksum (lft L R) g) + nI (R g) = nI (ksum (lft L R) (g + 1)) := by
        rw [nI_add]
        show _ = nI (ksum (lft L R) g + lft L R g)
        unfold lft
        rw [if_neg hc]
      rw [s_164_160, if_neg e6]; simp (decide := true) only [s_164_167, s_164_171, s_164_174, s_164_180, s_164_188, s_164_191, s_164_195, s_164_198, Option.bind_some, x_tlv, x_tln, if_true, if_false, m_wa_1, m_wa_s, m_wb_1, m_wb_2, m_wb_s, m_ws_1, m_ws_b, m_ws_s, m_ws_e, m_we_1, m_we_b, m_we_s, m_we_e, mf_0, mf_1, mf_2, mf_3, mf_4, mf_5, mf_6, mf_7, mf_8, mf_9, mf_10, mf_11, mf_12, mf_13, mf_14, mf_15, mf_16, mf_17, mf_18, mf_19, mf_20, mf_21, mf_22, mf_23, mf_24, mf_25, mf_26, mf_27, mf_28, mf_29, mf_30, mp_4, mp_7, mp_9, mp_10, mp_12, mp_14, mp_15, mp_16, mp_17, mp_18, mp_19, mp_20, mi_0, a1, hn, M_has, x_b_t hb1, nI_1, e1]
      exact j
    · have hb1 := (not_congr (hV g (by omega))).mpr hc
      have e1 : nI (ksum (lft L R) g) + 0 = nI (ksum (lft L R) (g + 1)) := by
        rw [Int32.add_zero]
        show _ = nI (ksum (lft L R) g + lft L R g)
        unfold lft
        rw [if_pos (Classical.not_not.mp hc), Nat.add_zero]
      rw [s_164_160, if_neg e6]; simp (decide := true) only [s_164_167, s_164_171, s_164_174, s_164_180, s_164_188, s_164_201, Option.bind_some, x_tlv, x_tln, if_true, if_false, m_wa_1, m_wa_s, m_wb_1, m_wb_2, m_wb_s, m_ws_1, m_ws_b, m_ws_s, m_ws_e, m_we_1, m_we_b, m_we_s, m_we_e, mf_0, mf_1, mf_2, mf_3, mf_4, mf_5, mf_6, mf_7, mf_8, mf_9, mf_10, mf_11, mf_12, mf_13, mf_14, mf_15, mf_16, mf_17, mf_18, mf_19, mf_20, mf_21, mf_22, mf_23, mf_24, mf_25, mf_26, mf_27, mf_28, mf_29, mf_30, mp_4, mp_7, mp_9, mp_10, mp_12, mp_14, mp_15, mp_16, mp_17, mp_18, mp_19, mp_20, mi_0, a1, hn, M_has, x_b_f hb1, nI_1, e1]
      exact j
/-- the least that is left, as a number: so many when there is none -/
def lvn (M W v : Nat) : Nat := if v = 0 then M else 60000 - v - W
theorem M_leaves {σ : x_S} {μ : x_U} {U P N code M : Nat} (d : Nat) (hU : U ≤ 6) (hP : P ≤ 6) (hN : N ≤ 6) (c4 : μ.1 1 4 = nI P) (c5 : μ.1 1 5 = nI N) (hu : S_use σ μ U) (hw : S_wan σ μ U N) (hL : ∀ p, p < 6 → μ.1 3 p = nI (wL μ p)) (hL2 : ∀ p, wL μ p ≤ 9999) (hc : code < P ^ N) (hM : (1000000 : Int32) = nI M) (A B Lo : Nat → Int32) : ∃ A' Lo', (∀ i, i < N → A' i = nI (dg P N code i)) ∧ x_R x_P (d + 2) 164 [.ref 0, .int (nI code)] (MG (NN μ A B Lo)) = some (some (.int (nI (lvn M (sI (wI μ N) N) (cv (wL μ) (wI μ N) P N code)))), MG (NN μ A' B Lo')) := by
  have hT0 : 0 < P ∨ N = 0 := by
    rcases Nat.eq_zero_or_pos P with h0 | h0
    · rcases Nat.eq_zero_or_pos N with h1 | h1
      · exact Or.inr h1
      · obtain ⟨s, rfl⟩ : ∃ s, N = s + 1 := ⟨N - 1, by omega⟩
        subst h0
        rw [Nat.pow_succ, Nat.mul_zero] at hc
        omega
    · exact Or.inl h0
  obtain ⟨A1, r, i1, i2⟩ := L_dig (d + 1) hP hT0 hN c4 hc B Lo N A (Nat.le_refl _) (fun i h1 h2 => by omega)
  rw [Nat.sub_self, Nat.pow_zero, Nat.div_one] at i2
  obtain ⟨L1, j1, j2⟩ := L_now (d + 1) μ (nI code) r 0 A1 B hL 6 0 Lo (by omega) (fun j hj => absurd hj (Nat.not_lt_zero j))
  have hz : code / P ^ (N - 0) = 0 := Nat.div_eq_of_lt hc
  obtain ⟨L2, e2, k1, k2⟩ := L_wants (B := B) (d + 1) r hU hP hN c5 hu hw hL2 hc i1 N 0 L1 0 (by omega) (Or.inl ⟨wL μ, 0, 0, rfl, j1, rfl, by omega, fun p hp => ⟨fun z => absurd z (x_msk0 p hp), fun z => absurd rfl z⟩⟩)
  refine ⟨A1, L2, i1, ?_⟩
  rw [r_164]
  simp (decide := true) only [s_164_0, s_164_6, s_164_8, Option.bind_some, x_tlv, x_tln, if_true, if_false, m_wa_1, m_wa_s, m_wb_1, m_wb_2, m_wb_s, m_ws_1, m_ws_b, m_ws_s, m_ws_e, m_we_1, m_we_b, m_we_s, m_we_e, mf_0, mf_1, mf_2, mf_3, mf_4, mf_5, mf_6, mf_7, mf_8, mf_9, mf_10, mf_11, mf_12, mf_13, mf_14, mf_15, mf_16, mf_17, mf_18, mf_19, mf_20, mf_21, mf_22, mf_23, mf_24, mf_25, mf_26, mf_27, mf_28, mf_29, mf_30, mp_4, mp_7, mp_9, mp_10, mp_12, mp_14, mp_15, mp_16, mp_17, mp_18, mp_19, mp_20, mi_0, NN_5, c5, x_m1]
  refine i2.trans (j2.trans (k2.trans ?_))
  rcases k1 with ⟨R, tc, V, h1, h2, h3, h4, h5⟩ | ⟨h1, ⟨p, h2, h3⟩, h4⟩
  · obtain ⟨b1, b2, b3⟩ := pl_ok hP (wI_1 hU hu hw) N code R tc hc h1
    have b4 := pl_left hP (wI_1 hU hu hw) hc h1
    have b5 : tc ≤ 59994 := by rw [b2]; exact tch_le hL2
    subst h3
    have hs := L_sum (μ := μ) (L := wL μ) (R := R) (V := V) d (nI code) r A1 B L2 h2 (fun p => Nat.le_trans (b1 p) (hL2 p)) h5 6 0 (by omega)
    rw [cv_some h1]
    unfold lvn
    rw [if_neg (by omega), show 60000 - (60000 - tc) - sI (wI μ N) N = s6 (lft (wL μ) R) by omega]
    exact hs
  · rw [cv_none h1]
    exact L_far d μ (nI code) r e2 (nI M) hM A1 B L2 6 0 0 (by omega) ⟨p, Nat.zero_le _, h2, h3⟩
