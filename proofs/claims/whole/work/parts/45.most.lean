/-! ways: the model goes; most -/
def MM (μ : x_U) (B R : Nat → Int32) : x_U := m_wa (m_wa μ 13 B) 12 R
theorem MM_id (μ : x_U) : MM μ (μ.1 13) (μ.1 12) = μ := by
  unfold MM
  rw [m_wa_id]
  exact m_wa_id μ 12
theorem MM_B (μ : x_U) (B R f : Nat → Int32) : m_wa (MM μ B R) 13 f = MM μ f R := by
  unfold MM
  rw [m_wa_cm _ (by decide), m_wa_wa, m_wa_cm _ (by decide)]
theorem MM_R (μ : x_U) (B R f : Nat → Int32) : m_wa (MM μ B R) 12 f = MM μ B f := by
  unfold MM
  rw [m_wa_wa]
theorem MM_ba (μ : x_U) (B R : Nat → Int32) {k : Nat} (h : k < 4) : x_ild (MG (MM μ B R)) 13 0 (nI k) = some (B k) := md13n _ h
theorem MM_ra (μ : x_U) (B R : Nat → Int32) {k : Nat} (h : k < 4) : x_ild (MG (MM μ B R)) 12 0 (nI k) = some (R k) := md12n _ h
theorem MM_bp (μ : x_U) (B R : Nat → Int32) (v : Int32) {k : Nat} (h : k < 4) : x_ist (MG (MM μ B R)) 13 0 (nI k) v = some (MG (MM μ (upd B k v) R)) := by rw [mt13n _ v h]; exact congrArg (fun z => some (MG z)) (MM_B μ B R _)
theorem MM_rp (μ : x_U) (B R : Nat → Int32) (v : Int32) {k : Nat} (h : k < 4) : x_ist (MG (MM μ B R)) 12 0 (nI k) v = some (MG (MM μ B (upd R k v))) := by rw [mt12n _ v h]; exact congrArg (fun z => some (MG z)) (MM_R μ B R _)
theorem MM_t (μ : x_U) (B R : Nat → Int32) {k : Nat} (h : k < 68) : x_ild (MG (MM μ B R)) 1 0 (nI k) = some (μ.1 1 k) := md1n _ h
theorem MM_3 (μ : x_U) (B R : Nat → Int32) : x_ild (MG (MM μ B R)) 1 0 3 = some (μ.1 1 3) := rfl
theorem x_m1 (a : Int32) : a - 1 = a + (-1) := Int32.sub_eq_add_neg a 1
theorem M_dig {μ : x_U} {T k code : Nat} (d : Nat) (a b n : Int32) (hT : T ≤ 8) (hT0 : 0 < T ∨ k = 0) (hk : k ≤ 4) (c4 : μ.1 1 3 = nI T) (hc : code < T ^ k) (B : Nat → Int32) : ∀ s (R : Nat → Int32), s ≤ k → (∀ i, s ≤ i → i < k → R i = nI (dg T k code i)) → ∃ R' r, (∀ i, i < k → R' i = nI (dg T k code i)) ∧ x_E x_P d x_c158 10 [.ref 0, .int a, .int b, .int n, .int (nI k), .int (nI code), .int (nI (code / T ^ (k - s))), .int (nI s + (-1)), x_j, x_j] [] (MG (MM μ B R)) = x_E x_P d x_c158 57 [.ref 0, .int a, .int b, .int n, .int (nI k), .int (nI code), .int r, .int a, .int n, .int (nI 0)] [] (MG (MM μ B R')) := by
  have pb := pow_b hT hk
  intro s
  induction s with
  | zero =>
    intro R hs hR
    have e0 : nI 0 + (-1) < 0 := by decide
    refine ⟨R, nI (code / T ^ (k - 0)), fun i hi => hR i (Nat.zero_le _) hi, ?_⟩
    rw [s_158_10, if_pos e0, s_158_48]
    rfl
  | succ s ih =>
    intro R hs hR
    have T0 : 0 < T := by omega
    have e0 : ¬ nI s < 0 := nI_pos (by omega)
    have eT : ¬ nI T = 0 := nI_ne0 T0 (by omega)
    have q1 : code / T ^ (k - (s + 1)) ≤ code := Nat.div_le_self _ _
    have q2 := pk_rem (a := code / T ^ (k - (s + 1))) (d := T) (by omega) T0 (by omega)
    have q3 := pk_div (a := code / T ^ (k - (s + 1))) (d := T) (by omega) T0 (by omega)
    have q4 : code / T ^ (k - (s + 1)) / T = code / T ^ (k - s) := by
      rw [show k - s = (k - (s + 1)) + 1 by omega, dv_s]
    have q5 : code / T ^ (k - (s + 1)) % T = dg T k code s := by
      unfold dg
      rw [show k - 1 - s = k - (s + 1) by omega]
    rw [q5] at q2
    rw [q4] at q3
    obtain ⟨R', r, i1, i2⟩ := ih (upd R s (nI (dg T k code s))) (by omega) (fun i h1 h2 => by
      unfold upd
      by_cases h : i = s
      · rw [if_pos h, h]
      · rw [if_neg h]; exact hR i (by omega) h2)
    refine ⟨R', r, i1, ?_⟩
    have pw := MM_rp μ B R (nI (dg T k code s)) (k := s) (by omega)
    rw [pk_m1, s_158_10, if_neg e0]
    simp (decide := true) only [s_158_15, s_158_19, s_158_27, s_158_29, s_158_30, s_158_31, Option.bind_some, x_tlv, x_tln, if_true, if_false, m_wa_1, m_wa_s, m_wb_1, m_wb_2, m_wb_s, m_ws_1, m_ws_b, m_ws_s, m_ws_e, m_we_1, m_we_b, m_we_s, m_we_e, mf_0, mf_1, mf_2, mf_3, mf_4, mf_5, mf_6, mf_7, mf_8, mf_9, mf_10, mf_11, mf_12, mf_13, mf_14, mf_15, mf_16, mf_17, mf_18, mf_19, mf_20, mf_21, mf_22, mf_23, mf_24, mf_25, mf_26, mf_27, mf_28, mf_29, mf_30, mp_4, mp_7, mp_9, mp_10, mp_12, mp_14, mp_15, mp_16, mp_17, mp_18, mp_19, mp_20, mi_0, MM_3, c4, eT, not_false_eq_true, q2, pw]
    simp (decide := true) only [s_158_37, s_158_39, s_158_40, Option.bind_some, x_tlv, x_tln, if_true, if_false, m_wa_1, m_wa_s, m_wb_1, m_wb_2, m_wb_s, m_ws_1, m_ws_b, m_ws_s, m_ws_e, m_we_1, m_we_b, m_we_s, m_we_e, mf_0, mf_1, mf_2, mf_3, mf_4, mf_5, mf_6, mf_7, mf_8, mf_9, mf_10, mf_11, mf_12, mf_13, mf_14, mf_15, mf_16, mf_17, mf_18, mf_19, mf_20, mf_21, mf_22, mf_23, mf_24, mf_25, mf_26, mf_27, mf_28, mf_29, mf_30, mp_4, mp_7, mp_9, mp_10, mp_12, mp_14, mp_15, mp_16, mp_17, mp_18, mp_19, mp_20, mi_0, MM_3, c4, eT, not_false_eq_true, q3]
    exact i2
theorem M_go {σ : x_S} {μ : x_U} {U T a b n k code : Nat} (d : Nat) (r : Int32) (hU : U ≤ 6) (hT : T ≤ 8) (ht : S_tab σ μ U T) (ha : a < U) (hb : b < U) (hn : n ≤ 99) (hk : k ≤ 4) (hc : code < T ^ k) {B R : Nat → Int32} (hR : ∀ i, i < k → R i = nI (dg T k code i)) : ∀ m i u y, i + m = k → pos μ T a n i (code / T ^ (k - i)) = some (u, y) → x_E x_P (d + 1) x_c158 57 [.ref 0, .int (nI a), .int (nI b), .int (nI n), .int (nI k), .int (nI code), .int r, .int (nI u), .int (nI y), .int (nI i)] [] (MG (MM μ B R)) = some (some (.int (eN (val μ T a b n k code))), MG (MM μ B R)) := by
  intro m
  induction m with
  | zero =>
    intro i u y hi hp
    obtain rfl : i = k := by omega
    rw [Nat.sub_self, Nat.pow_zero, Nat.div_one] at hp
    have hv := val_some (b := b) hp
    obtain ⟨p1, p2⟩ := pos_ok hU ht ha hn i code u y hc hp
    rw [s_158_57, if_pos (Int32.le_refl _), s_158_125]
    by_cases hub : u = b
    · rw [if_pos hub] at hv
      rw [if_pos (show nI u = nI b by rw [hub]), s_158_131, hv, eN_s]
    · rw [if_neg hub] at hv
      rw [if_neg (fun q => hub ((nI_eq (by omega) (by omega)).mp q)), s_158_136, hv, eN_0]
  | succ m ih =>
    intro i u y hi hp
    have T0 : 0 < T := by
      rcases Nat.eq_zero_or_pos T with h0 | h0
      · obtain ⟨s, rfl⟩ : ∃ s, k = s + 1 := ⟨k - 1, by omega⟩
        subst h0
        rw [Nat.pow_succ, Nat.mul_zero] at hc
        omega
      · exact h0
    have hci : code / T ^ (k - i) < T ^ i := by
      rw [Nat.div_lt_iff_lt_mul (Nat.pow_pos T0), ← Nat.pow_add, show i + (k - i) = k by omega]
      exact hc
    obtain ⟨p1, p2⟩ := pos_ok hU ht ha hn i _ u y hci hp
    have p3 : y ≤ 99 * 20 ^ 3 := Nat.le_trans p2 (Nat.mul_le_mul_left _ (Nat.pow_le_pow_right (by omega) (by omega)))
    have e0 : ¬ nI k ≤ nI i := nI_ge (by omega) (by omega)
    have tT : dg T k code i < T := Nat.mod_lt _ T0
    have Bt := TB.of hU ht tT
    have tU := Bt.tU
    have fU := Bt.fU
    have hx : code / T ^ (k - (i + 1)) = code / T ^ (k - i) * T + dg T k code i := by
      have h1 : code / T ^ (k - i) = code / T ^ (k - (i + 1)) / T := by rw [show k - i = (k - (i + 1)) + 1 by omega, dv_s]
      have h2 : dg T k code i = code / T ^ (k - (i + 1)) % T := by
        unfold dg
        rw [show k - 1 - i = k - (i + 1) by omega]
      rw [h1, h2, Nat.mul_comm, Nat.div_add_mod]
    have hch := pos_child tT hp
    rw [← hx] at hch
    have r1 := MM_ra μ B R (k := i) (by omega)
    rw [hR i (by omega)] at r1
    generalize dg T k code i = t at tT Bt tU fU hch r1
    have v1 := MM_t μ B R (k := 12 + t) (by omega)
    have v2 := MM_t μ B R (k := 20 + t) (by omega)
    rw [Bt.fM] at v1
    rw [Bt.tM] at v2
    by_cases hf : tFr μ t = u
    · rw [if_pos hf] at hch
      have ef : nI (tFr μ t) = nI u := by rw [hf]
      have e3 : y * tGt μ t ≤ 99 * 20 ^ 3 * 20 := Nat.mul_le_mul p3 Bt.h2
      have gg := Bt.g1
      have g2 := Bt.g2
      have hM := M_turned d (MM μ B R) (t := t) (k := y) (g := tGv μ t) (h := tGt μ t) (D := 0) (by omega) (by omega) (by omega) (by omega) (by omega) (by rw [Nat.mul_zero]; omega) Bt.gM Bt.hM
      rw [Nat.mul_zero, Nat.zero_div, Nat.sub_zero] at hM
      have hM : x_R x_P (d + 1) 145 [.ref 0, .int (nI y), .int (nI t), .int 0] (MG (MM μ B R)) = _ := hM
      have j1 := ih (i + 1) _ _ (by omega) hch
      rw [s_158_57, if_neg e0]
      simp (decide := true) only [s_158_64, s_158_68, s_158_74, s_158_77, s_158_79, s_158_86, s_158_93, s_158_96, Option.bind_some, x_tlv, x_tln, if_true, if_false, m_wa_1, m_wa_s, m_wb_1, m_wb_2, m_wb_s, m_ws_1, m_ws_b, m_ws_s, m_ws_e, m_we_1, m_we_b, m_we_s, m_we_e, mf_0, mf_1, mf_2, mf_3, mf_4, mf_5, mf_6, mf_7, mf_8, mf_9, mf_10, mf_11, mf_12, mf_13, mf_14, mf_15, mf_16, mf_17, mf_18, mf_19, mf_20, mf_21, mf_22, mf_23, mf_24, mf_25, mf_26, mf_27, mf_28, mf_29, mf_30, mp_4, mp_7, mp_9, mp_10, mp_12, mp_14, mp_15, mp_16, mp_17, mp_18, mp_19, mp_20, mi_0, r1, x_a12, v1, ef, hM]
      simp (decide := true) only [s_158_100, s_158_106, s_158_112, s_158_115, s_158_117, Option.bind_some, x_tlv, x_tln, if_true, if_false, m_wa_1, m_wa_s, m_wb_1, m_wb_2, m_wb_s, m_ws_1, m_ws_b, m_ws_s, m_ws_e, m_we_1, m_we_b, m_we_s, m_we_e, mf_0, mf_1, mf_2, mf_3, mf_4, mf_5, mf_6, mf_7, mf_8, mf_9, mf_10, mf_11, mf_12, mf_13, mf_14, mf_15, mf_16, mf_17, mf_18, mf_19, mf_20, mf_21, mf_22, mf_23, mf_24, mf_25, mf_26, mf_27, mf_28, mf_29, mf_30, mp_4, mp_7, mp_9, mp_10, mp_12, mp_14, mp_15, mp_16, mp_17, mp_18, mp_19, mp_20, mi_0, r1, x_a20, v2, nI_1]
      exact j1
    · rw [if_neg hf] at hch
      have ef : ¬ nI (tFr μ t) = nI u := fun q => hf ((nI_eq (by omega) (by omega)).mp q)
      have hnone := pos_none (k - (i + 1)) (i + 1) _ code hch rfl
      rw [show i + 1 + (k - (i + 1)) = k by omega] at hnone
      rw [s_158_57, if_neg e0]
      simp (decide := true) only [s_158_64, s_158_68, s_158_74, s_158_77, s_158_79, s_158_84, Option.bind_some, x_tlv, x_tln, if_true, if_false, m_wa_1, m_wa_s, m_wb_1, m_wb_2, m_wb_s, m_ws_1, m_ws_b, m_ws_s, m_ws_e, m_we_1, m_we_b, m_we_s, m_we_e, mf_0, mf_1, mf_2, mf_3, mf_4, mf_5, mf_6, mf_7, mf_8, mf_9, mf_10, mf_11, mf_12, mf_13, mf_14, mf_15, mf_16, mf_17, mf_18, mf_19, mf_20, mf_21, mf_22, mf_23, mf_24, mf_25, mf_26, mf_27, mf_28, mf_29, mf_30, mp_4, mp_7, mp_9, mp_10, mp_12, mp_14, mp_15, mp_16, mp_17, mp_18, mp_19, mp_20, mi_0, r1, x_a12, v1, ef]
      rw [val_none hnone, eN_0]
theorem M_goes {σ : x_S} {μ : x_U} {U T a b n k code : Nat} (d : Nat) (hU : U ≤ 6) (hT : T ≤ 8) (c4 : μ.1 1 3 = nI T) (ht : S_tab σ μ U T) (ha : a < U) (hb : b < U) (hn : n ≤ 99) (hk : k ≤ 4) (hc : code < T ^ k) (B R : Nat → Int32) : ∃ R', (∀ i, i < k → R' i = nI (dg T k code i)) ∧ x_R x_P (d + 2) 158 [.ref 0, .int (nI a), .int (nI b), .int (nI n), .int (nI k), .int (nI code)] (MG (MM μ B R)) = some (some (.int (eN (val μ T a b n k code))), MG (MM μ B R')) := by
  have hT0 : 0 < T ∨ k = 0 := by
    rcases Nat.eq_zero_or_pos T with h0 | h0
    · rcases Nat.eq_zero_or_pos k with h1 | h1
      · exact Or.inr h1
      · obtain ⟨s, rfl⟩ : ∃ s, k = s + 1 := ⟨k - 1, by omega⟩
        subst h0
        rw [Nat.pow_succ, Nat.mul_zero] at hc
        omega
    · exact Or.inl h0
  obtain ⟨R', r, i1, i2⟩ := M_dig (d + 1) (nI a) (nI b) (nI n) hT hT0 hk c4 hc B k R (Nat.le_refl _) (fun i h1 h2 => by omega)
  rw [Nat.sub_self, Nat.pow_zero, Nat.div_one] at i2
  have hz : code / T ^ (k - 0) = 0 := Nat.div_eq_of_lt hc
  have j1 := M_go (B := B) d r hU hT ht ha hb hn hk hc i1 k 0 a n (by omega) (by rw [hz]; rfl)
  refine ⟨R', i1, ?_⟩
  rw [r_158, s_158_0, x_m1]
  exact i2.trans j1
theorem M_cpm (d : Nat) (μ : x_U) (R : Nat → Int32) (as : List Value) (a b n i0 g t0 j l m : Int32) {k : Nat} (hk : k ≤ 4) : ∀ r i (B : Nat → Int32), i + r = k → (∀ j, j < i → B j = R j) → ∃ B' n', (∀ j, j < k → B' j = R j) ∧ x_E x_P d x_c159 93 [.ref 0, .int a, .int b, .int n, .int i0, .int g, .int t0, .int j, .int (nI k), .int l, .int m, .int (nI i)] [] (MG (MM μ B R)) = x_E x_P d x_c159 120 [.ref 0, .int a, .int b, .int n, .int i0, .int g, .int t0, .int j, .int (nI k), .int l, .int m, .int n'] [] (MG (MM μ B' R)) := by
  intro r
  induction r with
  | zero =>
    intro i B hi hB
    obtain rfl : i = k := by omega
    exact ⟨B, nI i, hB, by rw [s_159_93, if_pos (Int32.le_refl _)]⟩
  | succ r ih =>
    intro i B hi hB
    have e : ¬ nI k ≤ nI i := nI_ge (by omega) (by omega)
    obtain ⟨B', n', j1, j2⟩ := ih (i + 1) (upd B i (R i)) (by omega) (fun j hj => by
      unfold upd
      by_cases h : j = i
      · rw [if_pos h, h]
      · rw [if_neg h]; exact hB j (by omega))
    refine ⟨B', n', j1, ?_⟩
    have a1 := MM_ra μ B R (k := i) (by omega)
    have p1 := MM_bp μ B R (R i) (k := i) (by omega)
    rw [s_159_93, if_neg e]
    simp (decide := true) only [s_159_100, s_159_104, s_159_110, s_159_113, s_159_114, Option.bind_some, x_tlv, x_tln, if_true, if_false, m_wa_1, m_wa_s, m_wb_1, m_wb_2, m_wb_s, m_ws_1, m_ws_b, m_ws_s, m_ws_e, m_we_1, m_we_b, m_we_s, m_we_e, mf_0, mf_1, mf_2, mf_3, mf_4, mf_5, mf_6, mf_7, mf_8, mf_9, mf_10, mf_11, mf_12, mf_13, mf_14, mf_15, mf_16, mf_17, mf_18, mf_19, mf_20, mf_21, mf_22, mf_23, mf_24, mf_25, mf_26, mf_27, mf_28, mf_29, mf_30, mp_4, mp_7, mp_9, mp_10, mp_12, mp_14, mp_15, mp_16, mp_17, mp_18, mp_19, mp_20, mi_0, a1, p1, nI_1]
    exact j2
theorem M_in1 {σ : x_S} {μ : x_U} {U T a b n k : Nat} (d : Nat) (q : Int32) (hU : U ≤ 6) (hT : T ≤ 8) (c4 : μ.1 1 3 = nI T) (ht : S_tab σ μ U T) (ha : a < U) (hb : b < U) (hn : n ≤ 99) (hk : k ≤ 4) : ∀ r c v K C (LL : Int32) (B R : Nat → Int32) (m o : Value), c + r = T ^ k → Att μ T a b n v K C B → (v ≠ 0 → LL = nI K) → (v ≠ 0 → K < k ∨ (K = k ∧ C < c)) → (∀ j x, x < T ^ j → (j < k ∨ (j = k ∧ x < c)) → key (val μ T a b n j x) j x ≤ key v K C) → ∃ v' K' C' LL' B' R' m' o', Att μ T a b n v' K' C' B' ∧ (v' ≠ 0 → LL' = nI K') ∧ (v' ≠ 0 → K' < k + 1) ∧ (∀ j x, x < T ^ j → j < k + 1 → key (val μ T a b n j x) j x ≤ key v' K' C') ∧ x_E x_P (d + 2) x_c159 55 [.ref 0, .int (nI a), .int (nI b), .int (nI n), .int q, .int (eN v), .int LL, .int (nI (T ^ k)), .int (nI k), .int (nI c), m, o] [] (MG (MM μ B R)) = x_E x_P (d + 2) x_c159 126 [.ref 0, .int (nI a), .int (nI b), .int (nI n), .int q, .int (eN v'), .int LL', .int (nI (T ^ k)), .int (nI k), .int (nI (T ^ k)), m', o'] [] (MG (MM μ B' R')) := by
  have pb := pow_b hT hk
  intro r
  induction r with
  | zero =>
    intro c v K C LL B R m o hc hA h1 h2 h3
    obtain rfl : c = T ^ k := by omega
    refine ⟨v, K, C, LL, B, R, m, o, hA, h1, fun g => by have := h2 g; omega, fun j x g1 g2 => ?_, by rw [s_159_55, if_pos (Int32.le_refl _)]⟩
    by_cases hjk : j = k
    · subst hjk; exact h3 j x g1 (Or.inr ⟨rfl, g1⟩)
    · exact h3 j x g1 (Or.inl (by omega))
  | succ r ih =>
    intro c v K C LL B R m o hc hA h1 h2 h3
    have e0 : ¬ nI (T ^ k) ≤ nI c := nI_ge (by omega) (by omega)
    have hcT : c < T ^ k := by omega
    obtain ⟨R1, g1, g2⟩ := M_goes d hU hT c4 ht ha hb hn hk hcT B R
    have vb := val_le (b := b) hU ht ha hn hk hcT
    have vb2 := Att_le hU ht ha hn hA
    by_cases hl : val μ T a b n k c ≤ v
    · have e1 : eN (val μ T a b n k c) ≤ eN v := (eN_le (by omega) (by omega)).mpr hl
      have hkey : key (val μ T a b n k c) k c ≤ key v K C := by
        unfold key
        by_cases z : val μ T a b n k c = 0
        · rw [if_pos z]; exact Nat.zero_le _
        · rw [if_neg z, if_neg (by omega)]
          have := h2 (by omega)
          rcases hA with hA | ⟨-, a2, a3, -⟩
          · omega
          · have := pow_b hT a2
            omega
      obtain ⟨v', K', C', LL', B', R', m', o', j1, j2, j3, j4, j5⟩ := ih (c + 1) v K C LL B R1 (.int (eN (val μ T a b n k c))) o (by omega) hA h1 (fun g => by have := h2 g; omega) (fun j x q1 q2 => by
        by_cases hx : j = k ∧ x = c
        · obtain ⟨rfl, rfl⟩ := hx; exact hkey
        · exact h3 j x q1 (by omega))
      refine ⟨v', K', C', LL', B', R', m', o', j1, j2, j3, j4, ?_⟩
      rw [s_159_55, if_neg e0]
      simp (decide := true) only [s_159_62, Option.bind_some, x_tlv, x_tln, if_true, if_false, m_wa_1, m_wa_s, m_wb_1, m_wb_2, m_wb_s, m_ws_1, m_ws_b, m_ws_s, m_ws_e, m_we_1, m_we_b, m_we_s, m_we_e, mf_0, mf_1, mf_2, mf_3, mf_4, mf_5, mf_6, mf_7, mf_8, mf_9, mf_10, mf_11, mf_12, mf_13, mf_14, mf_15, mf_16, mf_17, mf_18, mf_19, mf_20, mf_21, mf_22, mf_23, mf_24, mf_25, mf_26, mf_27, mf_28, mf_29, mf_30, mp_4, mp_7, mp_9, mp_10, mp_12, mp_14, mp_15, mp_16, mp_17, mp_18, mp_19, mp_20, mi_0]
      rw [g2]
      simp (decide := true) only [s_159_73, s_159_120, Option.bind_some, x_tlv, x_tln, if_true, if_false, m_wa_1, m_wa_s, m_wb_1, m_wb_2, m_wb_s, m_ws_1, m_ws_b, m_ws_s, m_ws_e, m_we_1, m_we_b, m_we_s, m_we_e, mf_0, mf_1, mf_2, mf_3, mf_4, mf_5, mf_6, mf_7, mf_8, mf_9, mf_10, mf_11, mf_12, mf_13, mf_14, mf_15, mf_16, mf_17, mf_18, mf_19, mf_20, mf_21, mf_22, mf_23, mf_24, mf_25, mf_26, mf_27, mf_28, mf_29, mf_30, mp_4, mp_7, mp_9, mp_10, mp_12, mp_14, mp_15, mp_16, mp_17, mp_18, mp_19, mp_20, mi_0, e1, nI_1]
      exact j5
    · have e1 : ¬ eN (val μ T a b n k c) ≤ eN v := fun q => hl ((eN_le (by omega) (by omega)).mp q)
      have hkey : key v K C ≤ key (val μ T a b n k c) k c := by
        unfold key
        by_cases z : v = 0
        · rw [if_pos z]; exact Nat.zero_le _
        · rw [if_neg z, if_neg (by omega)]
          omega
      obtain ⟨B1, n', k1, k2⟩ := M_cpm (d + 2) μ R1 [] (nI a) (nI b) (nI n) q (eN (val μ T a b n k c)) (nI k) (nI (T ^ k)) (nI c) (eN (val μ T a b n k c)) hk k 0 B (by omega) (fun j hj => absurd hj (Nat.not_lt_zero j))
      obtain ⟨v', K', C', LL', B', R', m', o', j1, j2, j3, j4, j5⟩ := ih (c + 1) (val μ T a b n k c) k c (nI k) B1 R1 (.int (eN (val μ T a b n k c))) (.int n') (by omega) (Or.inr ⟨rfl, hk, hcT, fun i hi => (k1 i hi).trans (g1 i hi)⟩) (fun _ => rfl) (fun _ => Or.inr ⟨rfl, by omega⟩) (fun j x q1 q2 => by
        by_cases hx : j = k ∧ x = c
        · obtain ⟨rfl, rfl⟩ := hx; exact Nat.le_refl _
        · exact Nat.le_trans (h3 j x q1 (by omega)) hkey)
      refine ⟨v', K', C', LL', B', R', m', o', j1, j2, j3, j4, ?_⟩
      rw [s_159_55, if_neg e0]
      simp (decide := true) only [s_159_62, Option.bind_some, x_tlv, x_tln, if_true, if_false, m_wa_1, m_wa_s, m_wb_1, m_wb_2, m_wb_s, m_ws_1, m_ws_b, m_ws_s, m_ws_e, m_we_1, m_we_b, m_we_s, m_we_e, mf_0, mf_1, mf_2, mf_3, mf_4, mf_5, mf_6, mf_7, mf_8, mf_9, mf_10, mf_11, mf_12, mf_13, mf_14, mf_15, mf_16, mf_17, mf_18, mf_19, mf_20, mf_21, mf_22, mf_23, mf_24, mf_25, mf_26, mf_27, mf_28, mf_29, mf_30, mp_4, mp_7, mp_9, mp_10, mp_12, mp_14, mp_15, mp_16, mp_17, mp_18, mp_19, mp_20, mi_0]
      rw [g2]
      simp (decide := true) only [s_159_73, s_159_82, Option.bind_some, x_tlv, x_tln, if_true, if_false, m_wa_1, m_wa_s, m_wb_1, m_wb_2, m_wb_s, m_ws_1, m_ws_b, m_ws_s, m_ws_e, m_we_1, m_we_b, m_we_s, m_we_e, mf_0, mf_1, mf_2, mf_3, mf_4, mf_5, mf_6, mf_7, mf_8, mf_9, mf_10, mf_11, mf_12, mf_13, mf_14, mf_15, mf_16, mf_17, mf_18, mf_19, mf_20, mf_21, mf_22, mf_23, mf_24, mf_25, mf_26, mf_27, mf_28, mf_29, mf_30, mp_4, mp_7, mp_9, mp_10, mp_12, mp_14, mp_15, mp_16, mp_17, mp_18, mp_19, mp_20, mi_0, e1]
      refine Eq.trans k2 ?_
      rw [s_159_120, nI_1]
      exact j5
theorem M_out1 {σ : x_S} {μ : x_U} {U T a b n : Nat} (d : Nat) (q : Int32) (hU : U ≤ 6) (hT : T ≤ 8) (c4 : μ.1 1 3 = nI T) (ht : S_tab σ μ U T) (ha : a < U) (hb : b < U) (hn : n ≤ 99) : ∀ r k v K C (LL : Int32) (B R : Nat → Int32) (l m o : Value), k + r = 5 → Att μ T a b n v K C B → (v ≠ 0 → LL = nI K) → (v ≠ 0 → K < k) → (∀ j x, x < T ^ j → j < k → key (val μ T a b n j x) j x ≤ key v K C) → ∃ v' K' C' LL' B' R' j' k' l' m' o', Att μ T a b n v' K' C' B' ∧ (v' ≠ 0 → LL' = nI K') ∧ (∀ j x, x < T ^ j → j < 5 → key (val μ T a b n j x) j x ≤ key v' K' C') ∧ x_E x_P (d + 2) x_c159 46 [.ref 0, .int (nI a), .int (nI b), .int (nI n), .int q, .int (eN v), .int LL, .int (nI (T ^ k)), .int (nI k), l, m, o] [] (MG (MM μ B R)) = x_E x_P (d + 2) x_c159 143 [.ref 0, .int (nI a), .int (nI b), .int (nI n), .int q, .int (eN v'), .int LL', .int j', .int k', l', m', o'] [] (MG (MM μ B' R')) := by
  intro r
  induction r with
  | zero =>
    intro k v K C LL B R l m o hk hA h1 h2 h3
    obtain rfl : k = 5 := by omega
    have e : (5 : Int32) ≤ nI 5 := by decide
    exact ⟨v, K, C, LL, B, R, nI (T ^ 5), nI 5, l, m, o, hA, h1, h3, by rw [s_159_46, if_pos e]⟩
  | succ r ih =>
    intro k v K C LL B R l m o hk hA h1 h2 h3
    have e : ¬ (5 : Int32) ≤ nI k := nI_ge (b := 5) (by omega) (by omega)
    obtain ⟨v1, K1, C1, LL1, B1, R1, m1, o1, i1, i2, i3, i4, i5⟩ := M_in1 d q hU hT c4 ht ha hb hn (show k ≤ 4 by omega) (T ^ k) 0 v K C LL B R m o (by omega) hA h1 (fun g => Or.inl (h2 g)) (fun j x q1 q2 => h3 j x q1 (by omega))
    obtain ⟨v', K', C', LL', B', R', j', k', l', m', o', j1, j2, j3, j4⟩ := ih (k + 1) v1 K1 C1 LL1 B1 R1 (.int (nI (T ^ k))) m1 o1 (by omega) i1 i2 i3 i4
    refine ⟨v', K', C', LL', B', R', j', k', l', m', o', j1, j2, j3, ?_⟩
    rw [s_159_46, if_neg e, s_159_52]
    refine Eq.trans i5 ?_
    simp (decide := true) only [s_159_126, s_159_132, s_159_134, Option.bind_some, x_tlv, x_tln, if_true, if_false, m_wa_1, m_wa_s, m_wb_1, m_wb_2, m_wb_s, m_ws_1, m_ws_b, m_ws_s, m_ws_e, m_we_1, m_we_b, m_we_s, m_we_e, mf_0, mf_1, mf_2, mf_3, mf_4, mf_5, mf_6, mf_7, mf_8, mf_9, mf_10, mf_11, mf_12, mf_13, mf_14, mf_15, mf_16, mf_17, mf_18, mf_19, mf_20, mf_21, mf_22, mf_23, mf_24, mf_25, mf_26, mf_27, mf_28, mf_29, mf_30, mp_4, mp_7, mp_9, mp_10, mp_12, mp_14, mp_15, mp_16, mp_17, mp_18, mp_19, mp_20, mi_0, MM_3, c4, pk_mul, nI_1]
    rw [← Nat.pow_succ]
    exact j4
theorem SIM_QM {σ : x_S} {μ : x_U} (h : SIM σ μ) (B W : Nat → Int32) (Y K : Int32) (F G : Nat → Int32) : SIM (QQ σ B W Y K) (MM μ F G) := by
  obtain ⟨U, T, P, N, hc, hu, ht, hp, hw, hn, hpa, hi, hl, hb, hx, hm⟩ := h
  exact ⟨U, T, P, N, hc, hu, ht, hp, hw, hn, hpa, hi, hl, hb, hx, hm⟩
theorem sim_most (a b n i : Int32) : Sim 88 159 [.int a, .int b, .int n, .int i] := Sim.of fun σ μ hS => by
  have hS' := hS
  obtain ⟨U, T, P, N, ⟨⟨hU, hT, hP, hN⟩, c1, c2, c3, c4, c5, c6⟩, hu, ht, hp, hw, hn, hpa, hi, hl, hb, hx, hm⟩ := hS
  rcases x_hv_cases (U := U) (by omega) a with h | ⟨a, ha, rfl, h⟩
  · refine ⟨-1000000001, σ, μ, ?_, ?_, hS'⟩
    · simp (decide := true) only [r_88, s_88_0, s_88_4, s_88_7, s_88_11, s_88_14, s_88_18, s_88_21, s_88_25, s_88_28, s_88_31, s_88_36, s_88_42, s_88_45, s_88_49, s_88_53, s_88_59, s_88_65, s_88_69, s_88_72, s_88_73, s_88_80, s_88_84, s_88_87, s_88_88, s_88_93, s_88_99, s_88_102, s_88_105, s_88_107, s_88_111, s_88_114, s_88_119, Option.bind_some, x_tlv, x_tln, if_true, if_false, cr_isa, R_at, R_has, R_size, R_put, R_isFull, R_add, R_clear, c_has_eq, c_wa_1, c_wa_2, c_ws_1, c_ws_2, cf_0_0, cf_0_1, cf_0_2, cf_0_3, cf_0_4, cf_0_5, cf_0_6, cf_0_7, cf_0_8, cf_0_9, cf_0_10, cf_0_11, cf_0_12, cf_0_13, cp_0_12, cp_0_13, ci_0, cf_1_0, cf_1_1, cf_1_2, cf_1_3, cf_1_4, cp_1_1, cp_1_2, cp_1_3, cp_1_4, ci_1, cf_4_0, cf_4_1, cf_4_2, cf_4_3, cf_4_4, cf_4_5, cf_4_6, cf_4_7, cf_4_8, cf_4_9, cf_4_10, cp_4_0, cp_4_1, ci_4, cf_23_0, cf_23_1, cf_23_2, cf_23_3, cf_23_4, cf_23_5, cf_23_6, cf_23_7, cf_23_8, cf_23_9, cf_23_10, cp_23_0, cp_23_1, ci_23, cf_42_0, cf_42_1, cf_42_2, cf_42_3, cp_42_2, cp_42_3, ci_42, cf_47_0, cf_47_1, cf_47_2, cp_47_1, cp_47_2, ci_47, cf_50_0, cf_50_1, cf_50_2, ci_50, cf_57_0, cf_57_1, ci_57, cf_62_0, cf_62_1, ci_62, cf_67_0, cf_67_1, cf_67_2, cf_67_3, cf_67_4, cf_67_5, cp_67_1, cp_67_2, ci_67, cf_76_0, cf_76_1, cf_76_2, cf_76_3, cf_76_4, cf_76_5, cp_76_1, cp_76_2, cp_76_3, ci_76, c3.2, h]
    · simp (decide := true) only [r_159, s_159_0, s_159_5, s_159_16, Option.bind_some, x_tlv, x_tln, if_true, if_false, m_wa_1, m_wa_s, m_wb_1, m_wb_2, m_wb_s, m_ws_1, m_ws_b, m_ws_s, m_ws_e, m_we_1, m_we_b, m_we_s, m_we_e, mf_0, mf_1, mf_2, mf_3, mf_4, mf_5, mf_6, mf_7, mf_8, mf_9, mf_10, mf_11, mf_12, mf_13, mf_14, mf_15, mf_16, mf_17, mf_18, mf_19, mf_20, mf_21, mf_22, mf_23, mf_24, mf_25, mf_26, mf_27, mf_28, mf_29, mf_30, mp_4, mp_7, mp_9, mp_10, mp_12, mp_14, mp_15, mp_16, mp_17, mp_18, mp_19, mp_20, mi_0, M_isUse _ _ (show U < 1000 by omega) c3.1, h]
  rcases x_hv_cases (U := U) (by omega) b with h2 | ⟨b, hb', rfl, h2⟩
  · refine ⟨-1000000001, σ, μ, ?_, ?_, hS'⟩
    · simp (decide := true) only [r_88, s_88_0, s_88_4, s_88_7, s_88_11, s_88_14, s_88_18, s_88_21, s_88_25, s_88_28, s_88_31, s_88_36, s_88_42, s_88_45, s_88_49, s_88_53, s_88_59, s_88_65, s_88_69, s_88_72, s_88_73, s_88_80, s_88_84, s_88_87, s_88_88, s_88_93, s_88_99, s_88_102, s_88_105, s_88_107, s_88_111, s_88_114, s_88_119, Option.bind_some, x_tlv, x_tln, if_true, if_false, cr_isa, R_at, R_has, R_size, R_put, R_isFull, R_add, R_clear, c_has_eq, c_wa_1, c_wa_2, c_ws_1, c_ws_2, cf_0_0, cf_0_1, cf_0_2, cf_0_3, cf_0_4, cf_0_5, cf_0_6, cf_0_7, cf_0_8, cf_0_9, cf_0_10, cf_0_11, cf_0_12, cf_0_13, cp_0_12, cp_0_13, ci_0, cf_1_0, cf_1_1, cf_1_2, cf_1_3, cf_1_4, cp_1_1, cp_1_2, cp_1_3, cp_1_4, ci_1, cf_4_0, cf_4_1, cf_4_2, cf_4_3, cf_4_4, cf_4_5, cf_4_6, cf_4_7, cf_4_8, cf_4_9, cf_4_10, cp_4_0, cp_4_1, ci_4, cf_23_0, cf_23_1, cf_23_2, cf_23_3, cf_23_4, cf_23_5, cf_23_6, cf_23_7, cf_23_8, cf_23_9, cf_23_10, cp_23_0, cp_23_1, ci_23, cf_42_0, cf_42_1, cf_42_2, cf_42_3, cp_42_2, cp_42_3, ci_42, cf_47_0, cf_47_1, cf_47_2, cp_47_1, cp_47_2, ci_47, cf_50_0, cf_50_1, cf_50_2, ci_50, cf_57_0, cf_57_1, ci_57, cf_62_0, cf_62_1, ci_62, cf_67_0, cf_67_1, cf_67_2, cf_67_3, cf_67_4, cf_67_5, cp_67_1, cp_67_2, ci_67, cf_76_0, cf_76_1, cf_76_2, cf_76_3, cf_76_4, cf_76_5, cp_76_1, cp_76_2, cp_76_3, ci_76, c3.2, h, h2]
    · simp (decide := true) only [r_159, s_159_0, s_159_5, s_159_8, s_159_13, s_159_16, Option.bind_some, x_tlv, x_tln, if_true, if_false, m_wa_1, m_wa_s, m_wb_1, m_wb_2, m_wb_s, m_ws_1, m_ws_b, m_ws_s, m_ws_e, m_we_1, m_we_b, m_we_s, m_we_e, mf_0, mf_1, mf_2, mf_3, mf_4, mf_5, mf_6, mf_7, mf_8, mf_9, mf_10, mf_11, mf_12, mf_13, mf_14, mf_15, mf_16, mf_17, mf_18, mf_19, mf_20, mf_21, mf_22, mf_23, mf_24, mf_25, mf_26, mf_27, mf_28, mf_29, mf_30, mp_4, mp_7, mp_9, mp_10, mp_12, mp_14, mp_15, mp_16, mp_17, mp_18, mp_19, mp_20, mi_0, M_isUse _ _ (show U < 1000 by omega) c3.1, h, h2]
  by_cases h3 : (1 : Int32) ≤ n ∧ n ≤ 99
  · obtain ⟨n, rfl, n1, n2⟩ := (x_rng 1 99 (by omega) (by omega)).mp h3
    have g1 : ¬ nI n < 1 := nI_nlt (b := 1) n1 (by omega)
    have g2 : nI n ≤ 99 := h3.2
    -- the class
    obtain ⟨v, K, C, B, W, q1, -, q3, -, -, -, q7⟩ := C_walk (μ := μ) 21 hU hT c4.2 ht ha hb' n2 4 0 0 rfl a n 0 0 0 (σ.1 69) (σ.1 71) rfl (by rw [Nat.pow_zero]; omega) (fun i hi => absurd hi (Nat.not_lt_zero i)) (Or.inl rfl) (fun z => absurd rfl z)
    have eQ : c_ws (c_ws σ 67 1 (-1)) 67 2 (-1) = QQ σ (σ.1 69) (σ.1 71) (eN 0) (kk 0 0) := by
      unfold QQ
      rw [c_wa_id]
      show _ = c_ws (c_ws (c_wa σ 71 (σ.1 71)) 67 1 (eN 0)) 67 2 (kk 0 0)
      rw [c_wa_id]
      rfl
    have hR : x_R x_P 29 66 [.ref 67, .ref 4, .int (nI a), .int (nI b), .int (nI n)] (CG σ) = some (none, CG (QQ σ B W (eN v) (kk v K))) := by
      simp (decide := true) only [r_66, s_66_0, s_66_5, s_66_10, Option.bind_some, x_tlv, x_tln, if_true, if_false, cr_isa, R_at, R_has, R_size, R_put, R_isFull, R_add, R_clear, c_has_eq, c_wa_1, c_wa_2, c_ws_1, c_ws_2, cf_0_0, cf_0_1, cf_0_2, cf_0_3, cf_0_4, cf_0_5, cf_0_6, cf_0_7, cf_0_8, cf_0_9, cf_0_10, cf_0_11, cf_0_12, cf_0_13, cp_0_12, cp_0_13, ci_0, cf_1_0, cf_1_1, cf_1_2, cf_1_3, cf_1_4, cp_1_1, cp_1_2, cp_1_3, cp_1_4, ci_1, cf_4_0, cf_4_1, cf_4_2, cf_4_3, cf_4_4, cf_4_5, cf_4_6, cf_4_7, cf_4_8, cf_4_9, cf_4_10, cp_4_0, cp_4_1, ci_4, cf_23_0, cf_23_1, cf_23_2, cf_23_3, cf_23_4, cf_23_5, cf_23_6, cf_23_7, cf_23_8, cf_23_9, cf_23_10, cp_23_0, cp_23_1, ci_23, cf_42_0, cf_42_1, cf_42_2, cf_42_3, cp_42_2, cp_42_3, ci_42, cf_47_0, cf_47_1, cf_47_2, cp_47_1, cp_47_2, ci_47, cf_50_0, cf_50_1, cf_50_2, ci_50, cf_57_0, cf_57_1, ci_57, cf_62_0, cf_62_1, ci_62, cf_67_0, cf_67_1, cf_67_2, cf_67_3, cf_67_4, cf_67_5, cp_67_1, cp_67_2, ci_67, cf_76_0, cf_76_1, cf_76_2, cf_76_3, cf_76_4, cf_76_5, cp_76_1, cp_76_2, cp_76_3, ci_76, eQ]
      rw [show x_R x_P 28 67 [.ref 67, .ref 4, .int (nI a), .int (nI b), .int (nI n), .int 0] (CG (QQ σ (σ.1 69) (σ.1 71) (eN 0) (kk 0 0))) = _ from q7]
      simp (decide := true) only [s_66_20, Option.bind_some, x_tlv, x_tln, if_true, if_false, cr_isa, R_at, R_has, R_size, R_put, R_isFull, R_add, R_clear, c_has_eq, c_wa_1, c_wa_2, c_ws_1, c_ws_2, cf_0_0, cf_0_1, cf_0_2, cf_0_3, cf_0_4, cf_0_5, cf_0_6, cf_0_7, cf_0_8, cf_0_9, cf_0_10, cf_0_11, cf_0_12, cf_0_13, cp_0_12, cp_0_13, ci_0, cf_1_0, cf_1_1, cf_1_2, cf_1_3, cf_1_4, cp_1_1, cp_1_2, cp_1_3, cp_1_4, ci_1, cf_4_0, cf_4_1, cf_4_2, cf_4_3, cf_4_4, cf_4_5, cf_4_6, cf_4_7, cf_4_8, cf_4_9, cf_4_10, cp_4_0, cp_4_1, ci_4, cf_23_0, cf_23_1, cf_23_2, cf_23_3, cf_23_4, cf_23_5, cf_23_6, cf_23_7, cf_23_8, cf_23_9, cf_23_10, cp_23_0, cp_23_1, ci_23, cf_42_0, cf_42_1, cf_42_2, cf_42_3, cp_42_2, cp_42_3, ci_42, cf_47_0, cf_47_1, cf_47_2, cp_47_1, cp_47_2, ci_47, cf_50_0, cf_50_1, cf_50_2, ci_50, cf_57_0, cf_57_1, ci_57, cf_62_0, cf_62_1, ci_62, cf_67_0, cf_67_1, cf_67_2, cf_67_3, cf_67_4, cf_67_5, cp_67_1, cp_67_2, ci_67, cf_76_0, cf_76_1, cf_76_2, cf_76_3, cf_76_4, cf_76_5, cp_76_1, cp_76_2, cp_76_3, ci_76]
    have dom1 : ∀ j x, j ≤ 4 → x < T ^ j → key (val μ T a b n j x) j x ≤ key v K C := fun j x z1 z2 => q3 j x (Nat.zero_le _) z1 z2 (Nat.div_eq_of_lt z2)
    -- the model
    obtain ⟨w, L, E, LL, G, R, j', k', l', m', o', i1, i2, i3, i4⟩ := M_out1 (μ := μ) 27 i hU hT c4.1 ht ha hb' n2 5 0 0 0 0 0 (μ.1 13) (μ.1 12) x_j x_j x_j rfl (Or.inl rfl) (fun z => absurd rfl z) (fun z => absurd rfl z) (fun j x _ z => absurd z (Nat.not_lt_zero j))
    rw [MM_id] at i4
    have hM : x_R x_P 30 159 [.ref 0, .int (nI a), .int (nI b), .int (nI n), .int i] (MG μ) = x_E x_P 29 x_c159 143 [.ref 0, .int (nI a), .int (nI b), .int (nI n), .int i, .int (eN w), .int LL, .int j', .int k', l', m', o'] [] (MG (MM μ G R)) := by
      simp (decide := true) only [r_159, s_159_0, s_159_5, s_159_8, s_159_13, s_159_19, s_159_28, s_159_34, Option.bind_some, x_tlv, x_tln, if_true, if_false, m_wa_1, m_wa_s, m_wb_1, m_wb_2, m_wb_s, m_ws_1, m_ws_b, m_ws_s, m_ws_e, m_we_1, m_we_b, m_we_s, m_we_e, mf_0, mf_1, mf_2, mf_3, mf_4, mf_5, mf_6, mf_7, mf_8, mf_9, mf_10, mf_11, mf_12, mf_13, mf_14, mf_15, mf_16, mf_17, mf_18, mf_19, mf_20, mf_21, mf_22, mf_23, mf_24, mf_25, mf_26, mf_27, mf_28, mf_29, mf_30, mp_4, mp_7, mp_9, mp_10, mp_12, mp_14, mp_15, mp_16, mp_17, mp_18, mp_19, mp_20, mi_0, M_isUse _ _ (show U < 1000 by omega) c3.1, h, h2, M_in, x_w1, x_w99, x_wle, x_b_t h3]
      exact i4
    obtain ⟨e1, e2⟩ := best_one hT q1 i1 dom1 (fun j x z1 z2 => i3 j x z2 (by omega))
    subst e1
    have vb := Att_le hU ht ha n2 q1
    have hC : ∀ r, x_E x_P 29 x_c88 59 [.ref 0, .int (nI a), .int (nI b), .int (nI n), .int i] [] (CG (QQ σ B W (eN v) (kk v K))) = r → x_R x_P 30 88 [.ref 0, .int (nI a), .int (nI b), .int (nI n), .int i] (CG σ) = r := by
      intro r hr
      simp (decide := true) only [r_88, s_88_0, s_88_4, s_88_7, s_88_11, s_88_14, s_88_18, s_88_21, s_88_25, s_88_31, s_88_36, s_88_45, s_88_49, s_88_53, Option.bind_some, x_tlv, x_tln, if_true, if_false, cr_isa, R_at, R_has, R_size, R_put, R_isFull, R_add, R_clear, c_has_eq, c_wa_1, c_wa_2, c_ws_1, c_ws_2, cf_0_0, cf_0_1, cf_0_2, cf_0_3, cf_0_4, cf_0_5, cf_0_6, cf_0_7, cf_0_8, cf_0_9, cf_0_10, cf_0_11, cf_0_12, cf_0_13, cp_0_12, cp_0_13, ci_0, cf_1_0, cf_1_1, cf_1_2, cf_1_3, cf_1_4, cp_1_1, cp_1_2, cp_1_3, cp_1_4, ci_1, cf_4_0, cf_4_1, cf_4_2, cf_4_3, cf_4_4, cf_4_5, cf_4_6, cf_4_7, cf_4_8, cf_4_9, cf_4_10, cp_4_0, cp_4_1, ci_4, cf_23_0, cf_23_1, cf_23_2, cf_23_3, cf_23_4, cf_23_5, cf_23_6, cf_23_7, cf_23_8, cf_23_9, cf_23_10, cp_23_0, cp_23_1, ci_23, cf_42_0, cf_42_1, cf_42_2, cf_42_3, cp_42_2, cp_42_3, ci_42, cf_47_0, cf_47_1, cf_47_2, cp_47_1, cp_47_2, ci_47, cf_50_0, cf_50_1, cf_50_2, ci_50, cf_57_0, cf_57_1, ci_57, cf_62_0, cf_62_1, ci_62, cf_67_0, cf_67_1, cf_67_2, cf_67_3, cf_67_4, cf_67_5, cp_67_1, cp_67_2, ci_67, cf_76_0, cf_76_1, cf_76_2, cf_76_3, cf_76_4, cf_76_5, cp_76_1, cp_76_2, cp_76_3, ci_76, c3.2, h, h2, g1, g2]
      rw [hR]
      exact hr
    by_cases hv0 : v = 0
    · subst hv0
      have p1 : ¬ (0 : Int32) ≤ eN 0 := by decide
      refine ⟨-1, QQ σ B W (eN 0) (kk 0 K), MM μ G R, hC _ ?_, ?_, SIM_QM hS' _ _ _ _ _ _⟩
      · have ek : kk 0 K = -1 := rfl
        rw [s_88_59]
        by_cases w1 : i = -1
        · rw [if_pos w1]; simp (decide := true) only [s_88_65, s_88_69, s_88_72, Option.bind_some, x_tlv, x_tln, if_true, if_false, cr_isa, R_at, R_has, R_size, R_put, R_isFull, R_add, R_clear, c_has_eq, c_wa_1, c_wa_2, c_ws_1, c_ws_2, cf_0_0, cf_0_1, cf_0_2, cf_0_3, cf_0_4, cf_0_5, cf_0_6, cf_0_7, cf_0_8, cf_0_9, cf_0_10, cf_0_11, cf_0_12, cf_0_13, cp_0_12, cp_0_13, ci_0, cf_1_0, cf_1_1, cf_1_2, cf_1_3, cf_1_4, cp_1_1, cp_1_2, cp_1_3, cp_1_4, ci_1, cf_4_0, cf_4_1, cf_4_2, cf_4_3, cf_4_4, cf_4_5, cf_4_6, cf_4_7, cf_4_8, cf_4_9, cf_4_10, cp_4_0, cp_4_1, ci_4, cf_23_0, cf_23_1, cf_23_2, cf_23_3, cf_23_4, cf_23_5, cf_23_6, cf_23_7, cf_23_8, cf_23_9, cf_23_10, cp_23_0, cp_23_1, ci_23, cf_42_0, cf_42_1, cf_42_2, cf_42_3, cp_42_2, cp_42_3, ci_42, cf_47_0, cf_47_1, cf_47_2, cp_47_1, cp_47_2, ci_47, cf_50_0, cf_50_1, cf_50_2, ci_50, cf_57_0, cf_57_1, ci_57, cf_62_0, cf_62_1, ci_62, cf_67_0, cf_67_1, cf_67_2, cf_67_3, cf_67_4, cf_67_5, cp_67_1, cp_67_2, ci_67, cf_76_0, cf_76_1, cf_76_2, cf_76_3, cf_76_4, cf_76_5, cp_76_1, cp_76_2, cp_76_3, ci_76, QQ_1, eN_0]
        · rw [if_neg w1, s_88_73]
          by_cases w2 : i = -2
          · rw [if_pos w2]; simp (decide := true) only [s_88_80, s_88_84, s_88_87, Option.bind_some, x_tlv, x_tln, if_true, if_false, cr_isa, R_at, R_has, R_size, R_put, R_isFull, R_add, R_clear, c_has_eq, c_wa_1, c_wa_2, c_ws_1, c_ws_2, cf_0_0, cf_0_1, cf_0_2, cf_0_3, cf_0_4, cf_0_5, cf_0_6, cf_0_7, cf_0_8, cf_0_9, cf_0_10, cf_0_11, cf_0_12, cf_0_13, cp_0_12, cp_0_13, ci_0, cf_1_0, cf_1_1, cf_1_2, cf_1_3, cf_1_4, cp_1_1, cp_1_2, cp_1_3, cp_1_4, ci_1, cf_4_0, cf_4_1, cf_4_2, cf_4_3, cf_4_4, cf_4_5, cf_4_6, cf_4_7, cf_4_8, cf_4_9, cf_4_10, cp_4_0, cp_4_1, ci_4, cf_23_0, cf_23_1, cf_23_2, cf_23_3, cf_23_4, cf_23_5, cf_23_6, cf_23_7, cf_23_8, cf_23_9, cf_23_10, cp_23_0, cp_23_1, ci_23, cf_42_0, cf_42_1, cf_42_2, cf_42_3, cp_42_2, cp_42_3, ci_42, cf_47_0, cf_47_1, cf_47_2, cp_47_1, cp_47_2, ci_47, cf_50_0, cf_50_1, cf_50_2, ci_50, cf_57_0, cf_57_1, ci_57, cf_62_0, cf_62_1, ci_62, cf_67_0, cf_67_1, cf_67_2, cf_67_3, cf_67_4, cf_67_5, cp_67_1, cp_67_2, ci_67, cf_76_0, cf_76_1, cf_76_2, cf_76_3, cf_76_4, cf_76_5, cp_76_1, cp_76_2, cp_76_3, ci_76, QQ_2, ek]
          · rw [if_neg w2, s_88_88]
            by_cases w3 : i < 0
            · rw [if_pos w3, s_88_105]
            · have w4 : ¬ i < -1 := by
                have h0 := Int32.not_lt.mp w3
                rw [Int32.le_iff_toInt_le] at h0
                rw [Int32.lt_iff_toInt_lt, show (-1 : Int32).toInt = -1 from rfl]
                have : (0 : Int32).toInt = 0 := rfl
                omega
              rw [if_neg w3]; simp (decide := true) only [s_88_93, s_88_99, s_88_102, s_88_105, Option.bind_some, x_tlv, x_tln, if_true, if_false, cr_isa, R_at, R_has, R_size, R_put, R_isFull, R_add, R_clear, c_has_eq, c_wa_1, c_wa_2, c_ws_1, c_ws_2, cf_0_0, cf_0_1, cf_0_2, cf_0_3, cf_0_4, cf_0_5, cf_0_6, cf_0_7, cf_0_8, cf_0_9, cf_0_10, cf_0_11, cf_0_12, cf_0_13, cp_0_12, cp_0_13, ci_0, cf_1_0, cf_1_1, cf_1_2, cf_1_3, cf_1_4, cp_1_1, cp_1_2, cp_1_3, cp_1_4, ci_1, cf_4_0, cf_4_1, cf_4_2, cf_4_3, cf_4_4, cf_4_5, cf_4_6, cf_4_7, cf_4_8, cf_4_9, cf_4_10, cp_4_0, cp_4_1, ci_4, cf_23_0, cf_23_1, cf_23_2, cf_23_3, cf_23_4, cf_23_5, cf_23_6, cf_23_7, cf_23_8, cf_23_9, cf_23_10, cp_23_0, cp_23_1, ci_23, cf_42_0, cf_42_1, cf_42_2, cf_42_3, cp_42_2, cp_42_3, ci_42, cf_47_0, cf_47_1, cf_47_2, cp_47_1, cp_47_2, ci_47, cf_50_0, cf_50_1, cf_50_2, ci_50, cf_57_0, cf_57_1, ci_57, cf_62_0, cf_62_1, ci_62, cf_67_0, cf_67_1, cf_67_2, cf_67_3, cf_67_4, cf_67_5, cp_67_1, cp_67_2, ci_67, cf_76_0, cf_76_1, cf_76_2, cf_76_3, cf_76_4, cf_76_5, cp_76_1, cp_76_2, cp_76_3, ci_76, QQ_2, ek, w4]
      · rw [hM, s_159_143, if_neg p1, s_159_148]
    · obtain ⟨e3, e4⟩ := e2 hv0
      subst e3 e4
      have hL := i2 hv0
      subst hL
      have ek : kk v K = nI K := if_neg hv0
      have p1 : (0 : Int32) ≤ eN v := (eN_pos (by omega)).mpr (by omega)
      rcases q1 with q1 | ⟨-, a2, a3, a4⟩
      · exact absurd q1 hv0
      rcases i1 with i1 | ⟨-, b2, b3, b4⟩
      · exact absurd i1 hv0
      by_cases w1 : i = -1
      · refine ⟨eN v, QQ σ B W (eN v) (kk v K), MM μ G R, hC _ ?_, ?_, SIM_QM hS' _ _ _ _ _ _⟩
        · rw [s_88_59, if_pos w1]; simp (decide := true) only [s_88_65, s_88_69, s_88_72, Option.bind_some, x_tlv, x_tln, if_true, if_false, cr_isa, R_at, R_has, R_size, R_put, R_isFull, R_add, R_clear, c_has_eq, c_wa_1, c_wa_2, c_ws_1, c_ws_2, cf_0_0, cf_0_1, cf_0_2, cf_0_3, cf_0_4, cf_0_5, cf_0_6, cf_0_7, cf_0_8, cf_0_9, cf_0_10, cf_0_11, cf_0_12, cf_0_13, cp_0_12, cp_0_13, ci_0, cf_1_0, cf_1_1, cf_1_2, cf_1_3, cf_1_4, cp_1_1, cp_1_2, cp_1_3, cp_1_4, ci_1, cf_4_0, cf_4_1, cf_4_2, cf_4_3, cf_4_4, cf_4_5, cf_4_6, cf_4_7, cf_4_8, cf_4_9, cf_4_10, cp_4_0, cp_4_1, ci_4, cf_23_0, cf_23_1, cf_23_2, cf_23_3, cf_23_4, cf_23_5, cf_23_6, cf_23_7, cf_23_8, cf_23_9, cf_23_10, cp_23_0, cp_23_1, ci_23, cf_42_0, cf_42_1, cf_42_2, cf_42_3, cp_42_2, cp_42_3, ci_42, cf_47_0, cf_47_1, cf_47_2, cp_47_1, cp_47_2, ci_47, cf_50_0, cf_50_1, cf_50_2, ci_50, cf_57_0, cf_57_1, ci_57, cf_62_0, cf_62_1, ci_62, cf_67_0, cf_67_1, cf_67_2, cf_67_3, cf_67_4, cf_67_5, cp_67_1, cp_67_2, ci_67, cf_76_0, cf_76_1, cf_76_2, cf_76_3, cf_76_4, cf_76_5, cp_76_1, cp_76_2, cp_76_3, ci_76, QQ_1]
        · rw [hM, s_159_143, if_pos p1, s_159_150, if_pos w1, s_159_156]
      by_cases w2 : i = -2
      · refine ⟨nI K, QQ σ B W (eN v) (kk v K), MM μ G R, hC _ ?_, ?_, SIM_QM hS' _ _ _ _ _ _⟩
        · rw [s_88_59, if_neg w1, s_88_73, if_pos w2]; simp (decide := true) only [s_88_80, s_88_84, s_88_87, Option.bind_some, x_tlv, x_tln, if_true, if_false, cr_isa, R_at, R_has, R_size, R_put, R_isFull, R_add, R_clear, c_has_eq, c_wa_1, c_wa_2, c_ws_1, c_ws_2, cf_0_0, cf_0_1, cf_0_2, cf_0_3, cf_0_4, cf_0_5, cf_0_6, cf_0_7, cf_0_8, cf_0_9, cf_0_10, cf_0_11, cf_0_12, cf_0_13, cp_0_12, cp_0_13, ci_0, cf_1_0, cf_1_1, cf_1_2, cf_1_3, cf_1_4, cp_1_1, cp_1_2, cp_1_3, cp_1_4, ci_1, cf_4_0, cf_4_1, cf_4_2, cf_4_3, cf_4_4, cf_4_5, cf_4_6, cf_4_7, cf_4_8, cf_4_9, cf_4_10, cp_4_0, cp_4_1, ci_4, cf_23_0, cf_23_1, cf_23_2, cf_23_3, cf_23_4, cf_23_5, cf_23_6, cf_23_7, cf_23_8, cf_23_9, cf_23_10, cp_23_0, cp_23_1, ci_23, cf_42_0, cf_42_1, cf_42_2, cf_42_3, cp_42_2, cp_42_3, ci_42, cf_47_0, cf_47_1, cf_47_2, cp_47_1, cp_47_2, ci_47, cf_50_0, cf_50_1, cf_50_2, ci_50, cf_57_0, cf_57_1, ci_57, cf_62_0, cf_62_1, ci_62, cf_67_0, cf_67_1, cf_67_2, cf_67_3, cf_67_4, cf_67_5, cp_67_1, cp_67_2, ci_67, cf_76_0, cf_76_1, cf_76_2, cf_76_3, cf_76_4, cf_76_5, cp_76_1, cp_76_2, cp_76_3, ci_76, QQ_2, ek]
        · rw [hM, s_159_143, if_pos p1, s_159_150, if_neg w1, s_159_161, if_pos w2, s_159_168]
      have hin : x_R x_P 29 112 [.long i.toInt64, .long 0, .long (nI K - 1).toInt64] (MG (MM μ G R)) = some (some (.int (x_hv i (nI K))), MG (MM μ G R)) := by
        rw [M_in, ← x_hv_in (by omega)]
        unfold x_b
        simp only [x_w0, x_wle]
      rcases x_hv_cases (U := K) (by omega) i with hh | ⟨z, hz, rfl, hh⟩
      · have hneg : ¬ (¬ i < 0 ∧ i < nI K) := by
          intro q
          have : x_hv i (nI K) = 1 := x_b_t q
          rw [hh] at this
          exact absurd this (by decide)
        refine ⟨-1, QQ σ B W (eN v) (kk v K), MM μ G R, hC _ ?_, ?_, SIM_QM hS' _ _ _ _ _ _⟩
        · rw [s_88_59, if_neg w1, s_88_73, if_neg w2, s_88_88]
          by_cases w3 : i < 0
          · rw [if_pos w3, s_88_105]
          · have w4 : ¬ i < nI K := fun q => hneg ⟨w3, q⟩
            rw [if_neg w3]; simp (decide := true) only [s_88_93, s_88_99, s_88_102, s_88_105, Option.bind_some, x_tlv, x_tln, if_true, if_false, cr_isa, R_at, R_has, R_size, R_put, R_isFull, R_add, R_clear, c_has_eq, c_wa_1, c_wa_2, c_ws_1, c_ws_2, cf_0_0, cf_0_1, cf_0_2, cf_0_3, cf_0_4, cf_0_5, cf_0_6, cf_0_7, cf_0_8, cf_0_9, cf_0_10, cf_0_11, cf_0_12, cf_0_13, cp_0_12, cp_0_13, ci_0, cf_1_0, cf_1_1, cf_1_2, cf_1_3, cf_1_4, cp_1_1, cp_1_2, cp_1_3, cp_1_4, ci_1, cf_4_0, cf_4_1, cf_4_2, cf_4_3, cf_4_4, cf_4_5, cf_4_6, cf_4_7, cf_4_8, cf_4_9, cf_4_10, cp_4_0, cp_4_1, ci_4, cf_23_0, cf_23_1, cf_23_2, cf_23_3, cf_23_4, cf_23_5, cf_23_6, cf_23_7, cf_23_8, cf_23_9, cf_23_10, cp_23_0, cp_23_1, ci_23, cf_42_0, cf_42_1, cf_42_2, cf_42_3, cp_42_2, cp_42_3, ci_42, cf_47_0, cf_47_1, cf_47_2, cp_47_1, cp_47_2, ci_47, cf_50_0, cf_50_1, cf_50_2, ci_50, cf_57_0, cf_57_1, ci_57, cf_62_0, cf_62_1, ci_62, cf_67_0, cf_67_1, cf_67_2, cf_67_3, cf_67_4, cf_67_5, cp_67_1, cp_67_2, ci_67, cf_76_0, cf_76_1, cf_76_2, cf_76_3, cf_76_4, cf_76_5, cp_76_1, cp_76_2, cp_76_3, ci_76, QQ_2, ek, w4]
        · rw [hM, s_159_143, if_pos p1, s_159_150, if_neg w1, s_159_161, if_neg w2, s_159_173, hin]
          simp (decide := true) only [s_159_185, s_159_198, Option.bind_some, x_tlv, x_tln, if_true, if_false, m_wa_1, m_wa_s, m_wb_1, m_wb_2, m_wb_s, m_ws_1, m_ws_b, m_ws_s, m_ws_e, m_we_1, m_we_b, m_we_s, m_we_e, mf_0, mf_1, mf_2, mf_3, mf_4, mf_5, mf_6, mf_7, mf_8, mf_9, mf_10, mf_11, mf_12, mf_13, mf_14, mf_15, mf_16, mf_17, mf_18, mf_19, mf_20, mf_21, mf_22, mf_23, mf_24, mf_25, mf_26, mf_27, mf_28, mf_29, mf_30, mp_4, mp_7, mp_9, mp_10, mp_12, mp_14, mp_15, mp_16, mp_17, mp_18, mp_19, mp_20, mi_0, hh]
      · have w3 : ¬ nI z < 0 := nI_pos (by omega)
        have w4 : nI z < nI K := nI_lt hz (by omega)
        have ba := QQ_ba σ B W (eN v) (kk v K) (k := z) (by omega)
        rw [a4 z hz] at ba
        have ma := MM_ba μ G R (k := z) (by omega)
        rw [b4 z hz] at ma
        refine ⟨nI (dg T K C z), QQ σ B W (eN v) (kk v K), MM μ G R, hC _ ?_, ?_, SIM_QM hS' _ _ _ _ _ _⟩
        · rw [s_88_59, if_neg w1, s_88_73, if_neg w2, s_88_88, if_neg w3]
          rw [ek] at ba ⊢
          simp (decide := true) only [s_88_93, s_88_99, s_88_102, s_88_107, s_88_111, s_88_114, s_88_119, Option.bind_some, x_tlv, x_tln, if_true, if_false, cr_isa, R_at, R_has, R_size, R_put, R_isFull, R_add, R_clear, c_has_eq, c_wa_1, c_wa_2, c_ws_1, c_ws_2, cf_0_0, cf_0_1, cf_0_2, cf_0_3, cf_0_4, cf_0_5, cf_0_6, cf_0_7, cf_0_8, cf_0_9, cf_0_10, cf_0_11, cf_0_12, cf_0_13, cp_0_12, cp_0_13, ci_0, cf_1_0, cf_1_1, cf_1_2, cf_1_3, cf_1_4, cp_1_1, cp_1_2, cp_1_3, cp_1_4, ci_1, cf_4_0, cf_4_1, cf_4_2, cf_4_3, cf_4_4, cf_4_5, cf_4_6, cf_4_7, cf_4_8, cf_4_9, cf_4_10, cp_4_0, cp_4_1, ci_4, cf_23_0, cf_23_1, cf_23_2, cf_23_3, cf_23_4, cf_23_5, cf_23_6, cf_23_7, cf_23_8, cf_23_9, cf_23_10, cp_23_0, cp_23_1, ci_23, cf_42_0, cf_42_1, cf_42_2, cf_42_3, cp_42_2, cp_42_3, ci_42, cf_47_0, cf_47_1, cf_47_2, cp_47_1, cp_47_2, ci_47, cf_50_0, cf_50_1, cf_50_2, ci_50, cf_57_0, cf_57_1, ci_57, cf_62_0, cf_62_1, ci_62, cf_67_0, cf_67_1, cf_67_2, cf_67_3, cf_67_4, cf_67_5, cp_67_1, cp_67_2, ci_67, cf_76_0, cf_76_1, cf_76_2, cf_76_3, cf_76_4, cf_76_5, cp_76_1, cp_76_2, cp_76_3, ci_76, QQ_2, w4, ba]
        · rw [hM, s_159_143, if_pos p1, s_159_150, if_neg w1, s_159_161, if_neg w2, s_159_173, hin]
          simp (decide := true) only [s_159_185, s_159_188, s_159_192, s_159_195, Option.bind_some, x_tlv, x_tln, if_true, if_false, m_wa_1, m_wa_s, m_wb_1, m_wb_2, m_wb_s, m_ws_1, m_ws_b, m_ws_s, m_ws_e, m_we_1, m_we_b, m_we_s, m_we_e, mf_0, mf_1, mf_2, mf_3, mf_4, mf_5, mf_6, mf_7, mf_8, mf_9, mf_10, mf_11, mf_12, mf_13, mf_14, mf_15, mf_16, mf_17, mf_18, mf_19, mf_20, mf_21, mf_22, mf_23, mf_24, mf_25, mf_26, mf_27, mf_28, mf_29, mf_30, mp_4, mp_7, mp_9, mp_10, mp_12, mp_14, mp_15, mp_16, mp_17, mp_18, mp_19, mp_20, mi_0, hh, ma]
  · refine ⟨-1000000002, σ, μ, ?_, ?_, hS'⟩
    · simp (decide := true) only [r_88, s_88_0, s_88_4, s_88_7, s_88_11, s_88_14, s_88_18, s_88_21, s_88_25, s_88_31, s_88_36, s_88_42, Option.bind_some, x_tlv, x_tln, if_true, if_false, cr_isa, R_at, R_has, R_size, R_put, R_isFull, R_add, R_clear, c_has_eq, c_wa_1, c_wa_2, c_ws_1, c_ws_2, cf_0_0, cf_0_1, cf_0_2, cf_0_3, cf_0_4, cf_0_5, cf_0_6, cf_0_7, cf_0_8, cf_0_9, cf_0_10, cf_0_11, cf_0_12, cf_0_13, cp_0_12, cp_0_13, ci_0, cf_1_0, cf_1_1, cf_1_2, cf_1_3, cf_1_4, cp_1_1, cp_1_2, cp_1_3, cp_1_4, ci_1, cf_4_0, cf_4_1, cf_4_2, cf_4_3, cf_4_4, cf_4_5, cf_4_6, cf_4_7, cf_4_8, cf_4_9, cf_4_10, cp_4_0, cp_4_1, ci_4, cf_23_0, cf_23_1, cf_23_2, cf_23_3, cf_23_4, cf_23_5, cf_23_6, cf_23_7, cf_23_8, cf_23_9, cf_23_10, cp_23_0, cp_23_1, ci_23, cf_42_0, cf_42_1, cf_42_2, cf_42_3, cp_42_2, cp_42_3, ci_42, cf_47_0, cf_47_1, cf_47_2, cp_47_1, cp_47_2, ci_47, cf_50_0, cf_50_1, cf_50_2, ci_50, cf_57_0, cf_57_1, ci_57, cf_62_0, cf_62_1, ci_62, cf_67_0, cf_67_1, cf_67_2, cf_67_3, cf_67_4, cf_67_5, cp_67_1, cp_67_2, ci_67, cf_76_0, cf_76_1, cf_76_2, cf_76_3, cf_76_4, cf_76_5, cp_76_1, cp_76_2, cp_76_3, ci_76, c3.2, h, h2]
      by_cases h0 : n < 1
      · rw [if_pos h0]
      · rw [if_neg h0, if_neg (fun z => h3 ⟨Int32.not_lt.mp h0, z⟩)]
    · simp (decide := true) only [r_159, s_159_0, s_159_5, s_159_8, s_159_13, s_159_19, s_159_28, s_159_31, Option.bind_some, x_tlv, x_tln, if_true, if_false, m_wa_1, m_wa_s, m_wb_1, m_wb_2, m_wb_s, m_ws_1, m_ws_b, m_ws_s, m_ws_e, m_we_1, m_we_b, m_we_s, m_we_e, mf_0, mf_1, mf_2, mf_3, mf_4, mf_5, mf_6, mf_7, mf_8, mf_9, mf_10, mf_11, mf_12, mf_13, mf_14, mf_15, mf_16, mf_17, mf_18, mf_19, mf_20, mf_21, mf_22, mf_23, mf_24, mf_25, mf_26, mf_27, mf_28, mf_29, mf_30, mp_4, mp_7, mp_9, mp_10, mp_12, mp_14, mp_15, mp_16, mp_17, mp_18, mp_19, mp_20, mi_0, M_isUse _ _ (show U < 1000 by omega) c3.1, h, h2, M_in, x_w1, x_w99, x_wle, x_b_f h3]
