/-! indices of the model's arrays -/
theorem x_a0 (k : Nat) : (0 : Int32) + nI k = nI k := by rw [show (0 : Int32) = nI 0 from rfl, nI_add, Nat.zero_add]
theorem x_a6 (k : Nat) : (6 : Int32) + nI k = nI (6 + k) := nI_add 6 k
theorem x_a12 (k : Nat) : (12 : Int32) + nI k = nI (12 + k) := nI_add 12 k
theorem x_a20 (k : Nat) : (20 : Int32) + nI k = nI (20 + k) := nI_add 20 k
theorem x_a28 (k : Nat) : (28 : Int32) + nI k = nI (28 + k) := nI_add 28 k
theorem x_a36 (k : Nat) : (36 : Int32) + nI k = nI (36 + k) := nI_add 36 k
theorem x_a44 (k : Nat) : (44 : Int32) + nI k = nI (44 + k) := nI_add 44 k
theorem x_a50 (k : Nat) : (50 : Int32) + nI k = nI (50 + k) := nI_add 50 k
theorem x_a56 (k : Nat) : (56 : Int32) + nI k = nI (56 + k) := nI_add 56 k
theorem x_a62 (k : Nat) : (62 : Int32) + nI k = nI (62 + k) := nI_add 62 k
theorem md1_0 (μ : x_U) : x_ild (MG μ) 1 0 0 = some (μ.1 1 0) := rfl
theorem md1_1 (μ : x_U) : x_ild (MG μ) 1 0 1 = some (μ.1 1 1) := rfl
theorem md1_2 (μ : x_U) : x_ild (MG μ) 1 0 2 = some (μ.1 1 2) := rfl
theorem md1_3 (μ : x_U) : x_ild (MG μ) 1 0 3 = some (μ.1 1 3) := rfl
theorem md1_4 (μ : x_U) : x_ild (MG μ) 1 0 4 = some (μ.1 1 4) := rfl
theorem md1_5 (μ : x_U) : x_ild (MG μ) 1 0 5 = some (μ.1 1 5) := rfl
theorem md3_12 (μ : x_U) : x_ild (MG μ) 3 0 12 = some (μ.1 3 12) := rfl
theorem md3_13 (μ : x_U) : x_ild (MG μ) 3 0 13 = some (μ.1 3 13) := rfl
theorem mt3_12 (μ : x_U) (v : Int32) : x_ist (MG μ) 3 0 12 v = some (MG (m_wa μ 3 (upd (μ.1 3) 12 v))) := by rw [mt_3]; rfl
theorem mt3_13 (μ : x_U) (v : Int32) : x_ist (MG μ) 3 0 13 v = some (MG (m_wa μ 3 (upd (μ.1 3) 13 v))) := by rw [mt_3]; rfl
theorem md1n (μ : x_U) {k : Nat} (hk : k < 68) : x_ild (MG μ) 1 0 (nI k) = some (μ.1 1 k) := by rw [md_1, if_pos (x_inb_t hk (by decide)), nI_clamp (by omega)]
theorem mt1n (μ : x_U) {k : Nat} (v : Int32) (hk : k < 68) : x_ist (MG μ) 1 0 (nI k) v = some (MG (m_wa μ 1 (upd (μ.1 1) k v))) := by rw [mt_1, if_pos (x_inb_t hk (by decide)), nI_clamp (by omega)]
theorem md2n (μ : x_U) {k : Nat} (hk : k < 68) : x_ild (MG μ) 2 0 (nI k) = some (μ.1 2 k) := by rw [md_2, if_pos (x_inb_t hk (by decide)), nI_clamp (by omega)]
theorem mt2n (μ : x_U) {k : Nat} (v : Int32) (hk : k < 68) : x_ist (MG μ) 2 0 (nI k) v = some (MG (m_wa μ 2 (upd (μ.1 2) k v))) := by rw [mt_2, if_pos (x_inb_t hk (by decide)), nI_clamp (by omega)]
theorem md3n (μ : x_U) {k : Nat} (hk : k < 14) : x_ild (MG μ) 3 0 (nI k) = some (μ.1 3 k) := by rw [md_3, if_pos (x_inb_t hk (by decide)), nI_clamp (by omega)]
theorem mt3n (μ : x_U) {k : Nat} (v : Int32) (hk : k < 14) : x_ist (MG μ) 3 0 (nI k) v = some (MG (m_wa μ 3 (upd (μ.1 3) k v))) := by rw [mt_3, if_pos (x_inb_t hk (by decide)), nI_clamp (by omega)]
theorem md4n (μ : x_U) {k : Nat} (hk : k < 280) : x_ild (MG μ) 4 0 (nI k) = some (μ.1 4 k) := by rw [md_4, if_pos (x_inb_t hk (by decide)), nI_clamp (by omega)]
theorem mt4n (μ : x_U) {k : Nat} (v : Int32) (hk : k < 280) : x_ist (MG μ) 4 0 (nI k) v = some (MG (m_wa μ 4 (upd (μ.1 4) k v))) := by rw [mt_4, if_pos (x_inb_t hk (by decide)), nI_clamp (by omega)]
theorem md5n (μ : x_U) {k : Nat} (hk : k < 30) : x_ild (MG μ) 5 0 (nI k) = some (μ.1 5 k) := by rw [md_5, if_pos (x_inb_t hk (by decide)), nI_clamp (by omega)]
theorem mt5n (μ : x_U) {k : Nat} (v : Int32) (hk : k < 30) : x_ist (MG μ) 5 0 (nI k) v = some (MG (m_wa μ 5 (upd (μ.1 5) k v))) := by rw [mt_5, if_pos (x_inb_t hk (by decide)), nI_clamp (by omega)]
theorem md6n (μ : x_U) {k : Nat} (hk : k < 2) : x_ild (MG μ) 6 2 (nI k) = some (μ.1 6 k) := by rw [md_6, if_pos (x_inb_t hk (by decide)), nI_clamp (by omega)]
theorem mt6n (μ : x_U) {k : Nat} (v : Int32) (hk : k < 2) : x_ist (MG μ) 6 2 (nI k) v = some (MG (m_wa μ 6 (upd (μ.1 6) k v))) := by rw [mt_6, if_pos (x_inb_t hk (by decide)), nI_clamp (by omega)]
theorem md7n (μ : x_U) {k : Nat} (hk : k < 240) : x_ild (MG μ) 7 0 (nI k) = some (μ.1 7 k) := by rw [md_7, if_pos (x_inb_t hk (by decide)), nI_clamp (by omega)]
theorem mt7n (μ : x_U) {k : Nat} (v : Int32) (hk : k < 240) : x_ist (MG μ) 7 0 (nI k) v = some (MG (m_wa μ 7 (upd (μ.1 7) k v))) := by rw [mt_7, if_pos (x_inb_t hk (by decide)), nI_clamp (by omega)]
theorem md8n (μ : x_U) {k : Nat} (hk : k < 18) : x_ild (MG μ) 8 0 (nI k) = some (μ.1 8 k) := by rw [md_8, if_pos (x_inb_t hk (by decide)), nI_clamp (by omega)]
theorem mt8n (μ : x_U) {k : Nat} (v : Int32) (hk : k < 18) : x_ist (MG μ) 8 0 (nI k) v = some (MG (m_wa μ 8 (upd (μ.1 8) k v))) := by rw [mt_8, if_pos (x_inb_t hk (by decide)), nI_clamp (by omega)]
theorem md9n (μ : x_U) {k : Nat} (hk : k < 30) : x_ild (MG μ) 9 0 (nI k) = some (μ.1 9 k) := by rw [md_9, if_pos (x_inb_t hk (by decide)), nI_clamp (by omega)]
theorem mt9n (μ : x_U) {k : Nat} (v : Int32) (hk : k < 30) : x_ist (MG μ) 9 0 (nI k) v = some (MG (m_wa μ 9 (upd (μ.1 9) k v))) := by rw [mt_9, if_pos (x_inb_t hk (by decide)), nI_clamp (by omega)]
theorem md10n (μ : x_U) {k : Nat} (hk : k < 6) : x_lld (MG μ) 10 (nI k) = some (μ.2.1 10 k) := by rw [md_10, if_pos (x_inb_t hk (by decide)), nI_clamp (by omega)]
theorem mt10n (μ : x_U) {k : Nat} (v : Int64) (hk : k < 6) : x_lst (MG μ) 10 (nI k) v = some (MG (m_wb μ 10 (vp_updL (μ.2.1 10) k v))) := by rw [mt_10, if_pos (x_inb_t hk (by decide)), nI_clamp (by omega)]
theorem md11n (μ : x_U) {k : Nat} (hk : k < 6) : x_lld (MG μ) 11 (nI k) = some (μ.2.1 11 k) := by rw [md_11, if_pos (x_inb_t hk (by decide)), nI_clamp (by omega)]
theorem mt11n (μ : x_U) {k : Nat} (v : Int64) (hk : k < 6) : x_lst (MG μ) 11 (nI k) v = some (MG (m_wb μ 11 (vp_updL (μ.2.1 11) k v))) := by rw [mt_11, if_pos (x_inb_t hk (by decide)), nI_clamp (by omega)]
theorem md12n (μ : x_U) {k : Nat} (hk : k < 4) : x_ild (MG μ) 12 0 (nI k) = some (μ.1 12 k) := by rw [md_12, if_pos (x_inb_t hk (by decide)), nI_clamp (by omega)]
theorem mt12n (μ : x_U) {k : Nat} (v : Int32) (hk : k < 4) : x_ist (MG μ) 12 0 (nI k) v = some (MG (m_wa μ 12 (upd (μ.1 12) k v))) := by rw [mt_12, if_pos (x_inb_t hk (by decide)), nI_clamp (by omega)]
theorem md13n (μ : x_U) {k : Nat} (hk : k < 4) : x_ild (MG μ) 13 0 (nI k) = some (μ.1 13 k) := by rw [md_13, if_pos (x_inb_t hk (by decide)), nI_clamp (by omega)]
theorem mt13n (μ : x_U) {k : Nat} (v : Int32) (hk : k < 4) : x_ist (MG μ) 13 0 (nI k) v = some (MG (m_wa μ 13 (upd (μ.1 13) k v))) := by rw [mt_13, if_pos (x_inb_t hk (by decide)), nI_clamp (by omega)]
theorem md14n (μ : x_U) {k : Nat} (hk : k < 6) : x_ild (MG μ) 14 0 (nI k) = some (μ.1 14 k) := by rw [md_14, if_pos (x_inb_t hk (by decide)), nI_clamp (by omega)]
theorem mt14n (μ : x_U) {k : Nat} (v : Int32) (hk : k < 6) : x_ist (MG μ) 14 0 (nI k) v = some (MG (m_wa μ 14 (upd (μ.1 14) k v))) := by rw [mt_14, if_pos (x_inb_t hk (by decide)), nI_clamp (by omega)]
theorem md15n (μ : x_U) {k : Nat} (hk : k < 6) : x_ild (MG μ) 15 0 (nI k) = some (μ.1 15 k) := by rw [md_15, if_pos (x_inb_t hk (by decide)), nI_clamp (by omega)]
theorem mt15n (μ : x_U) {k : Nat} (v : Int32) (hk : k < 6) : x_ist (MG μ) 15 0 (nI k) v = some (MG (m_wa μ 15 (upd (μ.1 15) k v))) := by rw [mt_15, if_pos (x_inb_t hk (by decide)), nI_clamp (by omega)]
theorem md16n (μ : x_U) {k : Nat} (hk : k < 6) : x_ild (MG μ) 16 0 (nI k) = some (μ.1 16 k) := by rw [md_16, if_pos (x_inb_t hk (by decide)), nI_clamp (by omega)]
theorem mt16n (μ : x_U) {k : Nat} (v : Int32) (hk : k < 6) : x_ist (MG μ) 16 0 (nI k) v = some (MG (m_wa μ 16 (upd (μ.1 16) k v))) := by rw [mt_16, if_pos (x_inb_t hk (by decide)), nI_clamp (by omega)]
theorem md17n (μ : x_U) {k : Nat} (hk : k < 6) : x_ild (MG μ) 17 0 (nI k) = some (μ.1 17 k) := by rw [md_17, if_pos (x_inb_t hk (by decide)), nI_clamp (by omega)]
theorem mt17n (μ : x_U) {k : Nat} (v : Int32) (hk : k < 6) : x_ist (MG μ) 17 0 (nI k) v = some (MG (m_wa μ 17 (upd (μ.1 17) k v))) := by rw [mt_17, if_pos (x_inb_t hk (by decide)), nI_clamp (by omega)]
theorem md18n (μ : x_U) {k : Nat} (hk : k < 6) : x_ild (MG μ) 18 0 (nI k) = some (μ.1 18 k) := by rw [md_18, if_pos (x_inb_t hk (by decide)), nI_clamp (by omega)]
theorem mt18n (μ : x_U) {k : Nat} (v : Int32) (hk : k < 6) : x_ist (MG μ) 18 0 (nI k) v = some (MG (m_wa μ 18 (upd (μ.1 18) k v))) := by rw [mt_18, if_pos (x_inb_t hk (by decide)), nI_clamp (by omega)]
theorem md19n (μ : x_U) {k : Nat} (hk : k < 21) : x_ild (MG μ) 19 0 (nI k) = some (μ.1 19 k) := by rw [md_19, if_pos (x_inb_t hk (by decide)), nI_clamp (by omega)]
theorem mt19n (μ : x_U) {k : Nat} (v : Int32) (hk : k < 21) : x_ist (MG μ) 19 0 (nI k) v = some (MG (m_wa μ 19 (upd (μ.1 19) k v))) := by rw [mt_19, if_pos (x_inb_t hk (by decide)), nI_clamp (by omega)]
theorem n14_l (σ : x_S) {p : Nat} (h : p < 6) : n14 σ p = σ.1 44 p := if_pos h
theorem n14_d (σ : x_S) {p : Nat} (h : p < 6) : n14 σ (6 + p) = σ.1 46 p := by
  unfold n14
  rw [if_neg (by omega), if_pos (by omega), Nat.add_sub_cancel_left]
theorem n14_p (σ : x_S) : n14 σ 12 = σ.2 42 2 := rfl
theorem n14_w (σ : x_S) : n14 σ 13 = σ.2 42 3 := rfl
def c_quo (a b : Int32) : Int32 := if b = 0 then 0 else a / b
theorem c_quo_t {a b : Int32} (h : ¬ b = 0) : c_quo a b = a / b := if_neg h
theorem R_quot (d : Nat) (a b : Int32) (h : x_H) : x_R x_P (d + 1) 108 [.int a, .int b] h = some (some (.int (c_quo a b)), h) := by
  unfold c_quo
  rw [r_108, s_108_0]
  by_cases hb : b = 0
  · rw [if_pos hb, if_pos hb]; simp only [s_108_0, s_108_4, s_108_8, s_108_11]
  · rw [if_neg hb, if_neg hb]; simp only [s_108_0, s_108_4, s_108_8, s_108_11, hb, not_false_eq_true, if_true]
def c_rem (a b : Int32) : Int32 := if b = 0 then 0 else a - a / b * b
theorem c_rem_t {a b : Int32} (h : ¬ b = 0) : c_rem a b = a - a / b * b := if_neg h
theorem R_rem (d : Nat) (a b : Int32) (h : x_H) : x_R x_P (d + 1) 109 [.int a, .int b] h = some (some (.int (c_rem a b)), h) := by
  unfold c_rem
  rw [r_109, s_109_0]
  by_cases hb : b = 0
  · rw [if_pos hb, if_pos hb]; simp only [s_109_0, s_109_4, s_109_8, s_109_11]
  · rw [if_neg hb, if_neg hb]; simp only [s_109_0, s_109_4, s_109_8, s_109_11, hb, not_false_eq_true, if_true]
/-- whole yards of a piece, the class's way -/
def c_whole (σ : x_S) (p : Int32) : Int32 := c_quo (c_at σ 43 p) (c_at σ 5 (c_at σ 45 p))
theorem R_whole (d : Nat) (σ : x_S) (p : Int32) : x_R x_P (d + 2) 9 [.ref 42, .ref 4, .int p] (CG σ) = some (some (.int (c_whole σ p)), CG σ) := by
  simp (decide := true) only [r_9, s_9_0, s_9_4, s_9_8, s_9_12, s_9_16, s_9_20, s_9_23, s_9_26, Option.bind_some, x_tlv, x_tln, if_true, if_false, cr_isa, R_at, R_has, R_size, R_put, R_isFull, R_add, R_clear, c_has_eq, c_wa_1, c_wa_2, c_ws_1, c_ws_2, cf_0_0, cf_0_1, cf_0_2, cf_0_3, cf_0_4, cf_0_5, cf_0_6, cf_0_7, cf_0_8, cf_0_9, cf_0_10, cf_0_11, cf_0_12, cf_0_13, cp_0_12, cp_0_13, ci_0, cf_1_0, cf_1_1, cf_1_2, cf_1_3, cf_1_4, cp_1_1, cp_1_2, cp_1_3, cp_1_4, ci_1, cf_4_0, cf_4_1, cf_4_2, cf_4_3, cf_4_4, cf_4_5, cf_4_6, cf_4_7, cf_4_8, cf_4_9, cf_4_10, cp_4_0, cp_4_1, ci_4, cf_23_0, cf_23_1, cf_23_2, cf_23_3, cf_23_4, cf_23_5, cf_23_6, cf_23_7, cf_23_8, cf_23_9, cf_23_10, cp_23_0, cp_23_1, ci_23, cf_42_0, cf_42_1, cf_42_2, cf_42_3, cp_42_2, cp_42_3, ci_42, cf_47_0, cf_47_1, cf_47_2, cp_47_1, cp_47_2, ci_47, cf_50_0, cf_50_1, cf_50_2, ci_50, cf_57_0, cf_57_1, ci_57, cf_62_0, cf_62_1, ci_62, cf_67_0, cf_67_1, cf_67_2, cf_67_3, cf_67_4, cf_67_5, cp_67_1, cp_67_2, ci_67, cf_76_0, cf_76_1, cf_76_2, cf_76_3, cf_76_4, cf_76_5, cp_76_1, cp_76_2, cp_76_3, ci_76, R_quot]
  rfl
/-- whole yards of a piece, the model's way -/
theorem M_yards (d : Nat) (μ : x_U) {p a : Nat} (hp : p < 6) (ha : a < 6) (h : μ.1 3 (6 + p) = nI a) (hy : ¬ μ.1 1 (6 + a) = 0) : x_R x_P (d + 1) 138 [.ref 0, .int (nI p)] (MG μ) = some (some (.int (μ.1 3 p / μ.1 1 (6 + a))), MG μ) := by
  simp (disch := first | decide | omega) only [r_138, s_138_0, s_138_4, s_138_8, s_138_12, s_138_18, s_138_23, s_138_25, s_138_26, Option.bind_some, x_tlv, x_tln, if_true, if_false, m_wa_1, m_wa_s, m_wb_1, m_wb_2, m_wb_s, m_ws_1, m_ws_b, m_ws_s, m_ws_e, m_we_1, m_we_b, m_we_s, m_we_e, mf_0, mf_1, mf_2, mf_3, mf_4, mf_5, mf_6, mf_7, mf_8, mf_9, mf_10, mf_11, mf_12, mf_13, mf_14, mf_15, mf_16, mf_17, mf_18, mf_19, mf_20, mf_21, mf_22, mf_23, mf_24, mf_25, mf_26, mf_27, mf_28, mf_29, mf_30, mp_4, mp_7, mp_9, mp_10, mp_12, mp_14, mp_15, mp_16, mp_17, mp_18, mp_19, mp_20, mi_0, x_a0, x_a6, md3n, md1n, h]
  simp only [hy, not_false_eq_true, if_true]
theorem Rg_ne {v : Int32} {lo hi : Nat} (h : Rg v lo hi) (h1 : 0 < lo) (h2 : hi < 2 ^ 31) : ¬ v = 0 := by
  obtain ⟨n, rfl, h3, h4⟩ := h
  exact nI_ne0 (by omega) (by omega)
