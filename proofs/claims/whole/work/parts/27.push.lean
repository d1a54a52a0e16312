/-! what was is kept: push, remember -/
theorem blk_congr {P U : Nat} {f f' g g' : Nat → Int32} (hP : P ≤ 6) (hf : ∀ j, j < 14 → f' j = f j) (hg : ∀ j, j < 14 → g' j = g j) (h : blk P U f g) : blk P U f' g' := by
  obtain ⟨h1, h2, h3, h4⟩ := h
  refine ⟨fun p hp => ?_, ?_, ?_, fun p h5 h6 => ?_⟩
  · rw [hf p (by omega), hg p (by omega), hf (6 + p) (by omega), hg (6 + p) (by omega)]
    exact h1 p hp
  · rw [hf 12 (by omega), hg 12 (by omega)]
    exact h2
  · rw [hf 13 (by omega), hg 13 (by omega)]
    exact h3
  · rw [hg p (by omega)]
    exact h4 p h5 h6
def c_psh (σ : x_S) (x n : Nat) : x_S := c_ws (c_ws (c_wa σ 49 (blkw (σ.1 49) (14 * x) (n14 σ))) 47 1 (nI ((x + 1) % 20))) 47 2 (nI (if 20 < n + 1 then 20 else n + 1))
theorem R_push (d : Nat) (σ : x_S) {x n : Nat} (hx : x < 20) (hn : n ≤ 20) (h1 : σ.2 47 1 = nI x) (h2 : σ.2 47 2 = nI n) : x_R x_P (d + 3) 35 [.ref 47, .ref 42] (CG σ) = some (none, CG (c_psh σ x n)) := by
  have e1 : (nI (x + 1) - nI (x + 1) / 20 * 20) = nI ((x + 1) % 20) := pk_rem (a := x + 1) (d := 20) (by omega) (by omega) (by omega)
  have e2 : (if (20 : Int32) < nI (n + 1) then 20 else nI (n + 1)) = nI (if 20 < n + 1 then 20 else n + 1) := by
    by_cases h : 20 < n + 1
    · have g : (20 : Int32) < nI (n + 1) := nI_lt (a := 20) h (by omega)
      rw [if_pos h, if_pos g]
      rfl
    · have g : ¬ (20 : Int32) < nI (n + 1) := nI_nlt (b := n + 1) (a := 20) (by omega) (by omega)
      rw [if_neg h, if_neg g]
  have e3 : x * 14 = 14 * x := Nat.mul_comm _ _
  have hs := R_save d σ 48 (14 * x) (by decide) (by decide) (by decide) (by show 14 * x + 14 ≤ 280; omega)
  simp (decide := true) only [r_35, s_35_0, s_35_5, s_35_9, s_35_15, s_35_20, s_35_28, s_35_33, s_35_43, Option.bind_some, x_tlv, x_tln, if_true, if_false, cr_isa, R_at, R_has, R_size, R_put, R_isFull, R_add, R_clear, c_has_eq, c_wa_1, c_wa_2, c_ws_1, c_ws_2, cf_0_0, cf_0_1, cf_0_2, cf_0_3, cf_0_4, cf_0_5, cf_0_6, cf_0_7, cf_0_8, cf_0_9, cf_0_10, cf_0_11, cf_0_12, cf_0_13, cp_0_12, cp_0_13, ci_0, cf_1_0, cf_1_1, cf_1_2, cf_1_3, cf_1_4, cp_1_1, cp_1_2, cp_1_3, cp_1_4, ci_1, cf_4_0, cf_4_1, cf_4_2, cf_4_3, cf_4_4, cf_4_5, cf_4_6, cf_4_7, cf_4_8, cf_4_9, cf_4_10, cp_4_0, cp_4_1, ci_4, cf_23_0, cf_23_1, cf_23_2, cf_23_3, cf_23_4, cf_23_5, cf_23_6, cf_23_7, cf_23_8, cf_23_9, cf_23_10, cp_23_0, cp_23_1, ci_23, cf_42_0, cf_42_1, cf_42_2, cf_42_3, cp_42_2, cp_42_3, ci_42, cf_47_0, cf_47_1, cf_47_2, cp_47_1, cp_47_2, ci_47, cf_50_0, cf_50_1, cf_50_2, ci_50, cf_57_0, cf_57_1, ci_57, cf_62_0, cf_62_1, ci_62, cf_67_0, cf_67_1, cf_67_2, cf_67_3, cf_67_4, cf_67_5, cp_67_1, cp_67_2, ci_67, cf_76_0, cf_76_1, cf_76_2, cf_76_3, cf_76_4, cf_76_5, cp_76_1, cp_76_2, cp_76_3, ci_76, h1, x_t14, e3, hs, nI_1, e1, h2, e2]
  rfl
def shf (f : Nat → Int32) (k : Nat) : Nat → Int32 := fun j => if j < k then f (j + 14) else f j
theorem shf_0 (f : Nat → Int32) : shf f 0 = f := by
  funext j
  unfold shf
  rw [if_neg (by omega)]
theorem shf_s (f : Nat → Int32) (k : Nat) : upd (shf f k) k (f (k + 14)) = shf f (k + 1) := by
  funext j
  unfold upd shf
  by_cases h : j = k
  · subst h; rw [if_pos rfl, if_pos (by omega)]
  · rw [if_neg h]
    by_cases h2 : j < k
    · rw [if_pos h2, if_pos (by omega)]
    · rw [if_neg h2, if_neg (by omega)]
theorem x_c266 {k : Nat} (h : k < 266) : ¬ (266 : Int32) ≤ nI k := by
  rw [x_lit 266]; exact nI_ge h (by omega)
theorem E_shf (d : Nat) (μ : x_U) : ∀ m k, k + m = 266 → x_E x_P d x_c142 11 [.ref 0, .int (nI k)] [] (MG (m_wa μ 4 (shf (μ.1 4) k))) = x_E x_P d x_c142 39 [.ref 0, .int (nI 266)] [] (MG (m_wa μ 4 (shf (μ.1 4) 266))) := by
  intro m
  induction m with
  | zero =>
    intro k hk
    obtain rfl : k = 266 := by omega
    rw [s_142_11, if_pos (by decide)]
  | succ m ih =>
    intro k hk
    have e0 : shf (μ.1 4) k (k + 14) = μ.1 4 (k + 14) := if_neg (by omega)
    rw [s_142_11, if_neg (x_c266 (by omega))]
    simp (disch := first | assumption | omega) only [s_142_18, s_142_22, s_142_27, s_142_32, s_142_33, Option.bind_some, x_tlv, x_tln, if_true, if_false, m_wa_1, m_wa_s, m_wb_1, m_wb_2, m_wb_s, m_ws_1, m_ws_b, m_ws_s, m_ws_e, m_we_1, m_we_b, m_we_s, m_we_e, mf_0, mf_1, mf_2, mf_3, mf_4, mf_5, mf_6, mf_7, mf_8, mf_9, mf_10, mf_11, mf_12, mf_13, mf_14, mf_15, mf_16, mf_17, mf_18, mf_19, mf_20, mf_21, mf_22, mf_23, mf_24, mf_25, mf_26, mf_27, mf_28, mf_29, mf_30, mp_4, mp_7, mp_9, mp_10, mp_12, mp_14, mp_15, mp_16, mp_17, mp_18, mp_19, mp_20, mi_0, x_p14, md4n, mt4n, m_wa_wa, nI_1, e0, shf_s]
    exact ih (k + 1) (by omega)
theorem x_n20 {n : Nat} (h : n ≤ 20) : (nI n = 20) ↔ n = 20 := nI_eq (b := 20) (by omega) (by omega)
theorem m_wa_ws (μ : x_U) (k q : Nat) (v : Int32) (f : Nat → Int32) : m_wa (m_ws μ k v) q f = m_ws (m_wa μ q f) k v := rfl
theorem m_ws_ws (μ : x_U) (k : Nat) (v w : Int32) : m_ws (m_ws μ k v) k w = m_ws μ k w := by
  unfold m_ws
  congr 2
  congr 1
  funext j
  by_cases h : j = k <;> simp [h]
def m_rmb (μ : x_U) (n : Nat) : x_U := if n = 20 then m_ws (m_wa μ 4 (blkw (shf (μ.1 4) 266) (14 * 19) (μ.1 3))) 4 (nI 20) else m_ws (m_wa μ 4 (blkw (μ.1 4) (14 * n) (μ.1 3))) 4 (nI (n + 1))
theorem x_z0 (f : Nat → Int32) : (fun x => f (0 + x)) = f := by
  funext x
  rw [Nat.zero_add]
theorem M_rmb (d : Nat) (μ : x_U) {n : Nat} (hn : n ≤ 20) (h1 : μ.2.2.1 4 = nI n) : x_R x_P (d + 2) 142 [.ref 0] (MG μ) = some (none, MG (m_rmb μ n)) := by
  have hc : ∀ (d : Nat) (μ : x_U) (j : Nat), j + 14 ≤ 280 → x_R x_P (d + 1) 141 [.ref 3, .int 0, .ref 4, .int (nI j)] (MG μ) = some (none, MG (m_wa μ 4 (blkw (μ.1 4) j (μ.1 3)))) := by
    intro d μ j hj
    have h := M_cpy d μ 3 4 0 j 14 280 (by decide) (by omega) hj (fun μ k hk => md3n μ hk) (fun μ k v hk => mt4n μ v hk)
    rw [x_z0] at h
    exact h
  unfold m_rmb
  by_cases h : n = 20
  · subst h
    rw [if_pos rfl]
    have hE := E_shf (d + 1) μ 266 0 (by omega)
    rw [shf_0, m_wa_id] at hE
    have e20 : nI 20 - 1 = nI 19 := nI_pred 19
    simp (disch := first | decide | omega) only [r_142, s_142_0, s_142_4, s_142_9, Option.bind_some, x_tlv, x_tln, if_true, if_false, m_wa_1, m_wa_s, m_wb_1, m_wb_2, m_wb_s, m_ws_1, m_ws_b, m_ws_s, m_ws_e, m_we_1, m_we_b, m_we_s, m_we_e, mf_0, mf_1, mf_2, mf_3, mf_4, mf_5, mf_6, mf_7, mf_8, mf_9, mf_10, mf_11, mf_12, mf_13, mf_14, mf_15, mf_16, mf_17, mf_18, mf_19, mf_20, mf_21, mf_22, mf_23, mf_24, mf_25, mf_26, mf_27, mf_28, mf_29, mf_30, mp_4, mp_7, mp_9, mp_10, mp_12, mp_14, mp_15, mp_16, mp_17, mp_18, mp_19, mp_20, mi_0, h1]
    rw [if_pos (show nI 20 = 20 from rfl), show (0 : Int32) = nI 0 from rfl, hE]
    simp (disch := first | decide | omega) only [s_142_39, s_142_44, s_142_49, s_142_53, s_142_58, s_142_64, s_142_68, s_142_73, s_142_78, Option.bind_some, x_tlv, x_tln, if_true, if_false, m_wa_1, m_wa_s, m_wb_1, m_wb_2, m_wb_s, m_ws_1, m_ws_b, m_ws_s, m_ws_e, m_we_1, m_we_b, m_we_s, m_we_e, mf_0, mf_1, mf_2, mf_3, mf_4, mf_5, mf_6, mf_7, mf_8, mf_9, mf_10, mf_11, mf_12, mf_13, mf_14, mf_15, mf_16, mf_17, mf_18, mf_19, mf_20, mf_21, mf_22, mf_23, mf_24, mf_25, mf_26, mf_27, mf_28, mf_29, mf_30, mp_4, mp_7, mp_9, mp_10, mp_12, mp_14, mp_15, mp_16, mp_17, mp_18, mp_19, mp_20, mi_0, h1, e20, x_14t, hc]
    rw [show nI 19 + 1 = nI 20 from nI_1 19]
    simp only [m_wa_ws, m_ws_ws, m_wa_wa, if_true]
    rfl
  · rw [if_neg h]
    have h' : ¬ nI n = 20 := fun z => h ((x_n20 hn).mp z)
    simp (disch := first | decide | omega) only [r_142, s_142_0, s_142_4, s_142_49, s_142_53, s_142_58, s_142_64, s_142_68, s_142_73, s_142_78, Option.bind_some, x_tlv, x_tln, if_true, if_false, m_wa_1, m_wa_s, m_wb_1, m_wb_2, m_wb_s, m_ws_1, m_ws_b, m_ws_s, m_ws_e, m_we_1, m_we_b, m_we_s, m_we_e, mf_0, mf_1, mf_2, mf_3, mf_4, mf_5, mf_6, mf_7, mf_8, mf_9, mf_10, mf_11, mf_12, mf_13, mf_14, mf_15, mf_16, mf_17, mf_18, mf_19, mf_20, mf_21, mf_22, mf_23, mf_24, mf_25, mf_26, mf_27, mf_28, mf_29, mf_30, mp_4, mp_7, mp_9, mp_10, mp_12, mp_14, mp_15, mp_16, mp_17, mp_18, mp_19, mp_20, mi_0, h1, h', x_14t, hc, nI_1]
/-- both keep what was -/
theorem push_sim {σ : x_S} {μ : x_U} {U P : Nat} (hP : P ≤ 6) (hp : S_past σ μ U P) (hn : blk P U (n14 σ) (μ.1 3)) : ∃ F a b G c, (∀ d, x_R x_P (d + 3) 35 [.ref 47, .ref 42] (CG σ) = some (none, CG (c_ws (c_ws (c_wa σ 49 F) 47 1 a) 47 2 b))) ∧ (∀ d, x_R x_P (d + 2) 142 [.ref 0] (MG μ) = some (none, MG (m_ws (m_wa μ 4 G) 4 c))) ∧ S_past (c_ws (c_ws (c_wa σ 49 F) 47 1 a) 47 2 b) (m_ws (m_wa μ 4 G) 4 c) U P := by
  obtain ⟨n, x, n1, x1, p1, p2, p3, p4⟩ := hp
  have hR := fun d => R_push d σ x1 n1 p3 p2
  have hM := fun d => M_rmb d μ n1 p1
  unfold m_rmb at hM
  by_cases h : n = 20
  · subst h
    rw [if_pos rfl] at hM
    refine ⟨_, _, _, _, _, hR, hM, 20, (x + 1) % 20, by omega, by omega, rfl, rfl, rfl, fun k hk => ?_⟩
    by_cases hk0 : k = 0
    · subst hk0
      refine blk_congr hP (fun j hj => ?_) (fun j hj => ?_) hn
      · show blkw (σ.1 49) (14 * x) (n14 σ) (14 * (((x + 1) % 20 + 19 - 0) % 20) + j) = _
        unfold blkw
        rw [if_pos (by omega)]
        exact congrArg (n14 σ) (by omega)
      · show blkw (shf (μ.1 4) 266) (14 * 19) (μ.1 3) (14 * (20 - 1 - 0) + j) = _
        unfold blkw
        rw [if_pos (by omega)]
        exact congrArg (μ.1 3) (by omega)
    · refine blk_congr hP (fun j hj => ?_) (fun j hj => ?_) (p4 (k - 1) (by omega))
      · show blkw (σ.1 49) (14 * x) (n14 σ) (14 * (((x + 1) % 20 + 19 - k) % 20) + j) = _
        have e : ((x + 1) % 20 + 19 - k) % 20 = (x + 19 - (k - 1)) % 20 := by omega
        rw [e]
        unfold blkw
        rw [if_neg (by omega)]
      · show blkw (shf (μ.1 4) 266) (14 * 19) (μ.1 3) (14 * (20 - 1 - k) + j) = _
        unfold blkw shf
        rw [if_neg (by omega), if_pos (by omega)]
        exact congrArg (μ.1 4) (by omega)
  · rw [if_neg h] at hM
    have e20 : (if 20 < n + 1 then 20 else n + 1) = n + 1 := if_neg (by omega)
    refine ⟨_, _, _, _, _, hR, hM, n + 1, (x + 1) % 20, by omega, by omega, rfl, ?_, rfl, fun k hk => ?_⟩
    · show nI (if 20 < n + 1 then 20 else n + 1) = _
      rw [e20]
    by_cases hk0 : k = 0
    · subst hk0
      refine blk_congr hP (fun j hj => ?_) (fun j hj => ?_) hn
      · show blkw (σ.1 49) (14 * x) (n14 σ) (14 * (((x + 1) % 20 + 19 - 0) % 20) + j) = _
        unfold blkw
        rw [if_pos (by omega)]
        exact congrArg (n14 σ) (by omega)
      · show blkw (μ.1 4) (14 * n) (μ.1 3) (14 * (n + 1 - 1 - 0) + j) = _
        unfold blkw
        rw [if_pos (by omega)]
        exact congrArg (μ.1 3) (by omega)
    · refine blk_congr hP (fun j hj => ?_) (fun j hj => ?_) (p4 (k - 1) (by omega))
      · show blkw (σ.1 49) (14 * x) (n14 σ) (14 * (((x + 1) % 20 + 19 - k) % 20) + j) = _
        have e : ((x + 1) % 20 + 19 - k) % 20 = (x + 19 - (k - 1)) % 20 := by omega
        rw [e]
        unfold blkw
        rw [if_neg (by omega)]
      · show blkw (μ.1 4) (14 * n) (μ.1 3) (14 * (n + 1 - 1 - k) + j) = _
        unfold blkw
        rw [if_neg (by omega)]
        exact congrArg (μ.1 4) (by omega)
