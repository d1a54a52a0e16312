/-! blocks of 14: save, load, copies -/
theorem x_p6 (n : Nat) : nI n + 6 = nI (n + 6) := nI_add n 6
theorem x_p12 (n : Nat) : nI n + 12 = nI (n + 12) := nI_add n 12
theorem x_p14 (n : Nat) : nI n + 14 = nI (n + 14) := nI_add n 14
theorem x_t14 (n : Nat) : nI n * 14 = nI (n * 14) := pk_mul n 14
theorem x_14t (n : Nat) : (14 : Int32) * nI n = nI (14 * n) := pk_mul 14 n
theorem c_wa_wa (σ : x_S) (a : Nat) (f g : Nat → Int32) : c_wa (c_wa σ a f) a g = c_wa σ a g := by
  unfold c_wa
  congr 1
  funext q
  by_cases h : q = a <;> simp [h]
theorem m_wa_wa (μ : x_U) (a : Nat) (f g : Nat → Int32) : m_wa (m_wa μ a f) a g = m_wa μ a g := by
  unfold m_wa
  congr 1
  funext q
  by_cases h : q = a <;> simp [h]
theorem c_wa_id (σ : x_S) (a : Nat) : c_wa σ a (σ.1 a) = σ := by
  unfold c_wa
  have : (fun q => if q = a then σ.1 a else σ.1 q) = σ.1 := by
    funext q
    by_cases h : q = a <;> simp [h]
  rw [this]
theorem m_wa_id (μ : x_U) (a : Nat) : m_wa μ a (μ.1 a) = μ := by
  unfold m_wa
  have : (fun q => if q = a then μ.1 a else μ.1 q) = μ.1 := by
    funext q
    by_cases h : q = a <;> simp [h]
  rw [this]
def blkw (f : Nat → Int32) (o : Nat) (g : Nat → Int32) : Nat → Int32 := fun j => if o ≤ j ∧ j < o + 14 then g (j - o) else f j
def svf (σ : x_S) (f : Nat → Int32) (o k : Nat) : Nat → Int32 := fun j => if o ≤ j ∧ j < o + k then σ.1 44 (j - o) else if o + 6 ≤ j ∧ j < o + 6 + k then σ.1 46 (j - (o + 6)) else f j
theorem svf_0 (σ : x_S) (f : Nat → Int32) (o : Nat) : svf σ f o 0 = f := by
  funext j
  unfold svf
  rw [if_neg (by omega), if_neg (by omega)]
theorem svf_s (σ : x_S) (f : Nat → Int32) (o k : Nat) (hk : k < 6) : upd (upd (svf σ f o k) (o + k) (σ.1 44 k)) (o + 6 + k) (σ.1 46 k) = svf σ f o (k + 1) := by
  funext j
  unfold upd svf
  by_cases h1 : j = o + 6 + k
  · subst h1
    rw [if_pos rfl, if_neg (by omega), if_pos (by omega), Nat.add_sub_cancel_left]
  · rw [if_neg h1]
    by_cases h2 : j = o + k
    · subst h2
      rw [if_pos rfl, if_pos (by omega), Nat.add_sub_cancel_left]
    · rw [if_neg h2]
      by_cases h3 : o ≤ j ∧ j < o + k
      · rw [if_pos h3, if_pos (by omega)]
      · rw [if_neg h3, if_neg (show ¬ (o ≤ j ∧ j < o + (k + 1)) by omega)]
        by_cases h4 : o + 6 ≤ j ∧ j < o + 6 + k
        · rw [if_pos h4, if_pos (by omega)]
        · rw [if_neg h4, if_neg (by omega)]
theorem svf_6 (σ : x_S) (f : Nat → Int32) (o : Nat) : upd (upd (svf σ f o 6) (o + 12) (σ.2 42 2)) (o + 12 + 1) (σ.2 42 3) = blkw f o (n14 σ) := by
  funext j
  unfold upd svf blkw n14
  by_cases h1 : j = o + 12 + 1
  · subst h1
    rw [if_pos rfl, if_pos (by omega), if_neg (by omega), if_neg (by omega), if_neg (by omega)]
  · rw [if_neg h1]
    by_cases h2 : j = o + 12
    · subst h2
      rw [if_pos rfl, if_pos (by omega), if_neg (by omega), if_neg (by omega), if_pos (by omega)]
    · rw [if_neg h2]
      by_cases h3 : o ≤ j ∧ j < o + 6
      · rw [if_pos h3, if_pos (by omega), if_pos (by omega)]
      · rw [if_neg h3]
        by_cases h4 : o + 6 ≤ j ∧ j < o + 6 + 6
        · rw [if_pos h4, if_pos (by omega), if_neg (by omega), if_pos (by omega)]
          congr 1
        · rw [if_neg h4, if_neg (by omega)]
theorem c_pt_wa {σ : x_S} {q i : Nat} {F : Nat → Int32} {v : Int32} (hi : i < c_room q) : c_pt (c_wa σ (q + 1) F) q (nI i) v = c_wa σ (q + 1) (upd F i v) := by
  rw [c_pt_n hi, c_wa_1, if_pos rfl, c_wa_wa]
theorem E_save (d : Nat) (σ : x_S) (q o : Nat) (hq : c_isrow q = true) (h1 : q + 1 ≠ 44) (h2 : q + 1 ≠ 46) (hr : o + 14 ≤ c_room q) : ∀ m k, k + m = 6 → x_E x_P (d + 1) x_c12 2 [.ref 42, .ref q, .int (nI o), .int (nI k)] [] (CG (c_wa σ (q + 1) (svf σ (σ.1 (q + 1)) o k))) = some (none, CG (c_wa σ (q + 1) (blkw (σ.1 (q + 1)) o (n14 σ)))) := by
  have g1 : (44 = q + 1) = False := eq_false (fun z => h1 z.symm)
  have g2 : (46 = q + 1) = False := eq_false (fun z => h2 z.symm)
  have hr2 := c_room_lt q
  intro m
  induction m with
  | zero =>
    intro k hk
    obtain rfl : k = 6 := by omega
    have e : (6 : Int32) ≤ nI 6 := by decide
    rw [s_12_2]
    simp (disch := first | assumption | decide | omega) only [s_12_0, s_12_8, s_12_16, s_12_20, s_12_23, s_12_34, s_12_38, s_12_41, s_12_47, s_12_56, s_12_59, s_12_70, s_12_73, Option.bind_some, x_tlv, x_tln, if_true, if_false, cr_isa, R_at, R_has, R_size, R_put, R_isFull, R_add, R_clear, c_has_eq, c_wa_1, c_wa_2, c_ws_1, c_ws_2, cf_0_0, cf_0_1, cf_0_2, cf_0_3, cf_0_4, cf_0_5, cf_0_6, cf_0_7, cf_0_8, cf_0_9, cf_0_10, cf_0_11, cf_0_12, cf_0_13, cp_0_12, cp_0_13, ci_0, cf_1_0, cf_1_1, cf_1_2, cf_1_3, cf_1_4, cp_1_1, cp_1_2, cp_1_3, cp_1_4, ci_1, cf_4_0, cf_4_1, cf_4_2, cf_4_3, cf_4_4, cf_4_5, cf_4_6, cf_4_7, cf_4_8, cf_4_9, cf_4_10, cp_4_0, cp_4_1, ci_4, cf_23_0, cf_23_1, cf_23_2, cf_23_3, cf_23_4, cf_23_5, cf_23_6, cf_23_7, cf_23_8, cf_23_9, cf_23_10, cp_23_0, cp_23_1, ci_23, cf_42_0, cf_42_1, cf_42_2, cf_42_3, cp_42_2, cp_42_3, ci_42, cf_47_0, cf_47_1, cf_47_2, cp_47_1, cp_47_2, ci_47, cf_50_0, cf_50_1, cf_50_2, ci_50, cf_57_0, cf_57_1, ci_57, cf_62_0, cf_62_1, ci_62, cf_67_0, cf_67_1, cf_67_2, cf_67_3, cf_67_4, cf_67_5, cp_67_1, cp_67_2, ci_67, cf_76_0, cf_76_1, cf_76_2, cf_76_3, cf_76_4, cf_76_5, cp_76_1, cp_76_2, cp_76_3, ci_76, e, x_p12, nI_1, c_pt_wa, svf_6]
  | succ m ih =>
    intro k hk
    have e : ¬ (6 : Int32) ≤ nI k := nI_ge (b := 6) (by omega) (by omega)
    have a1 : ∀ f, c_at (c_wa σ (q + 1) f) 43 (nI k) = σ.1 44 k := fun f => by rw [c_at_n (q := 43) (by show k < 6; omega)]; simp only [c_wa_1, g1, if_false]
    have a2 : ∀ f, c_at (c_wa σ (q + 1) f) 45 (nI k) = σ.1 46 k := fun f => by rw [c_at_n (q := 45) (by show k < 6; omega)]; simp only [c_wa_1, g2, if_false]
    rw [s_12_2]
    simp (disch := first | assumption | decide | omega) only [s_12_0, s_12_8, s_12_16, s_12_20, s_12_23, s_12_34, s_12_38, s_12_41, s_12_47, s_12_56, s_12_59, s_12_70, s_12_73, Option.bind_some, x_tlv, x_tln, if_true, if_false, cr_isa, R_at, R_has, R_size, R_put, R_isFull, R_add, R_clear, c_has_eq, c_wa_1, c_wa_2, c_ws_1, c_ws_2, cf_0_0, cf_0_1, cf_0_2, cf_0_3, cf_0_4, cf_0_5, cf_0_6, cf_0_7, cf_0_8, cf_0_9, cf_0_10, cf_0_11, cf_0_12, cf_0_13, cp_0_12, cp_0_13, ci_0, cf_1_0, cf_1_1, cf_1_2, cf_1_3, cf_1_4, cp_1_1, cp_1_2, cp_1_3, cp_1_4, ci_1, cf_4_0, cf_4_1, cf_4_2, cf_4_3, cf_4_4, cf_4_5, cf_4_6, cf_4_7, cf_4_8, cf_4_9, cf_4_10, cp_4_0, cp_4_1, ci_4, cf_23_0, cf_23_1, cf_23_2, cf_23_3, cf_23_4, cf_23_5, cf_23_6, cf_23_7, cf_23_8, cf_23_9, cf_23_10, cp_23_0, cp_23_1, ci_23, cf_42_0, cf_42_1, cf_42_2, cf_42_3, cp_42_2, cp_42_3, ci_42, cf_47_0, cf_47_1, cf_47_2, cp_47_1, cp_47_2, ci_47, cf_50_0, cf_50_1, cf_50_2, ci_50, cf_57_0, cf_57_1, ci_57, cf_62_0, cf_62_1, ci_62, cf_67_0, cf_67_1, cf_67_2, cf_67_3, cf_67_4, cf_67_5, cp_67_1, cp_67_2, ci_67, cf_76_0, cf_76_1, cf_76_2, cf_76_3, cf_76_4, cf_76_5, cp_76_1, cp_76_2, cp_76_3, ci_76, e, x_p6, nI_add, nI_1, a1, a2, c_pt_wa]
    rw [svf_s _ _ _ _ (by omega)]
    exact ih (k + 1) (by omega)
theorem R_save (d : Nat) (σ : x_S) (q o : Nat) (hq : c_isrow q = true) (h1 : q + 1 ≠ 44) (h2 : q + 1 ≠ 46) (hr : o + 14 ≤ c_room q) : x_R x_P (d + 2) 12 [.ref 42, .ref q, .int (nI o)] (CG σ) = some (none, CG (c_wa σ (q + 1) (blkw (σ.1 (q + 1)) o (n14 σ)))) := by
  have h := E_save d σ q o hq h1 h2 hr 6 0 (by omega)
  rw [svf_0, c_wa_id] at h
  rw [r_12, s_12_0]
  exact h
def x_ov (f g : Nat → Int32) (k : Nat) : Nat → Int32 := fun j => if j < k then g j else f j
theorem x_ov_0 (f g : Nat → Int32) : x_ov f g 0 = f := by
  funext j
  unfold x_ov
  rw [if_neg (by omega)]
theorem x_ov_s (f g : Nat → Int32) (k : Nat) : upd (x_ov f g k) k (g k) = x_ov f g (k + 1) := by
  funext j
  unfold upd x_ov
  by_cases h : j = k
  · subst h; rw [if_pos rfl, if_pos (by omega)]
  · rw [if_neg h]
    by_cases h2 : j < k
    · rw [if_pos h2, if_pos (by omega)]
    · rw [if_neg h2, if_neg (by omega)]
/-- the class's state with a block put back -/
def c_ld (σ : x_S) (g : Nat → Int32) (k : Nat) : x_S := c_wa (c_wa σ 44 (x_ov (σ.1 44) g k)) 46 (x_ov (σ.1 46) (fun j => g (6 + j)) k)
def c_load (σ : x_S) (g : Nat → Int32) : x_S := c_ws (c_ws (c_ld σ g 6) 42 2 (g 12)) 42 3 (g 13)
theorem c_ld_0 (σ : x_S) (g : Nat → Int32) : c_ld σ g 0 = σ := by
  unfold c_ld
  rw [x_ov_0, x_ov_0, c_wa_id]
  exact c_wa_id σ 46
theorem c_ld_s (σ : x_S) (g : Nat → Int32) (k : Nat) (hk : k < 6) : c_pt (c_pt (c_ld σ g k) 43 (nI k) (g k)) 45 (nI k) (g (6 + k)) = c_ld σ g (k + 1) := by
  rw [c_pt_n (q := 43) (by show k < 6; omega), c_pt_n (q := 45) (by show k < 6; omega)]
  unfold c_ld
  rw [← x_ov_s (σ.1 44), ← x_ov_s (σ.1 46)]
  unfold c_wa
  congr 1
  funext q
  by_cases h1 : q = 46
  · subst h1; rfl
  · by_cases h2 : q = 44
    · subst h2; rfl
    · simp [h1, h2]
theorem n14_load (σ : x_S) (g : Nat → Int32) (k : Nat) (hk : k < 14) : n14 (c_load σ g) k = g k := by
  unfold n14
  by_cases h1 : k < 6
  · rw [if_pos h1]
    show x_ov (σ.1 44) g 6 k = _
    unfold x_ov
    rw [if_pos h1]
  · rw [if_neg h1]
    by_cases h2 : k < 12
    · rw [if_pos h2]
      show x_ov (σ.1 46) (fun j => g (6 + j)) 6 (k - 6) = _
      unfold x_ov
      rw [if_pos (by omega)]
      show g (6 + (k - 6)) = g k
      congr 1
      omega
    · rw [if_neg h2]
      rcases (by omega : k = 12 ∨ k = 13) with rfl | rfl <;> rfl
theorem E_load (d : Nat) (σ : x_S) (q o : Nat) (hq : c_isrow q = true) (h1 : q + 1 ≠ 44) (h2 : q + 1 ≠ 46) (hr : o + 14 ≤ c_room q) : ∀ m k, k + m = 6 → x_E x_P (d + 1) x_c13 2 [.ref 42, .ref q, .int (nI o), .int (nI k)] [] (CG (c_ld σ (fun j => σ.1 (q + 1) (o + j)) k)) = some (none, CG (c_load σ (fun j => σ.1 (q + 1) (o + j)))) := by
  have hr2 := c_room_lt q
  have a1 : ∀ k i, i < c_room q → c_at (c_ld σ (fun j => σ.1 (q + 1) (o + j)) k) q (nI i) = σ.1 (q + 1) i := by
    intro k i hi
    rw [c_at_n hi]
    unfold c_ld
    simp only [c_wa_1, h1, h2, if_false]
  intro m
  induction m with
  | zero =>
    intro k hk
    obtain rfl : k = 6 := by omega
    have e : (6 : Int32) ≤ nI 6 := by decide
    rw [s_13_2]
    simp (disch := first | assumption | decide | omega) only [s_13_0, s_13_8, s_13_12, s_13_20, s_13_23, s_13_27, s_13_38, s_13_41, s_13_47, s_13_56, s_13_59, s_13_70, s_13_73, Option.bind_some, x_tlv, x_tln, if_true, if_false, cr_isa, R_at, R_has, R_size, R_put, R_isFull, R_add, R_clear, c_has_eq, c_wa_1, c_wa_2, c_ws_1, c_ws_2, cf_0_0, cf_0_1, cf_0_2, cf_0_3, cf_0_4, cf_0_5, cf_0_6, cf_0_7, cf_0_8, cf_0_9, cf_0_10, cf_0_11, cf_0_12, cf_0_13, cp_0_12, cp_0_13, ci_0, cf_1_0, cf_1_1, cf_1_2, cf_1_3, cf_1_4, cp_1_1, cp_1_2, cp_1_3, cp_1_4, ci_1, cf_4_0, cf_4_1, cf_4_2, cf_4_3, cf_4_4, cf_4_5, cf_4_6, cf_4_7, cf_4_8, cf_4_9, cf_4_10, cp_4_0, cp_4_1, ci_4, cf_23_0, cf_23_1, cf_23_2, cf_23_3, cf_23_4, cf_23_5, cf_23_6, cf_23_7, cf_23_8, cf_23_9, cf_23_10, cp_23_0, cp_23_1, ci_23, cf_42_0, cf_42_1, cf_42_2, cf_42_3, cp_42_2, cp_42_3, ci_42, cf_47_0, cf_47_1, cf_47_2, cp_47_1, cp_47_2, ci_47, cf_50_0, cf_50_1, cf_50_2, ci_50, cf_57_0, cf_57_1, ci_57, cf_62_0, cf_62_1, ci_62, cf_67_0, cf_67_1, cf_67_2, cf_67_3, cf_67_4, cf_67_5, cp_67_1, cp_67_2, ci_67, cf_76_0, cf_76_1, cf_76_2, cf_76_3, cf_76_4, cf_76_5, cp_76_1, cp_76_2, cp_76_3, ci_76, e, x_p12, nI_1, a1]
    rw [c_at_n (by omega)]
    have e2 : (c_ws (c_ld σ (fun j => σ.1 (q + 1) (o + j)) 6) 42 2 (σ.1 (q + 1) (o + 12))).1 (q + 1) (o + 12 + 1) = σ.1 (q + 1) (o + 13) := by
      simp only [c_ws_1]
      unfold c_ld
      simp only [c_wa_1, h1, h2, if_false]
    rw [e2]
    rfl
  | succ m ih =>
    intro k hk
    have e : ¬ (6 : Int32) ≤ nI k := nI_ge (b := 6) (by omega) (by omega)
    have a2 : c_at (c_pt (c_ld σ (fun j => σ.1 (q + 1) (o + j)) k) 43 (nI k) (σ.1 (q + 1) (o + k))) q (nI (o + 6 + k)) = σ.1 (q + 1) (o + (6 + k)) := by
      rw [c_pt_n (q := 43) (by show k < 6; omega), c_at_n (by omega)]
      unfold c_ld
      simp only [c_wa_1, h1, h2, if_false]
      rw [show o + 6 + k = o + (6 + k) by omega]
    rw [s_13_2]
    simp (disch := first | assumption | decide | omega) only [s_13_0, s_13_8, s_13_12, s_13_20, s_13_23, s_13_27, s_13_38, s_13_41, s_13_47, s_13_56, s_13_59, s_13_70, s_13_73, Option.bind_some, x_tlv, x_tln, if_true, if_false, cr_isa, R_at, R_has, R_size, R_put, R_isFull, R_add, R_clear, c_has_eq, c_wa_1, c_wa_2, c_ws_1, c_ws_2, cf_0_0, cf_0_1, cf_0_2, cf_0_3, cf_0_4, cf_0_5, cf_0_6, cf_0_7, cf_0_8, cf_0_9, cf_0_10, cf_0_11, cf_0_12, cf_0_13, cp_0_12, cp_0_13, ci_0, cf_1_0, cf_1_1, cf_1_2, cf_1_3, cf_1_4, cp_1_1, cp_1_2, cp_1_3, cp_1_4, ci_1, cf_4_0, cf_4_1, cf_4_2, cf_4_3, cf_4_4, cf_4_5, cf_4_6, cf_4_7, cf_4_8, cf_4_9, cf_4_10, cp_4_0, cp_4_1, ci_4, cf_23_0, cf_23_1, cf_23_2, cf_23_3, cf_23_4, cf_23_5, cf_23_6, cf_23_7, cf_23_8, cf_23_9, cf_23_10, cp_23_0, cp_23_1, ci_23, cf_42_0, cf_42_1, cf_42_2, cf_42_3, cp_42_2, cp_42_3, ci_42, cf_47_0, cf_47_1, cf_47_2, cp_47_1, cp_47_2, ci_47, cf_50_0, cf_50_1, cf_50_2, ci_50, cf_57_0, cf_57_1, ci_57, cf_62_0, cf_62_1, ci_62, cf_67_0, cf_67_1, cf_67_2, cf_67_3, cf_67_4, cf_67_5, cp_67_1, cp_67_2, ci_67, cf_76_0, cf_76_1, cf_76_2, cf_76_3, cf_76_4, cf_76_5, cp_76_1, cp_76_2, cp_76_3, ci_76, e, x_p6, nI_add, nI_1, a1, a2]
    rw [c_ld_s σ (fun j => σ.1 (q + 1) (o + j)) k (by omega)]
    exact ih (k + 1) (by omega)
theorem R_load (d : Nat) (σ : x_S) (q o : Nat) (hq : c_isrow q = true) (h1 : q + 1 ≠ 44) (h2 : q + 1 ≠ 46) (hr : o + 14 ≤ c_room q) : x_R x_P (d + 2) 13 [.ref 42, .ref q, .int (nI o)] (CG σ) = some (none, CG (c_load σ (fun j => σ.1 (q + 1) (o + j)))) := by
  have h := E_load d σ q o hq h1 h2 hr 6 0 (by omega)
  rw [c_ld_0] at h
  rw [r_13, s_13_0]
  exact h
/-! the model's copies -/
def cpw (f : Nat → Int32) (o : Nat) (g : Nat → Int32) (k : Nat) : Nat → Int32 := fun j => if o ≤ j ∧ j < o + k then g (j - o) else f j
theorem cpw_0 (f g : Nat → Int32) (o : Nat) : cpw f o g 0 = f := by
  funext j
  unfold cpw
  rw [if_neg (by omega)]
theorem cpw_s (f g : Nat → Int32) (o k : Nat) : upd (cpw f o g k) (o + k) (g k) = cpw f o g (k + 1) := by
  funext j
  unfold upd cpw
  by_cases h : j = o + k
  · subst h
    rw [if_pos rfl, if_pos (by omega)]
    congr 1
    omega
  · rw [if_neg h]
    by_cases h2 : o ≤ j ∧ j < o + k
    · rw [if_pos h2, if_pos (by omega)]
    · rw [if_neg h2, if_neg (by omega)]
theorem cpw_14 (f g : Nat → Int32) (o : Nat) : cpw f o g 14 = blkw f o g := rfl
theorem E_cpy (d : Nat) (μ : x_U) (q1 q2 i j n1 n2 : Nat) (hq : ¬ q1 = q2) (hi : i + 14 ≤ n1) (hj : j + 14 ≤ n2) (hl : ∀ (μ : x_U) (k : Nat), k < n1 → x_ild (MG μ) q1 0 (nI k) = some (μ.1 q1 k)) (hs : ∀ (μ : x_U) (k : Nat) (v : Int32), k < n2 → x_ist (MG μ) q2 0 (nI k) v = some (MG (m_wa μ q2 (upd (μ.1 q2) k v)))) : ∀ m k, k + m = 14 → x_E x_P d x_c141 3 [.ref q1, .int (nI i), .ref q2, .int (nI j), .int (nI k)] [] (MG (m_wa μ q2 (cpw (μ.1 q2) j (fun x => μ.1 q1 (i + x)) k))) = some (none, MG (m_wa μ q2 (blkw (μ.1 q2) j (fun x => μ.1 q1 (i + x))))) := by
  intro m
  induction m with
  | zero =>
    intro k hk
    obtain rfl : k = 14 := by omega
    have e : (14 : Int32) ≤ nI 14 := by decide
    rw [s_141_3]
    simp only [s_141_0, s_141_10, s_141_21, s_141_22, s_141_28, Option.bind_some, x_tlv, x_tln, if_true, if_false, m_wa_1, m_wa_s, m_wb_1, m_wb_2, m_wb_s, m_ws_1, m_ws_b, m_ws_s, m_ws_e, m_we_1, m_we_b, m_we_s, m_we_e, mf_0, mf_1, mf_2, mf_3, mf_4, mf_5, mf_6, mf_7, mf_8, mf_9, mf_10, mf_11, mf_12, mf_13, mf_14, mf_15, mf_16, mf_17, mf_18, mf_19, mf_20, mf_21, mf_22, mf_23, mf_24, mf_25, mf_26, mf_27, mf_28, mf_29, mf_30, mp_4, mp_7, mp_9, mp_10, mp_12, mp_14, mp_15, mp_16, mp_17, mp_18, mp_19, mp_20, mi_0, e]
    rfl
  | succ m ih =>
    intro k hk
    have e : ¬ (14 : Int32) ≤ nI k := nI_ge (b := 14) (by omega) (by omega)
    rw [s_141_3]
    simp (disch := first | assumption | omega) only [s_141_0, s_141_10, s_141_21, s_141_22, s_141_28, Option.bind_some, x_tlv, x_tln, if_true, if_false, m_wa_1, m_wa_s, m_wb_1, m_wb_2, m_wb_s, m_ws_1, m_ws_b, m_ws_s, m_ws_e, m_we_1, m_we_b, m_we_s, m_we_e, mf_0, mf_1, mf_2, mf_3, mf_4, mf_5, mf_6, mf_7, mf_8, mf_9, mf_10, mf_11, mf_12, mf_13, mf_14, mf_15, mf_16, mf_17, mf_18, mf_19, mf_20, mf_21, mf_22, mf_23, mf_24, mf_25, mf_26, mf_27, mf_28, mf_29, mf_30, mp_4, mp_7, mp_9, mp_10, mp_12, mp_14, mp_15, mp_16, mp_17, mp_18, mp_19, mp_20, mi_0, e, nI_add, nI_1, hl, hs, hq, m_wa_wa]
    rw [cpw_s (μ.1 q2) (fun x => μ.1 q1 (i + x)) j k]
    exact ih (k + 1) (by omega)
theorem M_cpy (d : Nat) (μ : x_U) (q1 q2 i j n1 n2 : Nat) (hq : ¬ q1 = q2) (hi : i + 14 ≤ n1) (hj : j + 14 ≤ n2) (hl : ∀ (μ : x_U) (k : Nat), k < n1 → x_ild (MG μ) q1 0 (nI k) = some (μ.1 q1 k)) (hs : ∀ (μ : x_U) (k : Nat) (v : Int32), k < n2 → x_ist (MG μ) q2 0 (nI k) v = some (MG (m_wa μ q2 (upd (μ.1 q2) k v)))) : x_R x_P (d + 1) 141 [.ref q1, .int (nI i), .ref q2, .int (nI j)] (MG μ) = some (none, MG (m_wa μ q2 (blkw (μ.1 q2) j (fun x => μ.1 q1 (i + x))))) := by
  have h := E_cpy d μ q1 q2 i j n1 n2 hq hi hj hl hs 14 0 (by omega)
  rw [cpw_0, m_wa_id] at h
  rw [r_141, s_141_0]
  exact h
