/-! reading: numbers and ends, both sides -/
/-- whether such a number is none that is asked for -/
abbrev bad (t q v : Nat) (lo hi : Int32) : Prop := 3 < t - q ∨ nI v < lo ∨ ¬ nI v ≤ hi
def w1 (t q : Nat) : Int32 := if t = q then 1 else 0
def w2 (t q v : Nat) (lo hi : Int32) : Int32 := if bad t q v lo hi then 2 else 0
theorem blp_0 (a b q : Int32) : blp a b 0 q = a := if_pos (Or.inl rfl)
theorem bln_0 (b : Int32) : bln b 0 = b := if_pos (Or.inl rfl)
theorem R_num {σ : x_S} {n p q t v : Nat} {f : Nat → Nat} (d : Nat) (h : TX σ n f) (a b e lo hi : Int32) (hp : p < 2 ^ 28) (eq : sk f n p = q) (et : num f n q = (t, v)) : x_R x_P (d + 3) 46 [.ref 1, .int lo, .int hi] (CG (RD σ a b (nI p) e)) = some (some (.int (nI v)), CG (RD σ (blp (blp a b (w1 t q) (nI q)) (bln b (w1 t q)) (w2 t q v lo hi) (nI q)) (bln (bln b (w1 t q)) (w2 t q v lo hi)) (nI t) (nI q))) := by
  have h1 := h.1
  obtain ⟨k1, k2, -⟩ := sk_ok f n p
  rw [eq] at k1 k2
  obtain ⟨m1, m2, m3⟩ := num_ok f n q
  have hs := R_skip d h a b e (p := p) (by omega)
  rw [eq] at hs
  have hn := E_num (d + 1) h a b e lo hi (q := q) (by omega) (n - q) q 0 (Nat.le_refl _) (Nat.le_refl _) (by omega) ⟨fun _ => rfl, fun _ => by omega, fun _ => by omega, by omega⟩
  have hn : x_E x_P (d + 2) x_c46 12 [.ref 1, .int lo, .int hi, .int (nI q), .int 0] [] (CG (RD σ a b (nI q) e)) = x_E x_P (d + 2) x_c46 88 [.ref 1, .int lo, .int hi, .int (nI q), .int (nI (num f n q).2)] [] (CG (RD σ a b (nI (num f n q).1) e)) := hn
  rw [et] at hn m1 m2 m3
  have m1 : q ≤ t := m1
  have m2 : t ≤ n ∨ t = q := m2
  have m3 : v ≤ 999 := m3
  have hn : x_E x_P (d + 2) x_c46 12 [.ref 1, .int lo, .int hi, .int (nI q), .int 0] [] (CG (RD σ a b (nI q) e)) = x_E x_P (d + 2) x_c46 88 [.ref 1, .int lo, .int hi, .int (nI q), .int (nI v)] [] (CG (RD σ a b (nI t) e)) := hn
  have e3 : nI t - nI q = nI (t - q) := pk_sub m1
  have fin : ∀ A B, x_E x_P (d + 2) x_c46 102 [.ref 1, .int lo, .int hi, .int (nI q), .int (nI v)] [] (CG (RD σ A B (nI t) e)) = some (some (.int (nI v)), CG (RD σ (blp A B (w2 t q v lo hi) (nI q)) (bln B (w2 t q v lo hi)) (nI t) (nI q))) := by
    intro A B
    have hb := R_blame (d + 1) σ A B (nI t) e 2 (nI q)
    by_cases hbad : bad t q v lo hi
    · have ew : w2 t q v lo hi = 2 := if_pos hbad
      rw [ew]
      have tail : x_E x_P (d + 2) x_c46 124 [.ref 1, .int lo, .int hi, .int (nI q), .int (nI v)] [] (CG (RD σ A B (nI t) e)) = some (some (.int (nI v)), CG (RD σ (blp A B 2 (nI q)) (bln B 2) (nI t) (nI q))) := by
        simp (decide := true) only [s_46_124, Option.bind_some, x_tlv, x_tln, if_true, if_false, cr_isa, R_at, R_has, R_size, R_put, R_isFull, R_add, R_clear, c_has_eq, c_wa_1, c_wa_2, c_ws_1, c_ws_2, cf_0_0, cf_0_1, cf_0_2, cf_0_3, cf_0_4, cf_0_5, cf_0_6, cf_0_7, cf_0_8, cf_0_9, cf_0_10, cf_0_11, cf_0_12, cf_0_13, cp_0_12, cp_0_13, ci_0, cf_1_0, cf_1_1, cf_1_2, cf_1_3, cf_1_4, cp_1_1, cp_1_2, cp_1_3, cp_1_4, ci_1, cf_4_0, cf_4_1, cf_4_2, cf_4_3, cf_4_4, cf_4_5, cf_4_6, cf_4_7, cf_4_8, cf_4_9, cf_4_10, cp_4_0, cp_4_1, ci_4, cf_23_0, cf_23_1, cf_23_2, cf_23_3, cf_23_4, cf_23_5, cf_23_6, cf_23_7, cf_23_8, cf_23_9, cf_23_10, cp_23_0, cp_23_1, ci_23, cf_42_0, cf_42_1, cf_42_2, cf_42_3, cp_42_2, cp_42_3, ci_42, cf_47_0, cf_47_1, cf_47_2, cp_47_1, cp_47_2, ci_47, cf_50_0, cf_50_1, cf_50_2, ci_50, cf_57_0, cf_57_1, ci_57, cf_62_0, cf_62_1, ci_62, cf_67_0, cf_67_1, cf_67_2, cf_67_3, cf_67_4, cf_67_5, cp_67_1, cp_67_2, ci_67, cf_76_0, cf_76_1, cf_76_2, cf_76_3, cf_76_4, cf_76_5, cp_76_1, cp_76_2, cp_76_3, ci_76, hb, s_46_130, s_46_135, RD_4]
      by_cases c1 : 3 < t - q
      · have e4 : (3 : Int32) < nI (t - q) := nI_lt (a := 3) c1 (by omega)
        simp (decide := true) only [s_46_102, s_46_106, Option.bind_some, x_tlv, x_tln, if_true, if_false, cr_isa, R_at, R_has, R_size, R_put, R_isFull, R_add, R_clear, c_has_eq, c_wa_1, c_wa_2, c_ws_1, c_ws_2, cf_0_0, cf_0_1, cf_0_2, cf_0_3, cf_0_4, cf_0_5, cf_0_6, cf_0_7, cf_0_8, cf_0_9, cf_0_10, cf_0_11, cf_0_12, cf_0_13, cp_0_12, cp_0_13, ci_0, cf_1_0, cf_1_1, cf_1_2, cf_1_3, cf_1_4, cp_1_1, cp_1_2, cp_1_3, cp_1_4, ci_1, cf_4_0, cf_4_1, cf_4_2, cf_4_3, cf_4_4, cf_4_5, cf_4_6, cf_4_7, cf_4_8, cf_4_9, cf_4_10, cp_4_0, cp_4_1, ci_4, cf_23_0, cf_23_1, cf_23_2, cf_23_3, cf_23_4, cf_23_5, cf_23_6, cf_23_7, cf_23_8, cf_23_9, cf_23_10, cp_23_0, cp_23_1, ci_23, cf_42_0, cf_42_1, cf_42_2, cf_42_3, cp_42_2, cp_42_3, ci_42, cf_47_0, cf_47_1, cf_47_2, cp_47_1, cp_47_2, ci_47, cf_50_0, cf_50_1, cf_50_2, ci_50, cf_57_0, cf_57_1, ci_57, cf_62_0, cf_62_1, ci_62, cf_67_0, cf_67_1, cf_67_2, cf_67_3, cf_67_4, cf_67_5, cp_67_1, cp_67_2, ci_67, cf_76_0, cf_76_1, cf_76_2, cf_76_3, cf_76_4, cf_76_5, cp_76_1, cp_76_2, cp_76_3, ci_76, RD_c, e3, e4]
        exact tail
      · have e4 : ¬ (3 : Int32) < nI (t - q) := nI_nlt (a := 3) (by omega) (by omega)
        by_cases c2 : nI v < lo
        · simp (decide := true) only [s_46_102, s_46_106, s_46_112, Option.bind_some, x_tlv, x_tln, if_true, if_false, cr_isa, R_at, R_has, R_size, R_put, R_isFull, R_add, R_clear, c_has_eq, c_wa_1, c_wa_2, c_ws_1, c_ws_2, cf_0_0, cf_0_1, cf_0_2, cf_0_3, cf_0_4, cf_0_5, cf_0_6, cf_0_7, cf_0_8, cf_0_9, cf_0_10, cf_0_11, cf_0_12, cf_0_13, cp_0_12, cp_0_13, ci_0, cf_1_0, cf_1_1, cf_1_2, cf_1_3, cf_1_4, cp_1_1, cp_1_2, cp_1_3, cp_1_4, ci_1, cf_4_0, cf_4_1, cf_4_2, cf_4_3, cf_4_4, cf_4_5, cf_4_6, cf_4_7, cf_4_8, cf_4_9, cf_4_10, cp_4_0, cp_4_1, ci_4, cf_23_0, cf_23_1, cf_23_2, cf_23_3, cf_23_4, cf_23_5, cf_23_6, cf_23_7, cf_23_8, cf_23_9, cf_23_10, cp_23_0, cp_23_1, ci_23, cf_42_0, cf_42_1, cf_42_2, cf_42_3, cp_42_2, cp_42_3, ci_42, cf_47_0, cf_47_1, cf_47_2, cp_47_1, cp_47_2, ci_47, cf_50_0, cf_50_1, cf_50_2, ci_50, cf_57_0, cf_57_1, ci_57, cf_62_0, cf_62_1, ci_62, cf_67_0, cf_67_1, cf_67_2, cf_67_3, cf_67_4, cf_67_5, cp_67_1, cp_67_2, ci_67, cf_76_0, cf_76_1, cf_76_2, cf_76_3, cf_76_4, cf_76_5, cp_76_1, cp_76_2, cp_76_3, ci_76, RD_c, e3, e4, c2]
          exact tail
        · have c3 : ¬ nI v ≤ hi := by
            rcases hbad with z | z | z
            · exact absurd z c1
            · exact absurd z c2
            · exact z
          simp (decide := true) only [s_46_102, s_46_106, s_46_112, s_46_118, Option.bind_some, x_tlv, x_tln, if_true, if_false, cr_isa, R_at, R_has, R_size, R_put, R_isFull, R_add, R_clear, c_has_eq, c_wa_1, c_wa_2, c_ws_1, c_ws_2, cf_0_0, cf_0_1, cf_0_2, cf_0_3, cf_0_4, cf_0_5, cf_0_6, cf_0_7, cf_0_8, cf_0_9, cf_0_10, cf_0_11, cf_0_12, cf_0_13, cp_0_12, cp_0_13, ci_0, cf_1_0, cf_1_1, cf_1_2, cf_1_3, cf_1_4, cp_1_1, cp_1_2, cp_1_3, cp_1_4, ci_1, cf_4_0, cf_4_1, cf_4_2, cf_4_3, cf_4_4, cf_4_5, cf_4_6, cf_4_7, cf_4_8, cf_4_9, cf_4_10, cp_4_0, cp_4_1, ci_4, cf_23_0, cf_23_1, cf_23_2, cf_23_3, cf_23_4, cf_23_5, cf_23_6, cf_23_7, cf_23_8, cf_23_9, cf_23_10, cp_23_0, cp_23_1, ci_23, cf_42_0, cf_42_1, cf_42_2, cf_42_3, cp_42_2, cp_42_3, ci_42, cf_47_0, cf_47_1, cf_47_2, cp_47_1, cp_47_2, ci_47, cf_50_0, cf_50_1, cf_50_2, ci_50, cf_57_0, cf_57_1, ci_57, cf_62_0, cf_62_1, ci_62, cf_67_0, cf_67_1, cf_67_2, cf_67_3, cf_67_4, cf_67_5, cp_67_1, cp_67_2, ci_67, cf_76_0, cf_76_1, cf_76_2, cf_76_3, cf_76_4, cf_76_5, cp_76_1, cp_76_2, cp_76_3, ci_76, RD_c, e3, e4, c2, c3]
          exact tail
    · have ew : w2 t q v lo hi = 0 := if_neg hbad
      have c1 : ¬ 3 < t - q := fun z => hbad (Or.inl z)
      have c2 : ¬ nI v < lo := fun z => hbad (Or.inr (Or.inl z))
      have c3 : nI v ≤ hi := Classical.byContradiction fun z => hbad (Or.inr (Or.inr z))
      have e4 : ¬ (3 : Int32) < nI (t - q) := nI_nlt (a := 3) (by omega) (by omega)
      rw [ew, blp_0, bln_0]
      simp (decide := true) only [s_46_102, s_46_106, s_46_112, s_46_118, s_46_130, s_46_135, Option.bind_some, x_tlv, x_tln, if_true, if_false, cr_isa, R_at, R_has, R_size, R_put, R_isFull, R_add, R_clear, c_has_eq, c_wa_1, c_wa_2, c_ws_1, c_ws_2, cf_0_0, cf_0_1, cf_0_2, cf_0_3, cf_0_4, cf_0_5, cf_0_6, cf_0_7, cf_0_8, cf_0_9, cf_0_10, cf_0_11, cf_0_12, cf_0_13, cp_0_12, cp_0_13, ci_0, cf_1_0, cf_1_1, cf_1_2, cf_1_3, cf_1_4, cp_1_1, cp_1_2, cp_1_3, cp_1_4, ci_1, cf_4_0, cf_4_1, cf_4_2, cf_4_3, cf_4_4, cf_4_5, cf_4_6, cf_4_7, cf_4_8, cf_4_9, cf_4_10, cp_4_0, cp_4_1, ci_4, cf_23_0, cf_23_1, cf_23_2, cf_23_3, cf_23_4, cf_23_5, cf_23_6, cf_23_7, cf_23_8, cf_23_9, cf_23_10, cp_23_0, cp_23_1, ci_23, cf_42_0, cf_42_1, cf_42_2, cf_42_3, cp_42_2, cp_42_3, ci_42, cf_47_0, cf_47_1, cf_47_2, cp_47_1, cp_47_2, ci_47, cf_50_0, cf_50_1, cf_50_2, ci_50, cf_57_0, cf_57_1, ci_57, cf_62_0, cf_62_1, ci_62, cf_67_0, cf_67_1, cf_67_2, cf_67_3, cf_67_4, cf_67_5, cp_67_1, cp_67_2, ci_67, cf_76_0, cf_76_1, cf_76_2, cf_76_3, cf_76_4, cf_76_5, cp_76_1, cp_76_2, cp_76_3, ci_76, RD_c, e3, e4, c2, c3, RD_4]
  have hrun : x_R x_P (d + 3) 46 [.ref 1, .int lo, .int hi] (CG (RD σ a b (nI p) e)) = x_E x_P (d + 2) x_c46 88 [.ref 1, .int lo, .int hi, .int (nI q), .int (nI v)] [] (CG (RD σ a b (nI t) e)) := by
    simp (decide := true) only [r_46, s_46_0, Option.bind_some, x_tlv, x_tln, if_true, if_false, cr_isa, R_at, R_has, R_size, R_put, R_isFull, R_add, R_clear, c_has_eq, c_wa_1, c_wa_2, c_ws_1, c_ws_2, cf_0_0, cf_0_1, cf_0_2, cf_0_3, cf_0_4, cf_0_5, cf_0_6, cf_0_7, cf_0_8, cf_0_9, cf_0_10, cf_0_11, cf_0_12, cf_0_13, cp_0_12, cp_0_13, ci_0, cf_1_0, cf_1_1, cf_1_2, cf_1_3, cf_1_4, cp_1_1, cp_1_2, cp_1_3, cp_1_4, ci_1, cf_4_0, cf_4_1, cf_4_2, cf_4_3, cf_4_4, cf_4_5, cf_4_6, cf_4_7, cf_4_8, cf_4_9, cf_4_10, cp_4_0, cp_4_1, ci_4, cf_23_0, cf_23_1, cf_23_2, cf_23_3, cf_23_4, cf_23_5, cf_23_6, cf_23_7, cf_23_8, cf_23_9, cf_23_10, cp_23_0, cp_23_1, ci_23, cf_42_0, cf_42_1, cf_42_2, cf_42_3, cp_42_2, cp_42_3, ci_42, cf_47_0, cf_47_1, cf_47_2, cp_47_1, cp_47_2, ci_47, cf_50_0, cf_50_1, cf_50_2, ci_50, cf_57_0, cf_57_1, ci_57, cf_62_0, cf_62_1, ci_62, cf_67_0, cf_67_1, cf_67_2, cf_67_3, cf_67_4, cf_67_5, cp_67_1, cp_67_2, ci_67, cf_76_0, cf_76_1, cf_76_2, cf_76_3, cf_76_4, cf_76_5, cp_76_1, cp_76_2, cp_76_3, ci_76, hs, s_46_4, s_46_8, RD_c]
    exact hn
  rw [hrun]
  by_cases htq : t = q
  · have e1 : nI t = nI q := by rw [htq]
    have ew : w1 t q = 1 := if_pos htq
    have hb := R_blame (d + 1) σ a b (nI t) e 1 (nI q)
    have e5 : ∀ A B, (RD σ A B (nI t) e).2 1 3 = nI t := fun _ _ => rfl
    rw [ew, s_46_88]
    simp (decide := true) only [Option.bind_some, x_tlv, x_tln, if_true, if_false, cr_isa, R_at, R_has, R_size, R_put, R_isFull, R_add, R_clear, c_has_eq, c_wa_1, c_wa_2, c_ws_1, c_ws_2, cf_0_0, cf_0_1, cf_0_2, cf_0_3, cf_0_4, cf_0_5, cf_0_6, cf_0_7, cf_0_8, cf_0_9, cf_0_10, cf_0_11, cf_0_12, cf_0_13, cp_0_12, cp_0_13, ci_0, cf_1_0, cf_1_1, cf_1_2, cf_1_3, cf_1_4, cp_1_1, cp_1_2, cp_1_3, cp_1_4, ci_1, cf_4_0, cf_4_1, cf_4_2, cf_4_3, cf_4_4, cf_4_5, cf_4_6, cf_4_7, cf_4_8, cf_4_9, cf_4_10, cp_4_0, cp_4_1, ci_4, cf_23_0, cf_23_1, cf_23_2, cf_23_3, cf_23_4, cf_23_5, cf_23_6, cf_23_7, cf_23_8, cf_23_9, cf_23_10, cp_23_0, cp_23_1, ci_23, cf_42_0, cf_42_1, cf_42_2, cf_42_3, cp_42_2, cp_42_3, ci_42, cf_47_0, cf_47_1, cf_47_2, cp_47_1, cp_47_2, ci_47, cf_50_0, cf_50_1, cf_50_2, ci_50, cf_57_0, cf_57_1, ci_57, cf_62_0, cf_62_1, ci_62, cf_67_0, cf_67_1, cf_67_2, cf_67_3, cf_67_4, cf_67_5, cp_67_1, cp_67_2, ci_67, cf_76_0, cf_76_1, cf_76_2, cf_76_3, cf_76_4, cf_76_5, cp_76_1, cp_76_2, cp_76_3, ci_76, e5]
    rw [s_46_92, if_pos e1]
    simp (decide := true) only [s_46_96, Option.bind_some, x_tlv, x_tln, if_true, if_false, cr_isa, R_at, R_has, R_size, R_put, R_isFull, R_add, R_clear, c_has_eq, c_wa_1, c_wa_2, c_ws_1, c_ws_2, cf_0_0, cf_0_1, cf_0_2, cf_0_3, cf_0_4, cf_0_5, cf_0_6, cf_0_7, cf_0_8, cf_0_9, cf_0_10, cf_0_11, cf_0_12, cf_0_13, cp_0_12, cp_0_13, ci_0, cf_1_0, cf_1_1, cf_1_2, cf_1_3, cf_1_4, cp_1_1, cp_1_2, cp_1_3, cp_1_4, ci_1, cf_4_0, cf_4_1, cf_4_2, cf_4_3, cf_4_4, cf_4_5, cf_4_6, cf_4_7, cf_4_8, cf_4_9, cf_4_10, cp_4_0, cp_4_1, ci_4, cf_23_0, cf_23_1, cf_23_2, cf_23_3, cf_23_4, cf_23_5, cf_23_6, cf_23_7, cf_23_8, cf_23_9, cf_23_10, cp_23_0, cp_23_1, ci_23, cf_42_0, cf_42_1, cf_42_2, cf_42_3, cp_42_2, cp_42_3, ci_42, cf_47_0, cf_47_1, cf_47_2, cp_47_1, cp_47_2, ci_47, cf_50_0, cf_50_1, cf_50_2, ci_50, cf_57_0, cf_57_1, ci_57, cf_62_0, cf_62_1, ci_62, cf_67_0, cf_67_1, cf_67_2, cf_67_3, cf_67_4, cf_67_5, cp_67_1, cp_67_2, ci_67, cf_76_0, cf_76_1, cf_76_2, cf_76_3, cf_76_4, cf_76_5, cp_76_1, cp_76_2, cp_76_3, ci_76, hb]
    exact fin _ _
  · have e1 : ¬ nI t = nI q := fun z => htq ((nI_eq (by omega) (by omega)).mp z)
    have ew : w1 t q = 0 := if_neg htq
    rw [ew, blp_0, bln_0, s_46_88]
    simp (decide := true) only [Option.bind_some, x_tlv, x_tln, if_true, if_false, cr_isa, R_at, R_has, R_size, R_put, R_isFull, R_add, R_clear, c_has_eq, c_wa_1, c_wa_2, c_ws_1, c_ws_2, cf_0_0, cf_0_1, cf_0_2, cf_0_3, cf_0_4, cf_0_5, cf_0_6, cf_0_7, cf_0_8, cf_0_9, cf_0_10, cf_0_11, cf_0_12, cf_0_13, cp_0_12, cp_0_13, ci_0, cf_1_0, cf_1_1, cf_1_2, cf_1_3, cf_1_4, cp_1_1, cp_1_2, cp_1_3, cp_1_4, ci_1, cf_4_0, cf_4_1, cf_4_2, cf_4_3, cf_4_4, cf_4_5, cf_4_6, cf_4_7, cf_4_8, cf_4_9, cf_4_10, cp_4_0, cp_4_1, ci_4, cf_23_0, cf_23_1, cf_23_2, cf_23_3, cf_23_4, cf_23_5, cf_23_6, cf_23_7, cf_23_8, cf_23_9, cf_23_10, cp_23_0, cp_23_1, ci_23, cf_42_0, cf_42_1, cf_42_2, cf_42_3, cp_42_2, cp_42_3, ci_42, cf_47_0, cf_47_1, cf_47_2, cp_47_1, cp_47_2, ci_47, cf_50_0, cf_50_1, cf_50_2, ci_50, cf_57_0, cf_57_1, ci_57, cf_62_0, cf_62_1, ci_62, cf_67_0, cf_67_1, cf_67_2, cf_67_3, cf_67_4, cf_67_5, cp_67_1, cp_67_2, ci_67, cf_76_0, cf_76_1, cf_76_2, cf_76_3, cf_76_4, cf_76_5, cp_76_1, cp_76_2, cp_76_3, ci_76, RD_c, s_46_92, e1]
    exact fin _ _
def w3 (f : Nat → Nat) (n q : Nat) : Int32 := if q < n ∧ f q = 59 then 0 else 1
theorem R_end {σ : x_S} {n p q : Nat} {f : Nat → Nat} (d : Nat) (h : TX σ n f) (a b e : Int32) (hp : p < 2 ^ 28) (eq : sk f n p = q) : x_R x_P (d + 3) 47 [.ref 1] (CG (RD σ a b (nI p) e)) = some (none, CG (RD σ (blp a b (w3 f n q) (nI q)) (bln b (w3 f n q)) (nI (q + 1)) e)) := by
  have h1 := h.1
  have h2 := h.2.1
  obtain ⟨k1, k2, -⟩ := sk_ok f n p
  rw [eq] at k1 k2
  have hs := R_skip d h a b e (p := p) (by omega)
  rw [eq] at hs
  have hb := R_blame (d + 1) σ a b (nI q) e 1 (nI q)
  by_cases hn : q < n
  · have e0 : ¬ nI n ≤ nI q := nI_ge (by omega) (by omega)
    have a1 := RD_t h a b (nI q) e hn
    have hf := (h.2.2 q hn).2
    by_cases hc : f q = 59
    · have e1 : nI (f q) = 59 := by rw [hc]; rfl
      have ew : w3 f n q = 0 := if_pos ⟨hn, hc⟩
      rw [ew, blp_0, bln_0]
      simp (decide := true) only [r_47, s_47_0, s_47_4, s_47_8, s_47_12, s_47_15, s_47_18, s_47_22, s_47_26, s_47_29, s_47_34, s_47_40, s_47_43, s_47_48, s_47_53, Option.bind_some, x_tlv, x_tln, if_true, if_false, cr_isa, R_at, R_has, R_size, R_put, R_isFull, R_add, R_clear, c_has_eq, c_wa_1, c_wa_2, c_ws_1, c_ws_2, cf_0_0, cf_0_1, cf_0_2, cf_0_3, cf_0_4, cf_0_5, cf_0_6, cf_0_7, cf_0_8, cf_0_9, cf_0_10, cf_0_11, cf_0_12, cf_0_13, cp_0_12, cp_0_13, ci_0, cf_1_0, cf_1_1, cf_1_2, cf_1_3, cf_1_4, cp_1_1, cp_1_2, cp_1_3, cp_1_4, ci_1, cf_4_0, cf_4_1, cf_4_2, cf_4_3, cf_4_4, cf_4_5, cf_4_6, cf_4_7, cf_4_8, cf_4_9, cf_4_10, cp_4_0, cp_4_1, ci_4, cf_23_0, cf_23_1, cf_23_2, cf_23_3, cf_23_4, cf_23_5, cf_23_6, cf_23_7, cf_23_8, cf_23_9, cf_23_10, cp_23_0, cp_23_1, ci_23, cf_42_0, cf_42_1, cf_42_2, cf_42_3, cp_42_2, cp_42_3, ci_42, cf_47_0, cf_47_1, cf_47_2, cp_47_1, cp_47_2, ci_47, cf_50_0, cf_50_1, cf_50_2, ci_50, cf_57_0, cf_57_1, ci_57, cf_62_0, cf_62_1, ci_62, cf_67_0, cf_67_1, cf_67_2, cf_67_3, cf_67_4, cf_67_5, cp_67_1, cp_67_2, ci_67, cf_76_0, cf_76_1, cf_76_2, cf_76_3, cf_76_4, cf_76_5, cp_76_1, cp_76_2, cp_76_3, ci_76, hs, RD_c, RD_n, h2, e0, a1, e1, nI_1, RD_3]
    · have e1 : ¬ nI (f q) = 59 := fun z => hc ((nI_eq (b := 59) (by omega) (by omega)).mp z)
      have ew : w3 f n q = 1 := if_neg (fun z => hc z.2)
      rw [ew]
      simp (decide := true) only [r_47, s_47_0, s_47_4, s_47_8, s_47_12, s_47_15, s_47_18, s_47_22, s_47_26, s_47_29, s_47_34, s_47_40, s_47_43, s_47_48, s_47_53, Option.bind_some, x_tlv, x_tln, if_true, if_false, cr_isa, R_at, R_has, R_size, R_put, R_isFull, R_add, R_clear, c_has_eq, c_wa_1, c_wa_2, c_ws_1, c_ws_2, cf_0_0, cf_0_1, cf_0_2, cf_0_3, cf_0_4, cf_0_5, cf_0_6, cf_0_7, cf_0_8, cf_0_9, cf_0_10, cf_0_11, cf_0_12, cf_0_13, cp_0_12, cp_0_13, ci_0, cf_1_0, cf_1_1, cf_1_2, cf_1_3, cf_1_4, cp_1_1, cp_1_2, cp_1_3, cp_1_4, ci_1, cf_4_0, cf_4_1, cf_4_2, cf_4_3, cf_4_4, cf_4_5, cf_4_6, cf_4_7, cf_4_8, cf_4_9, cf_4_10, cp_4_0, cp_4_1, ci_4, cf_23_0, cf_23_1, cf_23_2, cf_23_3, cf_23_4, cf_23_5, cf_23_6, cf_23_7, cf_23_8, cf_23_9, cf_23_10, cp_23_0, cp_23_1, ci_23, cf_42_0, cf_42_1, cf_42_2, cf_42_3, cp_42_2, cp_42_3, ci_42, cf_47_0, cf_47_1, cf_47_2, cp_47_1, cp_47_2, ci_47, cf_50_0, cf_50_1, cf_50_2, ci_50, cf_57_0, cf_57_1, ci_57, cf_62_0, cf_62_1, ci_62, cf_67_0, cf_67_1, cf_67_2, cf_67_3, cf_67_4, cf_67_5, cp_67_1, cp_67_2, ci_67, cf_76_0, cf_76_1, cf_76_2, cf_76_3, cf_76_4, cf_76_5, cp_76_1, cp_76_2, cp_76_3, ci_76, hs, RD_c, RD_n, h2, e0, a1, e1, hb, nI_1, RD_3]
  · have e0 : nI n ≤ nI q := nI_le (by omega) (by omega)
    have ew : w3 f n q = 1 := if_neg (fun z => hn z.1)
    rw [ew]
    simp (decide := true) only [r_47, s_47_0, s_47_4, s_47_8, s_47_12, s_47_15, s_47_18, s_47_22, s_47_26, s_47_29, s_47_34, s_47_40, s_47_43, s_47_48, s_47_53, Option.bind_some, x_tlv, x_tln, if_true, if_false, cr_isa, R_at, R_has, R_size, R_put, R_isFull, R_add, R_clear, c_has_eq, c_wa_1, c_wa_2, c_ws_1, c_ws_2, cf_0_0, cf_0_1, cf_0_2, cf_0_3, cf_0_4, cf_0_5, cf_0_6, cf_0_7, cf_0_8, cf_0_9, cf_0_10, cf_0_11, cf_0_12, cf_0_13, cp_0_12, cp_0_13, ci_0, cf_1_0, cf_1_1, cf_1_2, cf_1_3, cf_1_4, cp_1_1, cp_1_2, cp_1_3, cp_1_4, ci_1, cf_4_0, cf_4_1, cf_4_2, cf_4_3, cf_4_4, cf_4_5, cf_4_6, cf_4_7, cf_4_8, cf_4_9, cf_4_10, cp_4_0, cp_4_1, ci_4, cf_23_0, cf_23_1, cf_23_2, cf_23_3, cf_23_4, cf_23_5, cf_23_6, cf_23_7, cf_23_8, cf_23_9, cf_23_10, cp_23_0, cp_23_1, ci_23, cf_42_0, cf_42_1, cf_42_2, cf_42_3, cp_42_2, cp_42_3, ci_42, cf_47_0, cf_47_1, cf_47_2, cp_47_1, cp_47_2, ci_47, cf_50_0, cf_50_1, cf_50_2, ci_50, cf_57_0, cf_57_1, ci_57, cf_62_0, cf_62_1, ci_62, cf_67_0, cf_67_1, cf_67_2, cf_67_3, cf_67_4, cf_67_5, cp_67_1, cp_67_2, ci_67, cf_76_0, cf_76_1, cf_76_2, cf_76_3, cf_76_4, cf_76_5, cp_76_1, cp_76_2, cp_76_3, ci_76, hs, RD_c, RD_n, h2, e0, hb, nI_1, RD_3]
/-! the model's tokens -/
def TM (μ : x_U) (n : Nat) (f : Nat → Nat) : Prop := n ≤ 240 ∧ μ.2.2.1 9 = nI n ∧ ∀ k, k < n → μ.1 7 k = nI (f k) ∧ f k ≤ 255
theorem m_ws_cm (μ : x_U) (k l : Nat) (h : k ≠ l) (v w : Int32) : m_ws (m_ws μ k v) l w = m_ws (m_ws μ l w) k v := by
  unfold m_ws
  congr 2
  congr 1
  funext j
  by_cases hj : j = l
  · subst hj
    simp [Ne.symm h]
  · simp [hj]
/-- the model's reading: the row read, at, begin, sign, figures, value, wrong -/
def RM (μ : x_U) (A : Nat → Int32) (a b s g v w : Int32) : x_U := m_ws (m_ws (m_ws (m_ws (m_ws (m_ws (m_wa μ 2 A) 15 a) 16 b) 17 s) 18 g) 19 v) 20 w
theorem RM_15 (μ : x_U) (A : Nat → Int32) (a b s g v w x : Int32) : m_ws (RM μ A a b s g v w) 15 x = RM μ A x b s g v w := by
  unfold RM
  rw [m_ws_cm _ 20 15 (by decide), m_ws_cm _ 19 15 (by decide), m_ws_cm _ 18 15 (by decide), m_ws_cm _ 17 15 (by decide), m_ws_cm _ 16 15 (by decide), m_ws_ws]
theorem RM_16 (μ : x_U) (A : Nat → Int32) (a b s g v w x : Int32) : m_ws (RM μ A a b s g v w) 16 x = RM μ A a x s g v w := by
  unfold RM
  rw [m_ws_cm _ 20 16 (by decide), m_ws_cm _ 19 16 (by decide), m_ws_cm _ 18 16 (by decide), m_ws_cm _ 17 16 (by decide), m_ws_ws]
theorem RM_17 (μ : x_U) (A : Nat → Int32) (a b s g v w x : Int32) : m_ws (RM μ A a b s g v w) 17 x = RM μ A a b x g v w := by
  unfold RM
  rw [m_ws_cm _ 20 17 (by decide), m_ws_cm _ 19 17 (by decide), m_ws_cm _ 18 17 (by decide), m_ws_ws]
theorem RM_18 (μ : x_U) (A : Nat → Int32) (a b s g v w x : Int32) : m_ws (RM μ A a b s g v w) 18 x = RM μ A a b s x v w := by
  unfold RM
  rw [m_ws_cm _ 20 18 (by decide), m_ws_cm _ 19 18 (by decide), m_ws_ws]
theorem RM_19 (μ : x_U) (A : Nat → Int32) (a b s g v w x : Int32) : m_ws (RM μ A a b s g v w) 19 x = RM μ A a b s g x w := by
  unfold RM
  rw [m_ws_cm _ 20 19 (by decide), m_ws_ws]
theorem RM_20 (μ : x_U) (A : Nat → Int32) (a b s g v w x : Int32) : m_ws (RM μ A a b s g v w) 20 x = RM μ A a b s g v x := by
  unfold RM
  rw [m_ws_ws]
theorem RM_A (μ : x_U) (A B : Nat → Int32) (a b s g v w : Int32) : m_wa (RM μ A a b s g v w) 2 B = RM μ B a b s g v w := by
  unfold RM
  show m_ws (m_ws (m_ws (m_ws (m_ws (m_ws (m_wa (m_wa μ 2 A) 2 B) 15 a) 16 b) 17 s) 18 g) 19 v) 20 w = _
  rw [m_wa_wa]
theorem RM_a (μ : x_U) (A : Nat → Int32) (a b s g v w : Int32) : (RM μ A a b s g v w).2.2.1 15 = a := rfl
theorem RM_b (μ : x_U) (A : Nat → Int32) (a b s g v w : Int32) : (RM μ A a b s g v w).2.2.1 16 = b := rfl
theorem RM_s (μ : x_U) (A : Nat → Int32) (a b s g v w : Int32) : (RM μ A a b s g v w).2.2.1 17 = s := rfl
theorem RM_g (μ : x_U) (A : Nat → Int32) (a b s g v w : Int32) : (RM μ A a b s g v w).2.2.1 18 = g := rfl
theorem RM_v (μ : x_U) (A : Nat → Int32) (a b s g v w : Int32) : (RM μ A a b s g v w).2.2.1 19 = v := rfl
theorem RM_w (μ : x_U) (A : Nat → Int32) (a b s g v w : Int32) : (RM μ A a b s g v w).2.2.1 20 = w := rfl
theorem RM_n (μ : x_U) (A : Nat → Int32) (a b s g v w : Int32) : (RM μ A a b s g v w).2.2.1 9 = μ.2.2.1 9 := rfl
theorem RM_t {μ : x_U} {n : Nat} {f : Nat → Nat} (h : TM μ n f) (A : Nat → Int32) (a b s g v w : Int32) {p : Nat} (hp : p < n) : x_ild (MG (RM μ A a b s g v w)) 7 0 (nI p) = some (nI (f p)) := by
  have h1 := h.1
  rw [md7n _ (show p < 240 by omega), ← (h.2.2 p hp).1]
  rfl
theorem RM_ra (μ : x_U) (A : Nat → Int32) (a b s g v w : Int32) {k : Nat} (hk : k < 68) : x_ild (MG (RM μ A a b s g v w)) 2 0 (nI k) = some (A k) := md2n _ hk
theorem RM_rp (μ : x_U) (A : Nat → Int32) (a b s g v w x : Int32) {k : Nat} (hk : k < 68) : x_ist (MG (RM μ A a b s g v w)) 2 0 (nI k) x = some (MG (RM μ (upd A k x) a b s g v w)) := by rw [mt2n _ x hk]; exact congrArg (fun z => some (MG z)) (RM_A μ A _ a b s g v w)
/-- the letter at p, or none -/
def hre (f : Nat → Nat) (n p : Nat) : Int32 := if p < n then nI (f p) else -1
theorem M_here {μ : x_U} {n : Nat} {f : Nat → Nat} (d : Nat) (h : TM μ n f) (A : Nat → Int32) (b s g v w : Int32) {p : Nat} (hp : p < 2 ^ 30) : x_R x_P (d + 1) 116 [.ref 0] (MG (RM μ A (nI p) b s g v w)) = some (some (.int (hre f n p)), MG (RM μ A (nI p) b s g v w)) := by
  have h1 := h.1
  have h2 := h.2.1
  unfold hre
  by_cases hn : p < n
  · have e0 : ¬ nI n ≤ nI p := nI_ge (by omega) (by omega)
    have a1 := RM_t h A (nI p) b s g v w hn
    rw [if_pos hn]
    simp (decide := true) only [r_116, s_116_0, s_116_4, s_116_8, s_116_11, s_116_15, s_116_19, s_116_20, s_116_23, Option.bind_some, x_tlv, x_tln, if_true, if_false, m_wa_1, m_wa_s, m_wb_1, m_wb_2, m_wb_s, m_ws_1, m_ws_b, m_ws_s, m_ws_e, m_we_1, m_we_b, m_we_s, m_we_e, mf_0, mf_1, mf_2, mf_3, mf_4, mf_5, mf_6, mf_7, mf_8, mf_9, mf_10, mf_11, mf_12, mf_13, mf_14, mf_15, mf_16, mf_17, mf_18, mf_19, mf_20, mf_21, mf_22, mf_23, mf_24, mf_25, mf_26, mf_27, mf_28, mf_29, mf_30, mp_4, mp_7, mp_9, mp_10, mp_12, mp_14, mp_15, mp_16, mp_17, mp_18, mp_19, mp_20, mi_0, RM_a, RM_n, h2, e0, a1]
  · have e0 : nI n ≤ nI p := nI_le (by omega) (by omega)
    rw [if_neg hn]
    simp (decide := true) only [r_116, s_116_0, s_116_4, s_116_8, s_116_11, s_116_15, s_116_19, s_116_20, s_116_23, Option.bind_some, x_tlv, x_tln, if_true, if_false, m_wa_1, m_wa_s, m_wb_1, m_wb_2, m_wb_s, m_ws_1, m_ws_b, m_ws_s, m_ws_e, m_we_1, m_we_b, m_we_s, m_we_e, mf_0, mf_1, mf_2, mf_3, mf_4, mf_5, mf_6, mf_7, mf_8, mf_9, mf_10, mf_11, mf_12, mf_13, mf_14, mf_15, mf_16, mf_17, mf_18, mf_19, mf_20, mf_21, mf_22, mf_23, mf_24, mf_25, mf_26, mf_27, mf_28, mf_29, mf_30, mp_4, mp_7, mp_9, mp_10, mp_12, mp_14, mp_15, mp_16, mp_17, mp_18, mp_19, mp_20, mi_0, RM_a, RM_n, h2, e0]
theorem M_blk {μ : x_U} {n : Nat} {f : Nat → Nat} (d : Nat) (h : TM μ n f) (A : Nat → Int32) (b s g v w : Int32) : ∀ m p, n - p ≤ m → p < 2 ^ 29 → x_E x_P (d + 1) x_c117 0 [.ref 0] [] (MG (RM μ A (nI p) b s g v w)) = x_E x_P (d + 1) x_c117 22 [.ref 0] [] (MG (RM μ A (nI (skf f n m p)) b s g v w)) := by
  have h1 := h.1
  intro m
  induction m with
  | zero =>
    intro p hm hp
    have hh := M_here d h A b s g v w (p := p) (by omega)
    have e1 : ¬ hre f n p = 32 := by
      unfold hre
      rw [if_neg (by omega)]
      decide
    rw [s_117_0]; simp (decide := true) only [Option.bind_some, x_tlv, x_tln, if_true, if_false, m_wa_1, m_wa_s, m_wb_1, m_wb_2, m_wb_s, m_ws_1, m_ws_b, m_ws_s, m_ws_e, m_we_1, m_we_b, m_we_s, m_we_e, mf_0, mf_1, mf_2, mf_3, mf_4, mf_5, mf_6, mf_7, mf_8, mf_9, mf_10, mf_11, mf_12, mf_13, mf_14, mf_15, mf_16, mf_17, mf_18, mf_19, mf_20, mf_21, mf_22, mf_23, mf_24, mf_25, mf_26, mf_27, mf_28, mf_29, mf_30, mp_4, mp_7, mp_9, mp_10, mp_12, mp_14, mp_15, mp_16, mp_17, mp_18, mp_19, mp_20, mi_0, hh, s_117_4, e1]
    rfl
  | succ m ih =>
    intro p hm hp
    have hh := M_here d h A b s g v w (p := p) (by omega)
    by_cases hc : p < n ∧ f p = 32
    · have e1 : hre f n p = 32 := by
        unfold hre
        rw [if_pos hc.1, hc.2]
        rfl
      have j := ih (p + 1) (by omega) (by omega)
      rw [show skf f n (m + 1) p = skf f n m (p + 1) from if_pos hc]
      rw [s_117_0]; simp (decide := true) only [Option.bind_some, x_tlv, x_tln, if_true, if_false, m_wa_1, m_wa_s, m_wb_1, m_wb_2, m_wb_s, m_ws_1, m_ws_b, m_ws_s, m_ws_e, m_we_1, m_we_b, m_we_s, m_we_e, mf_0, mf_1, mf_2, mf_3, mf_4, mf_5, mf_6, mf_7, mf_8, mf_9, mf_10, mf_11, mf_12, mf_13, mf_14, mf_15, mf_16, mf_17, mf_18, mf_19, mf_20, mf_21, mf_22, mf_23, mf_24, mf_25, mf_26, mf_27, mf_28, mf_29, mf_30, mp_4, mp_7, mp_9, mp_10, mp_12, mp_14, mp_15, mp_16, mp_17, mp_18, mp_19, mp_20, mi_0, hh, s_117_4, e1, s_117_9, s_117_14, s_117_19, RM_a, nI_1, RM_15]
      exact j
    · have e1 : ¬ hre f n p = 32 := by
        unfold hre
        by_cases hn : p < n
        · have hf := (h.2.2 p hn).2
          rw [if_pos hn]
          exact fun z => hc ⟨hn, (nI_eq (b := 32) (by omega) (by omega)).mp z⟩
        · rw [if_neg hn]
          decide
      rw [show skf f n (m + 1) p = p from if_neg hc]
      rw [s_117_0]; simp (decide := true) only [Option.bind_some, x_tlv, x_tln, if_true, if_false, m_wa_1, m_wa_s, m_wb_1, m_wb_2, m_wb_s, m_ws_1, m_ws_b, m_ws_s, m_ws_e, m_we_1, m_we_b, m_we_s, m_we_e, mf_0, mf_1, mf_2, mf_3, mf_4, mf_5, mf_6, mf_7, mf_8, mf_9, mf_10, mf_11, mf_12, mf_13, mf_14, mf_15, mf_16, mf_17, mf_18, mf_19, mf_20, mf_21, mf_22, mf_23, mf_24, mf_25, mf_26, mf_27, mf_28, mf_29, mf_30, mp_4, mp_7, mp_9, mp_10, mp_12, mp_14, mp_15, mp_16, mp_17, mp_18, mp_19, mp_20, mi_0, hh, s_117_4, e1]
