/-! ask -/
def x_bc (a : Int32) : Int32 :=
  let b := a - ((Int32.toUInt32 a >>> (Int32.toUInt32 1 &&& Int32.toUInt32 31)).toInt32 &&& 1431655765)
  let c := (b &&& 858993459) + ((Int32.toUInt32 b >>> (Int32.toUInt32 2 &&& Int32.toUInt32 31)).toInt32 &&& 858993459)
  let e := (c + (Int32.toUInt32 c >>> (Int32.toUInt32 4 &&& Int32.toUInt32 31)).toInt32) &&& 252645135
  let f := e + (Int32.toUInt32 e >>> (Int32.toUInt32 8 &&& Int32.toUInt32 31)).toInt32
  let g := f + (Int32.toUInt32 f >>> (Int32.toUInt32 16 &&& Int32.toUInt32 31)).toInt32
  g &&& 63
theorem R_bitCount (d : Nat) (a : Int32) (h : x_H) : x_R x_P (d + 1) 110 [.int a] h = some (some (.int (x_bc a)), h) := by
  rw [r_110, s_110_0]
  rfl
theorem x_bc_two : ∀ V, V < 64 → ((2 ≤ x_bc (nI V)) ↔ ¬ nI V &&& (nI V - 1) = 0) := by decide +kernel
def x_bit (s : Int32) (k : Nat) : Prop := ((s >>> (nI k &&& 31)) &&& 1) = 1
def x_bad (μ : x_U) (s : Int32) (u v : Nat) : Prop := x_bit s u ∧ x_bit s v ∧ μ.1 1 (6 + u) = μ.1 1 (6 + v)
theorem E_unC {σ : x_S} {μ : x_U} {U u : Nat} (d : Nat) (s : Int32) (hU : U ≤ 6) (hlt : u < U) (hu : S_use σ μ U) : ∀ m v (f : Value), v + m = u → (∃ f', x_E x_P (d + 1) x_c106 18 [.ref 0, .int s, .int (nI u), .int (nI v), f] [] (CG σ) = x_E x_P (d + 1) x_c106 2 [.ref 0, .int s, .int (nI (u + 1)), .int (nI u), f'] [] (CG σ) ∧ ∀ j, v ≤ j → j < u → ¬ x_bad μ s u j) ∨ (x_E x_P (d + 1) x_c106 18 [.ref 0, .int s, .int (nI u), .int (nI v), f] [] (CG σ) = some (some (.int 0), CG σ) ∧ ∃ j, j < u ∧ x_bad μ s u j) := by
  intro m
  induction m with
  | zero =>
    intro v f hv
    obtain rfl : v = u := by omega
    refine Or.inl ⟨f, ?_, fun j h1 h2 => by omega⟩
    rw [s_106_18]; simp (decide := true) only [s_106_86, Option.bind_some, x_tlv, x_tln, if_true, if_false, cr_isa, R_at, R_has, R_size, R_put, R_isFull, R_add, R_clear, c_has_eq, c_wa_1, c_wa_2, c_ws_1, c_ws_2, cf_0_0, cf_0_1, cf_0_2, cf_0_3, cf_0_4, cf_0_5, cf_0_6, cf_0_7, cf_0_8, cf_0_9, cf_0_10, cf_0_11, cf_0_12, cf_0_13, cp_0_12, cp_0_13, ci_0, cf_1_0, cf_1_1, cf_1_2, cf_1_3, cf_1_4, cp_1_1, cp_1_2, cp_1_3, cp_1_4, ci_1, cf_4_0, cf_4_1, cf_4_2, cf_4_3, cf_4_4, cf_4_5, cf_4_6, cf_4_7, cf_4_8, cf_4_9, cf_4_10, cp_4_0, cp_4_1, ci_4, cf_23_0, cf_23_1, cf_23_2, cf_23_3, cf_23_4, cf_23_5, cf_23_6, cf_23_7, cf_23_8, cf_23_9, cf_23_10, cp_23_0, cp_23_1, ci_23, cf_42_0, cf_42_1, cf_42_2, cf_42_3, cp_42_2, cp_42_3, ci_42, cf_47_0, cf_47_1, cf_47_2, cp_47_1, cp_47_2, ci_47, cf_50_0, cf_50_1, cf_50_2, ci_50, cf_57_0, cf_57_1, ci_57, cf_62_0, cf_62_1, ci_62, cf_67_0, cf_67_1, cf_67_2, cf_67_3, cf_67_4, cf_67_5, cp_67_1, cp_67_2, ci_67, cf_76_0, cf_76_1, cf_76_2, cf_76_3, cf_76_4, cf_76_5, cp_76_1, cp_76_2, cp_76_3, ci_76, Int32.le_refl, nI_1]
  | succ m ih =>
    intro v f hv
    have e : ¬ nI u ≤ nI v := nI_ge (by omega) (by omega)
    have a1 : c_at σ 5 (nI u) = μ.1 1 (6 + u) := by rw [c_at_n (by show u < 6; omega), (hu u (by omega)).1]
    have a2 : c_at σ 5 (nI v) = μ.1 1 (6 + v) := by rw [c_at_n (by show v < 6; omega), (hu v (by omega)).1]
    have go : ∀ f', x_E x_P (d + 1) x_c106 18 [.ref 0, .int s, .int (nI u), .int (nI v), f] [] (CG σ) = x_E x_P (d + 1) x_c106 18 [.ref 0, .int s, .int (nI u), .int (nI (v + 1)), f'] [] (CG σ) → ¬ x_bad μ s u v → (∃ f', x_E x_P (d + 1) x_c106 18 [.ref 0, .int s, .int (nI u), .int (nI v), f] [] (CG σ) = x_E x_P (d + 1) x_c106 2 [.ref 0, .int s, .int (nI (u + 1)), .int (nI u), f'] [] (CG σ) ∧ ∀ j, v ≤ j → j < u → ¬ x_bad μ s u j) ∨ (x_E x_P (d + 1) x_c106 18 [.ref 0, .int s, .int (nI u), .int (nI v), f] [] (CG σ) = some (some (.int 0), CG σ) ∧ ∃ j, j < u ∧ x_bad μ s u j) := by
      intro f' h1 h2
      rcases ih (v + 1) f' (by omega) with ⟨f2, g1, g2⟩ | ⟨g1, g2⟩
      · refine Or.inl ⟨f2, h1.trans g1, fun j q1 q2 => ?_⟩
        rcases Nat.lt_or_ge v j with q | q
        · exact g2 j q q2
        · obtain rfl : j = v := by omega
          exact h2
      · exact Or.inr ⟨h1.trans g1, g2⟩
    by_cases b1 : ((s >>> (nI u &&& 31)) &&& 1) = 1
    · by_cases b2 : ((s >>> (nI v &&& 31)) &&& 1) = 1
      · by_cases b3 : μ.1 1 (6 + u) = μ.1 1 (6 + v)
        · refine Or.inr ⟨?_, v, by omega, b1, b2, b3⟩
          rw [s_106_18]; simp (decide := true) only [s_106_0, s_106_7, s_106_10, s_106_13, s_106_16, s_106_23, s_106_32, s_106_41, s_106_45, s_106_53, s_106_57, s_106_60, s_106_64, s_106_68, s_106_71, s_106_75, s_106_78, s_106_80, s_106_86, s_106_92, Option.bind_some, x_tlv, x_tln, if_true, if_false, cr_isa, R_at, R_has, R_size, R_put, R_isFull, R_add, R_clear, c_has_eq, c_wa_1, c_wa_2, c_ws_1, c_ws_2, cf_0_0, cf_0_1, cf_0_2, cf_0_3, cf_0_4, cf_0_5, cf_0_6, cf_0_7, cf_0_8, cf_0_9, cf_0_10, cf_0_11, cf_0_12, cf_0_13, cp_0_12, cp_0_13, ci_0, cf_1_0, cf_1_1, cf_1_2, cf_1_3, cf_1_4, cp_1_1, cp_1_2, cp_1_3, cp_1_4, ci_1, cf_4_0, cf_4_1, cf_4_2, cf_4_3, cf_4_4, cf_4_5, cf_4_6, cf_4_7, cf_4_8, cf_4_9, cf_4_10, cp_4_0, cp_4_1, ci_4, cf_23_0, cf_23_1, cf_23_2, cf_23_3, cf_23_4, cf_23_5, cf_23_6, cf_23_7, cf_23_8, cf_23_9, cf_23_10, cp_23_0, cp_23_1, ci_23, cf_42_0, cf_42_1, cf_42_2, cf_42_3, cp_42_2, cp_42_3, ci_42, cf_47_0, cf_47_1, cf_47_2, cp_47_1, cp_47_2, ci_47, cf_50_0, cf_50_1, cf_50_2, ci_50, cf_57_0, cf_57_1, ci_57, cf_62_0, cf_62_1, ci_62, cf_67_0, cf_67_1, cf_67_2, cf_67_3, cf_67_4, cf_67_5, cp_67_1, cp_67_2, ci_67, cf_76_0, cf_76_1, cf_76_2, cf_76_3, cf_76_4, cf_76_5, cp_76_1, cp_76_2, cp_76_3, ci_76, e, b1, b2, a1, a2, b3]
        · refine go (.int 1) ?_ (fun z => b3 z.2.2)
          rw [s_106_18]; simp (decide := true) only [s_106_0, s_106_7, s_106_10, s_106_13, s_106_16, s_106_23, s_106_32, s_106_41, s_106_45, s_106_53, s_106_57, s_106_60, s_106_64, s_106_68, s_106_71, s_106_75, s_106_78, s_106_80, s_106_86, s_106_92, Option.bind_some, x_tlv, x_tln, if_true, if_false, cr_isa, R_at, R_has, R_size, R_put, R_isFull, R_add, R_clear, c_has_eq, c_wa_1, c_wa_2, c_ws_1, c_ws_2, cf_0_0, cf_0_1, cf_0_2, cf_0_3, cf_0_4, cf_0_5, cf_0_6, cf_0_7, cf_0_8, cf_0_9, cf_0_10, cf_0_11, cf_0_12, cf_0_13, cp_0_12, cp_0_13, ci_0, cf_1_0, cf_1_1, cf_1_2, cf_1_3, cf_1_4, cp_1_1, cp_1_2, cp_1_3, cp_1_4, ci_1, cf_4_0, cf_4_1, cf_4_2, cf_4_3, cf_4_4, cf_4_5, cf_4_6, cf_4_7, cf_4_8, cf_4_9, cf_4_10, cp_4_0, cp_4_1, ci_4, cf_23_0, cf_23_1, cf_23_2, cf_23_3, cf_23_4, cf_23_5, cf_23_6, cf_23_7, cf_23_8, cf_23_9, cf_23_10, cp_23_0, cp_23_1, ci_23, cf_42_0, cf_42_1, cf_42_2, cf_42_3, cp_42_2, cp_42_3, ci_42, cf_47_0, cf_47_1, cf_47_2, cp_47_1, cp_47_2, ci_47, cf_50_0, cf_50_1, cf_50_2, ci_50, cf_57_0, cf_57_1, ci_57, cf_62_0, cf_62_1, ci_62, cf_67_0, cf_67_1, cf_67_2, cf_67_3, cf_67_4, cf_67_5, cp_67_1, cp_67_2, ci_67, cf_76_0, cf_76_1, cf_76_2, cf_76_3, cf_76_4, cf_76_5, cp_76_1, cp_76_2, cp_76_3, ci_76, e, b1, b2, a1, a2, b3, nI_1]
      · refine go (.int 0) ?_ (fun z => b2 z.2.1)
        rw [s_106_18]; simp (decide := true) only [s_106_0, s_106_7, s_106_10, s_106_13, s_106_16, s_106_23, s_106_32, s_106_41, s_106_45, s_106_53, s_106_57, s_106_60, s_106_64, s_106_68, s_106_71, s_106_75, s_106_78, s_106_80, s_106_86, s_106_92, Option.bind_some, x_tlv, x_tln, if_true, if_false, cr_isa, R_at, R_has, R_size, R_put, R_isFull, R_add, R_clear, c_has_eq, c_wa_1, c_wa_2, c_ws_1, c_ws_2, cf_0_0, cf_0_1, cf_0_2, cf_0_3, cf_0_4, cf_0_5, cf_0_6, cf_0_7, cf_0_8, cf_0_9, cf_0_10, cf_0_11, cf_0_12, cf_0_13, cp_0_12, cp_0_13, ci_0, cf_1_0, cf_1_1, cf_1_2, cf_1_3, cf_1_4, cp_1_1, cp_1_2, cp_1_3, cp_1_4, ci_1, cf_4_0, cf_4_1, cf_4_2, cf_4_3, cf_4_4, cf_4_5, cf_4_6, cf_4_7, cf_4_8, cf_4_9, cf_4_10, cp_4_0, cp_4_1, ci_4, cf_23_0, cf_23_1, cf_23_2, cf_23_3, cf_23_4, cf_23_5, cf_23_6, cf_23_7, cf_23_8, cf_23_9, cf_23_10, cp_23_0, cp_23_1, ci_23, cf_42_0, cf_42_1, cf_42_2, cf_42_3, cp_42_2, cp_42_3, ci_42, cf_47_0, cf_47_1, cf_47_2, cp_47_1, cp_47_2, ci_47, cf_50_0, cf_50_1, cf_50_2, ci_50, cf_57_0, cf_57_1, ci_57, cf_62_0, cf_62_1, ci_62, cf_67_0, cf_67_1, cf_67_2, cf_67_3, cf_67_4, cf_67_5, cp_67_1, cp_67_2, ci_67, cf_76_0, cf_76_1, cf_76_2, cf_76_3, cf_76_4, cf_76_5, cp_76_1, cp_76_2, cp_76_3, ci_76, e, b1, b2, nI_1]
    · refine go (.int 0) ?_ (fun z => b1 z.1)
      rw [s_106_18]; simp (decide := true) only [s_106_0, s_106_7, s_106_10, s_106_13, s_106_16, s_106_23, s_106_32, s_106_41, s_106_45, s_106_53, s_106_57, s_106_60, s_106_64, s_106_68, s_106_71, s_106_75, s_106_78, s_106_80, s_106_86, s_106_92, Option.bind_some, x_tlv, x_tln, if_true, if_false, cr_isa, R_at, R_has, R_size, R_put, R_isFull, R_add, R_clear, c_has_eq, c_wa_1, c_wa_2, c_ws_1, c_ws_2, cf_0_0, cf_0_1, cf_0_2, cf_0_3, cf_0_4, cf_0_5, cf_0_6, cf_0_7, cf_0_8, cf_0_9, cf_0_10, cf_0_11, cf_0_12, cf_0_13, cp_0_12, cp_0_13, ci_0, cf_1_0, cf_1_1, cf_1_2, cf_1_3, cf_1_4, cp_1_1, cp_1_2, cp_1_3, cp_1_4, ci_1, cf_4_0, cf_4_1, cf_4_2, cf_4_3, cf_4_4, cf_4_5, cf_4_6, cf_4_7, cf_4_8, cf_4_9, cf_4_10, cp_4_0, cp_4_1, ci_4, cf_23_0, cf_23_1, cf_23_2, cf_23_3, cf_23_4, cf_23_5, cf_23_6, cf_23_7, cf_23_8, cf_23_9, cf_23_10, cp_23_0, cp_23_1, ci_23, cf_42_0, cf_42_1, cf_42_2, cf_42_3, cp_42_2, cp_42_3, ci_42, cf_47_0, cf_47_1, cf_47_2, cp_47_1, cp_47_2, ci_47, cf_50_0, cf_50_1, cf_50_2, ci_50, cf_57_0, cf_57_1, ci_57, cf_62_0, cf_62_1, ci_62, cf_67_0, cf_67_1, cf_67_2, cf_67_3, cf_67_4, cf_67_5, cp_67_1, cp_67_2, ci_67, cf_76_0, cf_76_1, cf_76_2, cf_76_3, cf_76_4, cf_76_5, cp_76_1, cp_76_2, cp_76_3, ci_76, e, b1, nI_1]
theorem E_unC2 {σ : x_S} {μ : x_U} {U : Nat} (d : Nat) (s : Int32) (hU : U ≤ 6) (c3 : σ.2 5 1 = nI U) (hu : S_use σ μ U) : ∀ m u (e f : Value), u + m = U → ∃ r : Int32, (r = 0 ∨ r = 1) ∧ (r = 1 ↔ ∀ w, u ≤ w → w < U → ∀ j, j < w → ¬ x_bad μ s w j) ∧ x_E x_P (d + 1) x_c106 2 [.ref 0, .int s, .int (nI u), e, f] [] (CG σ) = some (some (.int r), CG σ) := by
  intro m
  induction m with
  | zero =>
    intro u e f hm
    obtain rfl : u = U := by omega
    refine ⟨1, Or.inr rfl, ⟨fun _ w h1 h2 => by omega, fun _ => rfl⟩, ?_⟩
    rw [s_106_2]; simp (decide := true) only [s_106_0, s_106_7, s_106_10, s_106_13, s_106_16, s_106_23, s_106_32, s_106_41, s_106_45, s_106_53, s_106_57, s_106_60, s_106_64, s_106_68, s_106_71, s_106_75, s_106_78, s_106_80, s_106_86, s_106_92, Option.bind_some, x_tlv, x_tln, if_true, if_false, cr_isa, R_at, R_has, R_size, R_put, R_isFull, R_add, R_clear, c_has_eq, c_wa_1, c_wa_2, c_ws_1, c_ws_2, cf_0_0, cf_0_1, cf_0_2, cf_0_3, cf_0_4, cf_0_5, cf_0_6, cf_0_7, cf_0_8, cf_0_9, cf_0_10, cf_0_11, cf_0_12, cf_0_13, cp_0_12, cp_0_13, ci_0, cf_1_0, cf_1_1, cf_1_2, cf_1_3, cf_1_4, cp_1_1, cp_1_2, cp_1_3, cp_1_4, ci_1, cf_4_0, cf_4_1, cf_4_2, cf_4_3, cf_4_4, cf_4_5, cf_4_6, cf_4_7, cf_4_8, cf_4_9, cf_4_10, cp_4_0, cp_4_1, ci_4, cf_23_0, cf_23_1, cf_23_2, cf_23_3, cf_23_4, cf_23_5, cf_23_6, cf_23_7, cf_23_8, cf_23_9, cf_23_10, cp_23_0, cp_23_1, ci_23, cf_42_0, cf_42_1, cf_42_2, cf_42_3, cp_42_2, cp_42_3, ci_42, cf_47_0, cf_47_1, cf_47_2, cp_47_1, cp_47_2, ci_47, cf_50_0, cf_50_1, cf_50_2, ci_50, cf_57_0, cf_57_1, ci_57, cf_62_0, cf_62_1, ci_62, cf_67_0, cf_67_1, cf_67_2, cf_67_3, cf_67_4, cf_67_5, cp_67_1, cp_67_2, ci_67, cf_76_0, cf_76_1, cf_76_2, cf_76_3, cf_76_4, cf_76_5, cp_76_1, cp_76_2, cp_76_3, ci_76, c3, Int32.le_refl]
  | succ m ih =>
    intro u e f hm
    have e0 : ¬ nI U ≤ nI u := nI_ge (by omega) (by omega)
    have st : x_E x_P (d + 1) x_c106 2 [.ref 0, .int s, .int (nI u), e, f] [] (CG σ) = x_E x_P (d + 1) x_c106 18 [.ref 0, .int s, .int (nI u), .int (nI 0), f] [] (CG σ) := by
      rw [s_106_2]; simp (decide := true) only [s_106_0, s_106_7, s_106_10, s_106_13, s_106_16, s_106_23, s_106_32, s_106_41, s_106_45, s_106_53, s_106_57, s_106_60, s_106_64, s_106_68, s_106_71, s_106_75, s_106_78, s_106_80, s_106_86, s_106_92, Option.bind_some, x_tlv, x_tln, if_true, if_false, cr_isa, R_at, R_has, R_size, R_put, R_isFull, R_add, R_clear, c_has_eq, c_wa_1, c_wa_2, c_ws_1, c_ws_2, cf_0_0, cf_0_1, cf_0_2, cf_0_3, cf_0_4, cf_0_5, cf_0_6, cf_0_7, cf_0_8, cf_0_9, cf_0_10, cf_0_11, cf_0_12, cf_0_13, cp_0_12, cp_0_13, ci_0, cf_1_0, cf_1_1, cf_1_2, cf_1_3, cf_1_4, cp_1_1, cp_1_2, cp_1_3, cp_1_4, ci_1, cf_4_0, cf_4_1, cf_4_2, cf_4_3, cf_4_4, cf_4_5, cf_4_6, cf_4_7, cf_4_8, cf_4_9, cf_4_10, cp_4_0, cp_4_1, ci_4, cf_23_0, cf_23_1, cf_23_2, cf_23_3, cf_23_4, cf_23_5, cf_23_6, cf_23_7, cf_23_8, cf_23_9, cf_23_10, cp_23_0, cp_23_1, ci_23, cf_42_0, cf_42_1, cf_42_2, cf_42_3, cp_42_2, cp_42_3, ci_42, cf_47_0, cf_47_1, cf_47_2, cp_47_1, cp_47_2, ci_47, cf_50_0, cf_50_1, cf_50_2, ci_50, cf_57_0, cf_57_1, ci_57, cf_62_0, cf_62_1, ci_62, cf_67_0, cf_67_1, cf_67_2, cf_67_3, cf_67_4, cf_67_5, cp_67_1, cp_67_2, ci_67, cf_76_0, cf_76_1, cf_76_2, cf_76_3, cf_76_4, cf_76_5, cp_76_1, cp_76_2, cp_76_3, ci_76, c3, e0]
      rfl
    rcases E_unC (σ := σ) (μ := μ) d s hU (show u < U by omega) hu u 0 f (by omega) with ⟨f', g1, g2⟩ | ⟨g1, j, g2, g3⟩
    · obtain ⟨r, r1, r2, r3⟩ := ih (u + 1) (.int (nI u)) f' (by omega)
      refine ⟨r, r1, r2.trans ⟨fun z w h1 h2 j hj => ?_, fun z w h1 h2 => z w (by omega) h2⟩, (st.trans g1).trans r3⟩
      rcases Nat.lt_or_ge u w with q | q
      · exact z w q h2 j hj
      · obtain rfl : w = u := by omega
        exact g2 j (Nat.zero_le _) hj
    · exact ⟨0, Or.inl rfl, ⟨fun z => absurd z (by decide), fun z => absurd g3 (z u (Nat.le_refl _) (by omega) j g2)⟩, st.trans g1⟩
theorem E_unM {μ : x_U} {U u : Nat} (d : Nat) (s : Int32) (hU : U ≤ 6) (hlt : u < U) : ∀ m v (c : Int32), v + m = u → (c = 0 ∨ c = 1) → ∃ c' : Int32, (c' = 0 ∨ c' = 1) ∧ (c' = 1 ↔ c = 1 ∧ ∀ j, v ≤ j → j < u → ¬ x_bad μ s u j) ∧ x_E x_P (d + 1) x_c172 34 [.ref 0, .int s, .int c, .int (nI u), .int (nI v)] [] (MG μ) = x_E x_P (d + 1) x_c172 21 [.ref 0, .int s, .int c', .int (nI (u + 1)), .int (nI u)] [] (MG μ) := by
  intro m
  induction m with
  | zero =>
    intro v c hv hc
    obtain rfl : v = u := by omega
    refine ⟨c, hc, ⟨fun z => ⟨z, fun j h1 h2 => by omega⟩, fun z => z.1⟩, ?_⟩
    rw [s_172_34]; simp (decide := true) only [s_172_95, Option.bind_some, x_tlv, x_tln, if_true, if_false, m_wa_1, m_wa_s, m_wb_1, m_wb_2, m_wb_s, m_ws_1, m_ws_b, m_ws_s, m_ws_e, m_we_1, m_we_b, m_we_s, m_we_e, mf_0, mf_1, mf_2, mf_3, mf_4, mf_5, mf_6, mf_7, mf_8, mf_9, mf_10, mf_11, mf_12, mf_13, mf_14, mf_15, mf_16, mf_17, mf_18, mf_19, mf_20, mf_21, mf_22, mf_23, mf_24, mf_25, mf_26, mf_27, mf_28, mf_29, mf_30, mp_4, mp_7, mp_9, mp_10, mp_12, mp_14, mp_15, mp_16, mp_17, mp_18, mp_19, mp_20, mi_0, Int32.le_refl, nI_1]
  | succ m ih =>
    intro v c hv hc
    have e : ¬ nI u ≤ nI v := nI_ge (by omega) (by omega)
    have go : ∀ c2 : Int32, (c2 = 0 ∨ c2 = 1) → (c2 = 1 ↔ c = 1 ∧ ¬ x_bad μ s u v) → x_E x_P (d + 1) x_c172 34 [.ref 0, .int s, .int c, .int (nI u), .int (nI v)] [] (MG μ) = x_E x_P (d + 1) x_c172 34 [.ref 0, .int s, .int c2, .int (nI u), .int (nI (v + 1))] [] (MG μ) → ∃ c' : Int32, (c' = 0 ∨ c' = 1) ∧ (c' = 1 ↔ c = 1 ∧ ∀ j, v ≤ j → j < u → ¬ x_bad μ s u j) ∧ x_E x_P (d + 1) x_c172 34 [.ref 0, .int s, .int c, .int (nI u), .int (nI v)] [] (MG μ) = x_E x_P (d + 1) x_c172 21 [.ref 0, .int s, .int c', .int (nI (u + 1)), .int (nI u)] [] (MG μ) := by
      intro c2 h1 h2 h3
      obtain ⟨c', g1, g2, g3⟩ := ih (v + 1) c2 (by omega) h1
      refine ⟨c', g1, g2.trans ⟨fun ⟨z1, z2⟩ => ⟨(h2.mp z1).1, fun j q1 q2 => ?_⟩, fun ⟨z1, z2⟩ => ⟨h2.mpr ⟨z1, z2 v (Nat.le_refl _) (by omega)⟩, fun j q1 q2 => z2 j (by omega) q2⟩⟩, h3.trans g3⟩
      rcases Nat.lt_or_ge v j with q | q
      · exact z2 j q q2
      · obtain rfl : j = v := by omega
        exact (h2.mp z1).2
    rcases hc with rfl | rfl
    · refine go 0 (Or.inl rfl) ⟨fun z => absurd z (by decide), fun z => absurd z.1 (by decide)⟩ ?_
      rw [s_172_34]; simp (decide := true) only [s_172_0, s_172_4, s_172_13, s_172_17, s_172_26, s_172_28, s_172_31, s_172_40, s_172_44, s_172_49, s_172_52, s_172_58, s_172_61, s_172_65, s_172_70, s_172_74, s_172_80, s_172_83, s_172_87, s_172_95, s_172_101, s_172_105, s_172_109, Option.bind_some, x_tlv, x_tln, if_true, if_false, m_wa_1, m_wa_s, m_wb_1, m_wb_2, m_wb_s, m_ws_1, m_ws_b, m_ws_s, m_ws_e, m_we_1, m_we_b, m_we_s, m_we_e, mf_0, mf_1, mf_2, mf_3, mf_4, mf_5, mf_6, mf_7, mf_8, mf_9, mf_10, mf_11, mf_12, mf_13, mf_14, mf_15, mf_16, mf_17, mf_18, mf_19, mf_20, mf_21, mf_22, mf_23, mf_24, mf_25, mf_26, mf_27, mf_28, mf_29, mf_30, mp_4, mp_7, mp_9, mp_10, mp_12, mp_14, mp_15, mp_16, mp_17, mp_18, mp_19, mp_20, mi_0, e, nI_1]
    · by_cases b1 : ((s >>> (nI u &&& 31)) &&& 1) = 1
      · by_cases b2 : ((s >>> (nI v &&& 31)) &&& 1) = 1
        · by_cases b3 : μ.1 1 (6 + u) = μ.1 1 (6 + v)
          · refine go 0 (Or.inl rfl) ⟨fun z => absurd z (by decide), fun z => absurd ⟨b1, b2, b3⟩ z.2⟩ ?_
            rw [s_172_34]; simp (disch := first | decide | omega) only [s_172_0, s_172_4, s_172_13, s_172_17, s_172_26, s_172_28, s_172_31, s_172_40, s_172_44, s_172_49, s_172_52, s_172_58, s_172_61, s_172_65, s_172_70, s_172_74, s_172_80, s_172_83, s_172_87, s_172_95, s_172_101, s_172_105, s_172_109, Option.bind_some, x_tlv, x_tln, if_true, if_false, m_wa_1, m_wa_s, m_wb_1, m_wb_2, m_wb_s, m_ws_1, m_ws_b, m_ws_s, m_ws_e, m_we_1, m_we_b, m_we_s, m_we_e, mf_0, mf_1, mf_2, mf_3, mf_4, mf_5, mf_6, mf_7, mf_8, mf_9, mf_10, mf_11, mf_12, mf_13, mf_14, mf_15, mf_16, mf_17, mf_18, mf_19, mf_20, mf_21, mf_22, mf_23, mf_24, mf_25, mf_26, mf_27, mf_28, mf_29, mf_30, mp_4, mp_7, mp_9, mp_10, mp_12, mp_14, mp_15, mp_16, mp_17, mp_18, mp_19, mp_20, mi_0, M_has, e, x_b_t b1, x_b_t b2, x_a6, md1n, b3, nI_1]
            simp (decide := true) only [if_false]
          · refine go 1 (Or.inr rfl) ⟨fun _ => ⟨rfl, fun z => b3 z.2.2⟩, fun _ => rfl⟩ ?_
            rw [s_172_34]; simp (disch := first | decide | omega) only [s_172_0, s_172_4, s_172_13, s_172_17, s_172_26, s_172_28, s_172_31, s_172_40, s_172_44, s_172_49, s_172_52, s_172_58, s_172_61, s_172_65, s_172_70, s_172_74, s_172_80, s_172_83, s_172_87, s_172_95, s_172_101, s_172_105, s_172_109, Option.bind_some, x_tlv, x_tln, if_true, if_false, m_wa_1, m_wa_s, m_wb_1, m_wb_2, m_wb_s, m_ws_1, m_ws_b, m_ws_s, m_ws_e, m_we_1, m_we_b, m_we_s, m_we_e, mf_0, mf_1, mf_2, mf_3, mf_4, mf_5, mf_6, mf_7, mf_8, mf_9, mf_10, mf_11, mf_12, mf_13, mf_14, mf_15, mf_16, mf_17, mf_18, mf_19, mf_20, mf_21, mf_22, mf_23, mf_24, mf_25, mf_26, mf_27, mf_28, mf_29, mf_30, mp_4, mp_7, mp_9, mp_10, mp_12, mp_14, mp_15, mp_16, mp_17, mp_18, mp_19, mp_20, mi_0, M_has, e, x_b_t b1, x_b_t b2, x_a6, md1n, b3, nI_1]
            simp (decide := true) only [if_false]
        · refine go 1 (Or.inr rfl) ⟨fun _ => ⟨rfl, fun z => b2 z.2.1⟩, fun _ => rfl⟩ ?_
          rw [s_172_34]; simp (decide := true) only [s_172_0, s_172_4, s_172_13, s_172_17, s_172_26, s_172_28, s_172_31, s_172_40, s_172_44, s_172_49, s_172_52, s_172_58, s_172_61, s_172_65, s_172_70, s_172_74, s_172_80, s_172_83, s_172_87, s_172_95, s_172_101, s_172_105, s_172_109, Option.bind_some, x_tlv, x_tln, if_true, if_false, m_wa_1, m_wa_s, m_wb_1, m_wb_2, m_wb_s, m_ws_1, m_ws_b, m_ws_s, m_ws_e, m_we_1, m_we_b, m_we_s, m_we_e, mf_0, mf_1, mf_2, mf_3, mf_4, mf_5, mf_6, mf_7, mf_8, mf_9, mf_10, mf_11, mf_12, mf_13, mf_14, mf_15, mf_16, mf_17, mf_18, mf_19, mf_20, mf_21, mf_22, mf_23, mf_24, mf_25, mf_26, mf_27, mf_28, mf_29, mf_30, mp_4, mp_7, mp_9, mp_10, mp_12, mp_14, mp_15, mp_16, mp_17, mp_18, mp_19, mp_20, mi_0, M_has, e, x_b_t b1, x_b_f b2, nI_1]
      · refine go 1 (Or.inr rfl) ⟨fun _ => ⟨rfl, fun z => b1 z.1⟩, fun _ => rfl⟩ ?_
        rw [s_172_34]; simp (decide := true) only [s_172_0, s_172_4, s_172_13, s_172_17, s_172_26, s_172_28, s_172_31, s_172_40, s_172_44, s_172_49, s_172_52, s_172_58, s_172_61, s_172_65, s_172_70, s_172_74, s_172_80, s_172_83, s_172_87, s_172_95, s_172_101, s_172_105, s_172_109, Option.bind_some, x_tlv, x_tln, if_true, if_false, m_wa_1, m_wa_s, m_wb_1, m_wb_2, m_wb_s, m_ws_1, m_ws_b, m_ws_s, m_ws_e, m_we_1, m_we_b, m_we_s, m_we_e, mf_0, mf_1, mf_2, mf_3, mf_4, mf_5, mf_6, mf_7, mf_8, mf_9, mf_10, mf_11, mf_12, mf_13, mf_14, mf_15, mf_16, mf_17, mf_18, mf_19, mf_20, mf_21, mf_22, mf_23, mf_24, mf_25, mf_26, mf_27, mf_28, mf_29, mf_30, mp_4, mp_7, mp_9, mp_10, mp_12, mp_14, mp_15, mp_16, mp_17, mp_18, mp_19, mp_20, mi_0, M_has, e, x_b_f b1, nI_1]
theorem E_unM2 {μ : x_U} {U : Nat} (d : Nat) (s : Int32) (hU : U ≤ 6) (c3 : μ.1 1 2 = nI U) : ∀ m u (c : Int32) (f : Value), u + m = U → (c = 0 ∨ c = 1) → ∃ r : Int32, (r = 0 ∨ r = 1) ∧ (r = 1 ↔ c = 1 ∧ ∀ w, u ≤ w → w < U → ∀ j, j < w → ¬ x_bad μ s w j) ∧ x_E x_P (d + 1) x_c172 21 [.ref 0, .int s, .int c, .int (nI u), f] [] (MG μ) = some (some (.int (if r = 1 then 1 else -1)), MG μ) := by
  intro m
  induction m with
  | zero =>
    intro u c f hm hc
    obtain rfl : u = U := by omega
    refine ⟨c, hc, ⟨fun z => ⟨z, fun w h1 h2 => by omega⟩, fun z => z.1⟩, ?_⟩
    rcases hc with rfl | rfl
    · rw [s_172_21]; simp (decide := true) only [s_172_0, s_172_4, s_172_13, s_172_17, s_172_26, s_172_28, s_172_31, s_172_40, s_172_44, s_172_49, s_172_52, s_172_58, s_172_61, s_172_65, s_172_70, s_172_74, s_172_80, s_172_83, s_172_87, s_172_95, s_172_101, s_172_105, s_172_109, Option.bind_some, x_tlv, x_tln, if_true, if_false, m_wa_1, m_wa_s, m_wb_1, m_wb_2, m_wb_s, m_ws_1, m_ws_b, m_ws_s, m_ws_e, m_we_1, m_we_b, m_we_s, m_we_e, mf_0, mf_1, mf_2, mf_3, mf_4, mf_5, mf_6, mf_7, mf_8, mf_9, mf_10, mf_11, mf_12, mf_13, mf_14, mf_15, mf_16, mf_17, mf_18, mf_19, mf_20, mf_21, mf_22, mf_23, mf_24, mf_25, mf_26, mf_27, mf_28, mf_29, mf_30, mp_4, mp_7, mp_9, mp_10, mp_12, mp_14, mp_15, mp_16, mp_17, mp_18, mp_19, mp_20, mi_0, md1_2, c3, Int32.le_refl]
    · rw [s_172_21]; simp (decide := true) only [s_172_0, s_172_4, s_172_13, s_172_17, s_172_26, s_172_28, s_172_31, s_172_40, s_172_44, s_172_49, s_172_52, s_172_58, s_172_61, s_172_65, s_172_70, s_172_74, s_172_80, s_172_83, s_172_87, s_172_95, s_172_101, s_172_105, s_172_109, Option.bind_some, x_tlv, x_tln, if_true, if_false, m_wa_1, m_wa_s, m_wb_1, m_wb_2, m_wb_s, m_ws_1, m_ws_b, m_ws_s, m_ws_e, m_we_1, m_we_b, m_we_s, m_we_e, mf_0, mf_1, mf_2, mf_3, mf_4, mf_5, mf_6, mf_7, mf_8, mf_9, mf_10, mf_11, mf_12, mf_13, mf_14, mf_15, mf_16, mf_17, mf_18, mf_19, mf_20, mf_21, mf_22, mf_23, mf_24, mf_25, mf_26, mf_27, mf_28, mf_29, mf_30, mp_4, mp_7, mp_9, mp_10, mp_12, mp_14, mp_15, mp_16, mp_17, mp_18, mp_19, mp_20, mi_0, md1_2, c3, Int32.le_refl]
  | succ m ih =>
    intro u c f hm hc
    have e0 : ¬ nI U ≤ nI u := nI_ge (by omega) (by omega)
    have st : x_E x_P (d + 1) x_c172 21 [.ref 0, .int s, .int c, .int (nI u), f] [] (MG μ) = x_E x_P (d + 1) x_c172 34 [.ref 0, .int s, .int c, .int (nI u), .int (nI 0)] [] (MG μ) := by
      rw [s_172_21]; simp (decide := true) only [s_172_0, s_172_4, s_172_13, s_172_17, s_172_26, s_172_28, s_172_31, s_172_40, s_172_44, s_172_49, s_172_52, s_172_58, s_172_61, s_172_65, s_172_70, s_172_74, s_172_80, s_172_83, s_172_87, s_172_95, s_172_101, s_172_105, s_172_109, Option.bind_some, x_tlv, x_tln, if_true, if_false, m_wa_1, m_wa_s, m_wb_1, m_wb_2, m_wb_s, m_ws_1, m_ws_b, m_ws_s, m_ws_e, m_we_1, m_we_b, m_we_s, m_we_e, mf_0, mf_1, mf_2, mf_3, mf_4, mf_5, mf_6, mf_7, mf_8, mf_9, mf_10, mf_11, mf_12, mf_13, mf_14, mf_15, mf_16, mf_17, mf_18, mf_19, mf_20, mf_21, mf_22, mf_23, mf_24, mf_25, mf_26, mf_27, mf_28, mf_29, mf_30, mp_4, mp_7, mp_9, mp_10, mp_12, mp_14, mp_15, mp_16, mp_17, mp_18, mp_19, mp_20, mi_0, md1_2, c3, e0]
      rfl
    obtain ⟨c', g1, g2, g3⟩ := E_unM (μ := μ) d s hU (show u < U by omega) u 0 c (by omega) hc
    obtain ⟨r, r1, r2, r3⟩ := ih (u + 1) c' (.int (nI u)) (by omega) g1
    refine ⟨r, r1, r2.trans ⟨fun ⟨z1, z2⟩ => ⟨(g2.mp z1).1, fun w h1 h2 j hj => ?_⟩, fun ⟨z1, z2⟩ => ⟨g2.mpr ⟨z1, fun j _ hj => z2 u (Nat.le_refl _) (by omega) j hj⟩, fun w h1 h2 => z2 w (by omega) h2⟩⟩, (st.trans g3).trans r3⟩
    rcases Nat.lt_or_ge u w with q | q
    · exact z2 w q h2 j hj
    · obtain rfl : w = u := by omega
      exact (g2.mp z1).2 j (Nat.zero_le _) hj
theorem sim_ask : Sim 97 172 [] := Sim.same fun σ μ hS => by
  obtain ⟨V, V1, V2, V3⟩ := R_uses 25 28 hS
  obtain ⟨U, T, P, N, ⟨⟨hU, hT, hP, hN⟩, c1, c2, c3, c4, c5, c6⟩, hu, ht, hp, hw, hn, hpa, hi, hl, hb, hx, hm⟩ := hS
  obtain ⟨r, r1, r2, r3⟩ := E_unC2 (σ := σ) (μ := μ) 27 (nI V) hU c3.2 hu U 0 x_j x_j (by omega)
  have hbc := x_bc_two V V1
  by_cases h2 : 2 ≤ x_bc (nI V)
  · obtain ⟨q, q1, q2, q3⟩ := E_unM2 (μ := μ) 28 (nI V) hU c3.1 U 0 1 x_j (by omega) (Or.inr rfl)
    have hrq : q = r := by
      have h12 : r = 1 ↔ q = 1 := r2.trans ⟨fun z => q2.mpr ⟨rfl, z⟩, fun z => (q2.mp z).2⟩
      rcases r1 with rfl | rfl <;> rcases q1 with rfl | rfl
      · rfl
      · exact absurd (h12.mpr rfl) (by decide)
      · exact absurd (h12.mp rfl) (by decide)
      · rfl
    subst hrq
    refine ⟨if q = 1 then 1 else -1, ?_, ?_⟩
    · simp (decide := true) only [r_97, s_97_0, s_97_4, s_97_9, s_97_13, s_97_15, s_97_20, s_97_23, s_97_27, Option.bind_some, x_tlv, x_tln, if_true, if_false, cr_isa, R_at, R_has, R_size, R_put, R_isFull, R_add, R_clear, c_has_eq, c_wa_1, c_wa_2, c_ws_1, c_ws_2, cf_0_0, cf_0_1, cf_0_2, cf_0_3, cf_0_4, cf_0_5, cf_0_6, cf_0_7, cf_0_8, cf_0_9, cf_0_10, cf_0_11, cf_0_12, cf_0_13, cp_0_12, cp_0_13, ci_0, cf_1_0, cf_1_1, cf_1_2, cf_1_3, cf_1_4, cp_1_1, cp_1_2, cp_1_3, cp_1_4, ci_1, cf_4_0, cf_4_1, cf_4_2, cf_4_3, cf_4_4, cf_4_5, cf_4_6, cf_4_7, cf_4_8, cf_4_9, cf_4_10, cp_4_0, cp_4_1, ci_4, cf_23_0, cf_23_1, cf_23_2, cf_23_3, cf_23_4, cf_23_5, cf_23_6, cf_23_7, cf_23_8, cf_23_9, cf_23_10, cp_23_0, cp_23_1, ci_23, cf_42_0, cf_42_1, cf_42_2, cf_42_3, cp_42_2, cp_42_3, ci_42, cf_47_0, cf_47_1, cf_47_2, cp_47_1, cp_47_2, ci_47, cf_50_0, cf_50_1, cf_50_2, ci_50, cf_57_0, cf_57_1, ci_57, cf_62_0, cf_62_1, ci_62, cf_67_0, cf_67_1, cf_67_2, cf_67_3, cf_67_4, cf_67_5, cp_67_1, cp_67_2, ci_67, cf_76_0, cf_76_1, cf_76_2, cf_76_3, cf_76_4, cf_76_5, cp_76_1, cp_76_2, cp_76_3, ci_76]
      rw [V2]
      simp (decide := true) only [s_97_0, s_97_4, s_97_9, s_97_13, s_97_15, s_97_20, s_97_23, s_97_27, Option.bind_some, x_tlv, x_tln, if_true, if_false, cr_isa, R_at, R_has, R_size, R_put, R_isFull, R_add, R_clear, c_has_eq, c_wa_1, c_wa_2, c_ws_1, c_ws_2, cf_0_0, cf_0_1, cf_0_2, cf_0_3, cf_0_4, cf_0_5, cf_0_6, cf_0_7, cf_0_8, cf_0_9, cf_0_10, cf_0_11, cf_0_12, cf_0_13, cp_0_12, cp_0_13, ci_0, cf_1_0, cf_1_1, cf_1_2, cf_1_3, cf_1_4, cp_1_1, cp_1_2, cp_1_3, cp_1_4, ci_1, cf_4_0, cf_4_1, cf_4_2, cf_4_3, cf_4_4, cf_4_5, cf_4_6, cf_4_7, cf_4_8, cf_4_9, cf_4_10, cp_4_0, cp_4_1, ci_4, cf_23_0, cf_23_1, cf_23_2, cf_23_3, cf_23_4, cf_23_5, cf_23_6, cf_23_7, cf_23_8, cf_23_9, cf_23_10, cp_23_0, cp_23_1, ci_23, cf_42_0, cf_42_1, cf_42_2, cf_42_3, cp_42_2, cp_42_3, ci_42, cf_47_0, cf_47_1, cf_47_2, cp_47_1, cp_47_2, ci_47, cf_50_0, cf_50_1, cf_50_2, ci_50, cf_57_0, cf_57_1, ci_57, cf_62_0, cf_62_1, ci_62, cf_67_0, cf_67_1, cf_67_2, cf_67_3, cf_67_4, cf_67_5, cp_67_1, cp_67_2, ci_67, cf_76_0, cf_76_1, cf_76_2, cf_76_3, cf_76_4, cf_76_5, cp_76_1, cp_76_2, cp_76_3, ci_76, R_bitCount, h2, r_106, s_106_0]
      rw [show x_E x_P 28 x_c106 2 [.ref 0, .int (nI V), .int 0, x_j, x_j] [] (CG σ) = _ from r3]
      rcases q1 with rfl | rfl
      · simp (decide := true) only [s_97_0, s_97_4, s_97_9, s_97_13, s_97_15, s_97_20, s_97_23, s_97_27, Option.bind_some, x_tlv, x_tln, if_true, if_false, cr_isa, R_at, R_has, R_size, R_put, R_isFull, R_add, R_clear, c_has_eq, c_wa_1, c_wa_2, c_ws_1, c_ws_2, cf_0_0, cf_0_1, cf_0_2, cf_0_3, cf_0_4, cf_0_5, cf_0_6, cf_0_7, cf_0_8, cf_0_9, cf_0_10, cf_0_11, cf_0_12, cf_0_13, cp_0_12, cp_0_13, ci_0, cf_1_0, cf_1_1, cf_1_2, cf_1_3, cf_1_4, cp_1_1, cp_1_2, cp_1_3, cp_1_4, ci_1, cf_4_0, cf_4_1, cf_4_2, cf_4_3, cf_4_4, cf_4_5, cf_4_6, cf_4_7, cf_4_8, cf_4_9, cf_4_10, cp_4_0, cp_4_1, ci_4, cf_23_0, cf_23_1, cf_23_2, cf_23_3, cf_23_4, cf_23_5, cf_23_6, cf_23_7, cf_23_8, cf_23_9, cf_23_10, cp_23_0, cp_23_1, ci_23, cf_42_0, cf_42_1, cf_42_2, cf_42_3, cp_42_2, cp_42_3, ci_42, cf_47_0, cf_47_1, cf_47_2, cp_47_1, cp_47_2, ci_47, cf_50_0, cf_50_1, cf_50_2, ci_50, cf_57_0, cf_57_1, ci_57, cf_62_0, cf_62_1, ci_62, cf_67_0, cf_67_1, cf_67_2, cf_67_3, cf_67_4, cf_67_5, cp_67_1, cp_67_2, ci_67, cf_76_0, cf_76_1, cf_76_2, cf_76_3, cf_76_4, cf_76_5, cp_76_1, cp_76_2, cp_76_3, ci_76]
      · simp (decide := true) only [s_97_0, s_97_4, s_97_9, s_97_13, s_97_15, s_97_20, s_97_23, s_97_27, Option.bind_some, x_tlv, x_tln, if_true, if_false, cr_isa, R_at, R_has, R_size, R_put, R_isFull, R_add, R_clear, c_has_eq, c_wa_1, c_wa_2, c_ws_1, c_ws_2, cf_0_0, cf_0_1, cf_0_2, cf_0_3, cf_0_4, cf_0_5, cf_0_6, cf_0_7, cf_0_8, cf_0_9, cf_0_10, cf_0_11, cf_0_12, cf_0_13, cp_0_12, cp_0_13, ci_0, cf_1_0, cf_1_1, cf_1_2, cf_1_3, cf_1_4, cp_1_1, cp_1_2, cp_1_3, cp_1_4, ci_1, cf_4_0, cf_4_1, cf_4_2, cf_4_3, cf_4_4, cf_4_5, cf_4_6, cf_4_7, cf_4_8, cf_4_9, cf_4_10, cp_4_0, cp_4_1, ci_4, cf_23_0, cf_23_1, cf_23_2, cf_23_3, cf_23_4, cf_23_5, cf_23_6, cf_23_7, cf_23_8, cf_23_9, cf_23_10, cp_23_0, cp_23_1, ci_23, cf_42_0, cf_42_1, cf_42_2, cf_42_3, cp_42_2, cp_42_3, ci_42, cf_47_0, cf_47_1, cf_47_2, cp_47_1, cp_47_2, ci_47, cf_50_0, cf_50_1, cf_50_2, ci_50, cf_57_0, cf_57_1, ci_57, cf_62_0, cf_62_1, ci_62, cf_67_0, cf_67_1, cf_67_2, cf_67_3, cf_67_4, cf_67_5, cp_67_1, cp_67_2, ci_67, cf_76_0, cf_76_1, cf_76_2, cf_76_3, cf_76_4, cf_76_5, cp_76_1, cp_76_2, cp_76_3, ci_76]
    · simp (decide := true) only [r_172, s_172_0, Option.bind_some, x_tlv, x_tln, if_true, if_false, m_wa_1, m_wa_s, m_wb_1, m_wb_2, m_wb_s, m_ws_1, m_ws_b, m_ws_s, m_ws_e, m_we_1, m_we_b, m_we_s, m_we_e, mf_0, mf_1, mf_2, mf_3, mf_4, mf_5, mf_6, mf_7, mf_8, mf_9, mf_10, mf_11, mf_12, mf_13, mf_14, mf_15, mf_16, mf_17, mf_18, mf_19, mf_20, mf_21, mf_22, mf_23, mf_24, mf_25, mf_26, mf_27, mf_28, mf_29, mf_30, mp_4, mp_7, mp_9, mp_10, mp_12, mp_14, mp_15, mp_16, mp_17, mp_18, mp_19, mp_20, mi_0]
      rw [V3]
      simp (decide := true) only [s_172_4, s_172_13, Option.bind_some, x_tlv, x_tln, if_true, if_false, m_wa_1, m_wa_s, m_wb_1, m_wb_2, m_wb_s, m_ws_1, m_ws_b, m_ws_s, m_ws_e, m_we_1, m_we_b, m_we_s, m_we_e, mf_0, mf_1, mf_2, mf_3, mf_4, mf_5, mf_6, mf_7, mf_8, mf_9, mf_10, mf_11, mf_12, mf_13, mf_14, mf_15, mf_16, mf_17, mf_18, mf_19, mf_20, mf_21, mf_22, mf_23, mf_24, mf_25, mf_26, mf_27, mf_28, mf_29, mf_30, mp_4, mp_7, mp_9, mp_10, mp_12, mp_14, mp_15, mp_16, mp_17, mp_18, mp_19, mp_20, mi_0, hbc.mp h2]
      exact q3
  · obtain ⟨q, q1, q2, q3⟩ := E_unM2 (μ := μ) 28 (nI V) hU c3.1 U 0 0 x_j (by omega) (Or.inl rfl)
    have hq : ¬ q = 1 := fun z => absurd (q2.mp z).1 (by decide)
    have h0 : nI V &&& (nI V - 1) = 0 := by
      rcases Classical.em (nI V &&& (nI V - 1) = 0) with z | z
      · exact z
      · exact absurd (hbc.mpr z) h2
    refine ⟨-1, ?_, ?_⟩
    · simp (decide := true) only [r_97, s_97_0, s_97_4, s_97_9, s_97_13, s_97_15, s_97_20, s_97_23, s_97_27, Option.bind_some, x_tlv, x_tln, if_true, if_false, cr_isa, R_at, R_has, R_size, R_put, R_isFull, R_add, R_clear, c_has_eq, c_wa_1, c_wa_2, c_ws_1, c_ws_2, cf_0_0, cf_0_1, cf_0_2, cf_0_3, cf_0_4, cf_0_5, cf_0_6, cf_0_7, cf_0_8, cf_0_9, cf_0_10, cf_0_11, cf_0_12, cf_0_13, cp_0_12, cp_0_13, ci_0, cf_1_0, cf_1_1, cf_1_2, cf_1_3, cf_1_4, cp_1_1, cp_1_2, cp_1_3, cp_1_4, ci_1, cf_4_0, cf_4_1, cf_4_2, cf_4_3, cf_4_4, cf_4_5, cf_4_6, cf_4_7, cf_4_8, cf_4_9, cf_4_10, cp_4_0, cp_4_1, ci_4, cf_23_0, cf_23_1, cf_23_2, cf_23_3, cf_23_4, cf_23_5, cf_23_6, cf_23_7, cf_23_8, cf_23_9, cf_23_10, cp_23_0, cp_23_1, ci_23, cf_42_0, cf_42_1, cf_42_2, cf_42_3, cp_42_2, cp_42_3, ci_42, cf_47_0, cf_47_1, cf_47_2, cp_47_1, cp_47_2, ci_47, cf_50_0, cf_50_1, cf_50_2, ci_50, cf_57_0, cf_57_1, ci_57, cf_62_0, cf_62_1, ci_62, cf_67_0, cf_67_1, cf_67_2, cf_67_3, cf_67_4, cf_67_5, cp_67_1, cp_67_2, ci_67, cf_76_0, cf_76_1, cf_76_2, cf_76_3, cf_76_4, cf_76_5, cp_76_1, cp_76_2, cp_76_3, ci_76]
      rw [V2]
      simp (decide := true) only [s_97_0, s_97_4, s_97_9, s_97_13, s_97_15, s_97_20, s_97_23, s_97_27, Option.bind_some, x_tlv, x_tln, if_true, if_false, cr_isa, R_at, R_has, R_size, R_put, R_isFull, R_add, R_clear, c_has_eq, c_wa_1, c_wa_2, c_ws_1, c_ws_2, cf_0_0, cf_0_1, cf_0_2, cf_0_3, cf_0_4, cf_0_5, cf_0_6, cf_0_7, cf_0_8, cf_0_9, cf_0_10, cf_0_11, cf_0_12, cf_0_13, cp_0_12, cp_0_13, ci_0, cf_1_0, cf_1_1, cf_1_2, cf_1_3, cf_1_4, cp_1_1, cp_1_2, cp_1_3, cp_1_4, ci_1, cf_4_0, cf_4_1, cf_4_2, cf_4_3, cf_4_4, cf_4_5, cf_4_6, cf_4_7, cf_4_8, cf_4_9, cf_4_10, cp_4_0, cp_4_1, ci_4, cf_23_0, cf_23_1, cf_23_2, cf_23_3, cf_23_4, cf_23_5, cf_23_6, cf_23_7, cf_23_8, cf_23_9, cf_23_10, cp_23_0, cp_23_1, ci_23, cf_42_0, cf_42_1, cf_42_2, cf_42_3, cp_42_2, cp_42_3, ci_42, cf_47_0, cf_47_1, cf_47_2, cp_47_1, cp_47_2, ci_47, cf_50_0, cf_50_1, cf_50_2, ci_50, cf_57_0, cf_57_1, ci_57, cf_62_0, cf_62_1, ci_62, cf_67_0, cf_67_1, cf_67_2, cf_67_3, cf_67_4, cf_67_5, cp_67_1, cp_67_2, ci_67, cf_76_0, cf_76_1, cf_76_2, cf_76_3, cf_76_4, cf_76_5, cp_76_1, cp_76_2, cp_76_3, ci_76, R_bitCount, h2]
    · simp (decide := true) only [r_172, s_172_0, Option.bind_some, x_tlv, x_tln, if_true, if_false, m_wa_1, m_wa_s, m_wb_1, m_wb_2, m_wb_s, m_ws_1, m_ws_b, m_ws_s, m_ws_e, m_we_1, m_we_b, m_we_s, m_we_e, mf_0, mf_1, mf_2, mf_3, mf_4, mf_5, mf_6, mf_7, mf_8, mf_9, mf_10, mf_11, mf_12, mf_13, mf_14, mf_15, mf_16, mf_17, mf_18, mf_19, mf_20, mf_21, mf_22, mf_23, mf_24, mf_25, mf_26, mf_27, mf_28, mf_29, mf_30, mp_4, mp_7, mp_9, mp_10, mp_12, mp_14, mp_15, mp_16, mp_17, mp_18, mp_19, mp_20, mi_0]
      rw [V3]
      simp (decide := true) only [s_172_4, s_172_17, Option.bind_some, x_tlv, x_tln, if_true, if_false, m_wa_1, m_wa_s, m_wb_1, m_wb_2, m_wb_s, m_ws_1, m_ws_b, m_ws_s, m_ws_e, m_we_1, m_we_b, m_we_s, m_we_e, mf_0, mf_1, mf_2, mf_3, mf_4, mf_5, mf_6, mf_7, mf_8, mf_9, mf_10, mf_11, mf_12, mf_13, mf_14, mf_15, mf_16, mf_17, mf_18, mf_19, mf_20, mf_21, mf_22, mf_23, mf_24, mf_25, mf_26, mf_27, mf_28, mf_29, mf_30, mp_4, mp_7, mp_9, mp_10, mp_12, mp_14, mp_15, mp_16, mp_17, mp_18, mp_19, mp_20, mi_0, h0]
      rw [if_neg hq] at q3
      exact q3
