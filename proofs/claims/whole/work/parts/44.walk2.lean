/-! ways: the class's walk -/
theorem Att_le {σ : x_S} {μ : x_U} {U T a b n v K C : Nat} {B : Nat → Int32} (hU : U ≤ 6) (ht : S_tab σ μ U T) (ha : a < U) (hn : n ≤ 99) (h : Att μ T a b n v K C B) : v ≤ 15840001 := by
  rcases h with h | ⟨h1, h2, h3, h4⟩
  · omega
  · rw [h1]; exact val_le hU ht ha hn h2 h3
theorem key_0 (j x : Nat) : key 0 j x = 0 := if_pos rfl
def WOK (σ : x_S) (μ : x_U) (T a b n D k c : Nat) : Prop := ∀ u y v K C (B W : Nat → Int32), pos μ T a n k c = some (u, y) → c < T ^ k → (∀ i, i < k → W i = nI (dg T k c i)) → Att μ T a b n v K C B → (v ≠ 0 → k ≤ K → C / T ^ (K - k) < c) → ∃ v' K' C' B' W', Att μ T a b n v' K' C' B' ∧ key v K C ≤ key v' K' C' ∧ (∀ j x, k ≤ j → j ≤ 4 → x < T ^ j → x / T ^ (j - k) = c → key (val μ T a b n j x) j x ≤ key v' K' C') ∧ (v' ≠ 0 → k ≤ K' → C' / T ^ (K' - k) ≤ c) ∧ ((v' = v ∧ K' = K ∧ C' = C) ∨ (v' ≠ 0 ∧ k ≤ K')) ∧ (∀ i, i < k → W' i = nI (dg T k c i)) ∧ x_R x_P D 67 [.ref 67, .ref 4, .int (nI u), .int (nI b), .int (nI y), .int (nI k)] (CG (QQ σ B W (eN v) (kk v K))) = some (none, CG (QQ σ B' W' (eN v') (kk v' K')))
theorem C_wl {σ : x_S} {μ : x_U} {U T a b n k c u y D : Nat} (hU : U ≤ 6) (hT : T ≤ 8) (c4 : σ.2 7 1 = nI T) (ht : S_tab σ μ U T) (ha : a < U) (hn : n ≤ 99) (hk : k ≤ 3) (hc : c < T ^ k) (hp : pos μ T a n k c = some (u, y)) (ih : ∀ c, WOK σ μ T a b n (D + 2) (k + 1) c) : ∀ r t v K C (B W : Nat → Int32), t + r = T → Att μ T a b n v K C B → (v ≠ 0 → k + 1 ≤ K → C / T ^ (K - (k + 1)) < c * T + t) → (v ≠ 0 → K = k → C ≤ c) → (∀ i, i < k → W i = nI (dg T k c i)) → ∃ v' K' C' B' W', Att μ T a b n v' K' C' B' ∧ key v K C ≤ key v' K' C' ∧ (∀ t', t ≤ t' → t' < T → ∀ j x, k + 1 ≤ j → j ≤ 4 → x < T ^ j → x / T ^ (j - (k + 1)) = c * T + t' → key (val μ T a b n j x) j x ≤ key v' K' C') ∧ (v' ≠ 0 → k + 1 ≤ K' → C' / T ^ (K' - (k + 1)) < c * T + T) ∧ (v' ≠ 0 → K' = k → C' ≤ c) ∧ ((v' = v ∧ K' = K ∧ C' = C) ∨ (v' ≠ 0 ∧ k ≤ K')) ∧ (∀ i, i < k → W' i = nI (dg T k c i)) ∧ x_E x_P (D + 2) x_c67 23 [.ref 67, .ref 4, .int (nI u), .int (nI b), .int (nI y), .int (nI k), .int (nI t)] [] (CG (QQ σ B W (eN v) (kk v K))) = some (none, CG (QQ σ B' W' (eN v') (kk v' K'))) := by
  have cw : ∀ B W Y K, (QQ σ B W Y K).2 7 1 = nI T := fun _ _ _ _ => c4
  obtain ⟨p1, p2⟩ := pos_ok hU ht ha hn k c u y hc hp
  have p3 : y ≤ 99 * 20 ^ 3 := Nat.le_trans p2 (Nat.mul_le_mul_left _ (Nat.pow_le_pow_right (by omega) hk))
  intro r
  induction r with
  | zero =>
    intro t v K C B W hr hA h2 h1 hW
    obtain rfl : t = T := by omega
    refine ⟨v, K, C, B, W, hA, Nat.le_refl _, fun t' q1 q2 => by omega, h2, h1, Or.inl ⟨rfl, rfl, rfl⟩, hW, ?_⟩
    rw [s_67_23]; simp (decide := true) only [s_67_29, s_67_32, s_67_92, Option.bind_some, x_tlv, x_tln, if_true, if_false, cr_isa, R_at, R_has, R_size, R_put, R_isFull, R_add, R_clear, c_has_eq, c_wa_1, c_wa_2, c_ws_1, c_ws_2, cf_0_0, cf_0_1, cf_0_2, cf_0_3, cf_0_4, cf_0_5, cf_0_6, cf_0_7, cf_0_8, cf_0_9, cf_0_10, cf_0_11, cf_0_12, cf_0_13, cp_0_12, cp_0_13, ci_0, cf_1_0, cf_1_1, cf_1_2, cf_1_3, cf_1_4, cp_1_1, cp_1_2, cp_1_3, cp_1_4, ci_1, cf_4_0, cf_4_1, cf_4_2, cf_4_3, cf_4_4, cf_4_5, cf_4_6, cf_4_7, cf_4_8, cf_4_9, cf_4_10, cp_4_0, cp_4_1, ci_4, cf_23_0, cf_23_1, cf_23_2, cf_23_3, cf_23_4, cf_23_5, cf_23_6, cf_23_7, cf_23_8, cf_23_9, cf_23_10, cp_23_0, cp_23_1, ci_23, cf_42_0, cf_42_1, cf_42_2, cf_42_3, cp_42_2, cp_42_3, ci_42, cf_47_0, cf_47_1, cf_47_2, cp_47_1, cp_47_2, ci_47, cf_50_0, cf_50_1, cf_50_2, ci_50, cf_57_0, cf_57_1, ci_57, cf_62_0, cf_62_1, ci_62, cf_67_0, cf_67_1, cf_67_2, cf_67_3, cf_67_4, cf_67_5, cp_67_1, cp_67_2, ci_67, cf_76_0, cf_76_1, cf_76_2, cf_76_3, cf_76_4, cf_76_5, cp_76_1, cp_76_2, cp_76_3, ci_76, cw, Int32.le_refl]
  | succ r ihr =>
    intro t v K C B W hr hA h2 h1 hW
    have e0 : ¬ nI T ≤ nI t := nI_ge (by omega) (by omega)
    have tT : t < T := by omega
    have Bt := TB.of hU ht tT
    have tU := Bt.tU
    have fU := Bt.fU
    have a1 : c_at (QQ σ B W (eN v) (kk v K)) 7 (nI t) = nI (tFr μ t) := by rw [c_at_n (q := 7) (by show t < 8; omega)]; exact Bt.fC
    have hch := pos_child tT hp
    have hc1 : c * T + t < T ^ (k + 1) := by
      rw [Nat.pow_succ]
      have : (c + 1) * T ≤ T ^ k * T := Nat.mul_le_mul_right _ hc
      rw [Nat.add_mul, Nat.one_mul] at this
      omega
    by_cases hf : tFr μ t = u
    · rw [if_pos hf] at hch
      have ef : nI (tFr μ t) = nI u := by rw [hf]
      have hW1 : ∀ i, i < k + 1 → upd W k (nI t) i = nI (dg T (k + 1) (c * T + t) i) := by
        intro i hi
        unfold upd
        by_cases hik : i = k
        · rw [if_pos hik, hik, dg_last T k c t tT]
        · rw [if_neg hik, dg_more T k c t i tT (by omega)]
          exact hW i (by omega)
      obtain ⟨v1, K1, C1, B1, W1, q1, q2, q3, q4, q5, q6, q7⟩ := ih (c * T + t) (tTo μ t) (y * tGt μ t / tGv μ t) v K C B (upd W k (nI t)) hch hc1 hW1 hA h2
      obtain ⟨v', K', C', B', W', z1, z2, z3, z4, z5, z6, z7, z8⟩ := ihr (t + 1) v1 K1 C1 B1 W1 (by omega) q1 (fun g1 g2 => by have := q4 g1 g2; omega) (fun g1 g2 => by
        rcases q5 with ⟨w1, w2, w3⟩ | ⟨w1, w2⟩
        · subst w1 w2 w3; exact h1 g1 g2
        · omega) (fun i hi => by rw [q6 i (by omega), dg_more T k c t i tT hi])
      refine ⟨v', K', C', B', W', z1, Nat.le_trans q2 z2, fun t' g1 g2 j x g3 g4 g5 g6 => ?_, z4, z5, ?_, z7, ?_⟩
      · by_cases htt : t' = t
        · subst htt
          exact Nat.le_trans (q3 j x g3 g4 g5 g6) z2
        · exact z3 t' (by omega) g2 j x g3 g4 g5 g6
      · rcases z6 with ⟨w1, w2, w3⟩ | w
        · subst w1 w2 w3
          rcases q5 with w | ⟨w1, w2⟩
          · exact Or.inl w
          · exact Or.inr ⟨w1, by omega⟩
        · exact Or.inr w
      · have a2 : c_at (QQ σ B (upd W k (nI t)) (eN v) (kk v K)) 9 (nI t) = nI (tTo μ t) := by rw [c_at_n (q := 9) (by show t < 8; omega)]; exact Bt.tC
        have e3 : y * tGt μ t ≤ 99 * 20 ^ 3 * 20 := Nat.mul_le_mul p3 Bt.h2
        have gg := Bt.g1
        have g2 := Bt.g2
        have hR := R_turned D (QQ σ B (upd W k (nI t)) (eN v) (kk v K)) (t := t) (k := y) (g := tGv μ t) (h := tGt μ t) (by omega) (by omega) (by omega) (by omega) Bt.gC Bt.hC
        have pw := QQ_wp σ B W (eN v) (kk v K) (nI t) (k := k) (by omega)
        rw [s_67_23]; simp (decide := true) only [s_67_29, s_67_32, s_67_35, s_67_39, s_67_44, s_67_48, s_67_52, s_67_59, s_67_65, s_67_70, s_67_79, Option.bind_some, x_tlv, x_tln, if_true, if_false, cr_isa, R_at, R_has, R_size, R_put, R_isFull, R_add, R_clear, c_has_eq, c_wa_1, c_wa_2, c_ws_1, c_ws_2, cf_0_0, cf_0_1, cf_0_2, cf_0_3, cf_0_4, cf_0_5, cf_0_6, cf_0_7, cf_0_8, cf_0_9, cf_0_10, cf_0_11, cf_0_12, cf_0_13, cp_0_12, cp_0_13, ci_0, cf_1_0, cf_1_1, cf_1_2, cf_1_3, cf_1_4, cp_1_1, cp_1_2, cp_1_3, cp_1_4, ci_1, cf_4_0, cf_4_1, cf_4_2, cf_4_3, cf_4_4, cf_4_5, cf_4_6, cf_4_7, cf_4_8, cf_4_9, cf_4_10, cp_4_0, cp_4_1, ci_4, cf_23_0, cf_23_1, cf_23_2, cf_23_3, cf_23_4, cf_23_5, cf_23_6, cf_23_7, cf_23_8, cf_23_9, cf_23_10, cp_23_0, cp_23_1, ci_23, cf_42_0, cf_42_1, cf_42_2, cf_42_3, cp_42_2, cp_42_3, ci_42, cf_47_0, cf_47_1, cf_47_2, cp_47_1, cp_47_2, ci_47, cf_50_0, cf_50_1, cf_50_2, ci_50, cf_57_0, cf_57_1, ci_57, cf_62_0, cf_62_1, ci_62, cf_67_0, cf_67_1, cf_67_2, cf_67_3, cf_67_4, cf_67_5, cp_67_1, cp_67_2, ci_67, cf_76_0, cf_76_1, cf_76_2, cf_76_3, cf_76_4, cf_76_5, cp_76_1, cp_76_2, cp_76_3, ci_76, cw, e0, a1, ef, pw, a2, hR, nI_1]
        rw [q7]
        simp (decide := true) only [s_67_86, Option.bind_some, x_tlv, x_tln, if_true, if_false, cr_isa, R_at, R_has, R_size, R_put, R_isFull, R_add, R_clear, c_has_eq, c_wa_1, c_wa_2, c_ws_1, c_ws_2, cf_0_0, cf_0_1, cf_0_2, cf_0_3, cf_0_4, cf_0_5, cf_0_6, cf_0_7, cf_0_8, cf_0_9, cf_0_10, cf_0_11, cf_0_12, cf_0_13, cp_0_12, cp_0_13, ci_0, cf_1_0, cf_1_1, cf_1_2, cf_1_3, cf_1_4, cp_1_1, cp_1_2, cp_1_3, cp_1_4, ci_1, cf_4_0, cf_4_1, cf_4_2, cf_4_3, cf_4_4, cf_4_5, cf_4_6, cf_4_7, cf_4_8, cf_4_9, cf_4_10, cp_4_0, cp_4_1, ci_4, cf_23_0, cf_23_1, cf_23_2, cf_23_3, cf_23_4, cf_23_5, cf_23_6, cf_23_7, cf_23_8, cf_23_9, cf_23_10, cp_23_0, cp_23_1, ci_23, cf_42_0, cf_42_1, cf_42_2, cf_42_3, cp_42_2, cp_42_3, ci_42, cf_47_0, cf_47_1, cf_47_2, cp_47_1, cp_47_2, ci_47, cf_50_0, cf_50_1, cf_50_2, ci_50, cf_57_0, cf_57_1, ci_57, cf_62_0, cf_62_1, ci_62, cf_67_0, cf_67_1, cf_67_2, cf_67_3, cf_67_4, cf_67_5, cp_67_1, cp_67_2, ci_67, cf_76_0, cf_76_1, cf_76_2, cf_76_3, cf_76_4, cf_76_5, cp_76_1, cp_76_2, cp_76_3, ci_76, nI_1]
        exact z8
    · rw [if_neg hf] at hch
      have ef : ¬ nI (tFr μ t) = nI u := fun q => hf ((nI_eq (by omega) (by omega)).mp q)
      obtain ⟨v', K', C', B', W', z1, z2, z3, z4, z5, z6, z7, z8⟩ := ihr (t + 1) v K C B W (by omega) hA (fun g1 g2 => by have := h2 g1 g2; omega) h1 hW
      refine ⟨v', K', C', B', W', z1, z2, fun t' g1 g2 j x g3 g4 g5 g6 => ?_, z4, z5, z6, z7, ?_⟩
      · by_cases htt : t' = t
        · subst htt
          have := pos_none (j - (k + 1)) (k + 1) _ x hch g6
          rw [show k + 1 + (j - (k + 1)) = j by omega] at this
          rw [val_none this, key_0]
          exact Nat.zero_le _
        · exact z3 t' (by omega) g2 j x g3 g4 g5 g6
      · rw [s_67_23]; simp (decide := true) only [s_67_29, s_67_32, s_67_35, s_67_39, s_67_44, s_67_86, Option.bind_some, x_tlv, x_tln, if_true, if_false, cr_isa, R_at, R_has, R_size, R_put, R_isFull, R_add, R_clear, c_has_eq, c_wa_1, c_wa_2, c_ws_1, c_ws_2, cf_0_0, cf_0_1, cf_0_2, cf_0_3, cf_0_4, cf_0_5, cf_0_6, cf_0_7, cf_0_8, cf_0_9, cf_0_10, cf_0_11, cf_0_12, cf_0_13, cp_0_12, cp_0_13, ci_0, cf_1_0, cf_1_1, cf_1_2, cf_1_3, cf_1_4, cp_1_1, cp_1_2, cp_1_3, cp_1_4, ci_1, cf_4_0, cf_4_1, cf_4_2, cf_4_3, cf_4_4, cf_4_5, cf_4_6, cf_4_7, cf_4_8, cf_4_9, cf_4_10, cp_4_0, cp_4_1, ci_4, cf_23_0, cf_23_1, cf_23_2, cf_23_3, cf_23_4, cf_23_5, cf_23_6, cf_23_7, cf_23_8, cf_23_9, cf_23_10, cp_23_0, cp_23_1, ci_23, cf_42_0, cf_42_1, cf_42_2, cf_42_3, cp_42_2, cp_42_3, ci_42, cf_47_0, cf_47_1, cf_47_2, cp_47_1, cp_47_2, ci_47, cf_50_0, cf_50_1, cf_50_2, ci_50, cf_57_0, cf_57_1, ci_57, cf_62_0, cf_62_1, ci_62, cf_67_0, cf_67_1, cf_67_2, cf_67_3, cf_67_4, cf_67_5, cp_67_1, cp_67_2, ci_67, cf_76_0, cf_76_1, cf_76_2, cf_76_3, cf_76_4, cf_76_5, cp_76_1, cp_76_2, cp_76_3, ci_76, cw, e0, a1, ef, nI_1]
        exact z8
theorem C_walk {σ : x_S} {μ : x_U} {U T a b n : Nat} (d : Nat) (hU : U ≤ 6) (hT : T ≤ 8) (c4 : σ.2 7 1 = nI T) (ht : S_tab σ μ U T) (ha : a < U) (hb : b < U) (hn : n ≤ 99) : ∀ m k c, k + m = 4 → WOK σ μ T a b n (d + m + 3) k c := by
  intro m
  induction m with
  | zero =>
    intro k c hk u y v K C B W hp hc hW hA hO
    obtain rfl : k = 4 := by omega
    obtain ⟨p1, p2⟩ := pos_ok hU ht ha hn 4 c u y hc hp
    have hva := Att_le hU ht ha hn hA
    have e4 : ¬ nI 4 < 4 := by decide
    have hvl := val_some (b := b) hp
    by_cases hub : u = b
    · rw [if_pos hub] at hvl
      have eu : nI u = nI b := by rw [hub]
      obtain ⟨v', K', C', B', q1, q2, q3, q4, q5⟩ := C_note (d + 0) σ hT (Nat.le_refl 4) hc hvl (by omega) (by omega) hW hA hO
      refine ⟨v', K', C', B', W, q1, q2, fun j x g1 g2 g3 g4 => ?_, fun g1 g2 => ?_, ?_, hW, ?_⟩
      · obtain rfl : j = 4 := by omega
        rw [Nat.sub_self, Nat.pow_zero, Nat.div_one] at g4
        subst g4
        rw [hvl]; exact q3
      · rcases q4 with ⟨w1, w2, w3⟩ | ⟨w1, w2, w3⟩
        · subst w1 w2 w3; exact Nat.le_of_lt (hO g1 g2)
        · subst w2 w3; rw [Nat.sub_self, Nat.pow_zero, Nat.div_one]; exact Nat.le_refl _
      · rcases q4 with w | ⟨w1, w2, w3⟩
        · exact Or.inl w
        · exact Or.inr ⟨w1, by omega⟩
      · simp (decide := true) only [r_67, s_67_0, s_67_5, Option.bind_some, x_tlv, x_tln, if_true, if_false, cr_isa, R_at, R_has, R_size, R_put, R_isFull, R_add, R_clear, c_has_eq, c_wa_1, c_wa_2, c_ws_1, c_ws_2, cf_0_0, cf_0_1, cf_0_2, cf_0_3, cf_0_4, cf_0_5, cf_0_6, cf_0_7, cf_0_8, cf_0_9, cf_0_10, cf_0_11, cf_0_12, cf_0_13, cp_0_12, cp_0_13, ci_0, cf_1_0, cf_1_1, cf_1_2, cf_1_3, cf_1_4, cp_1_1, cp_1_2, cp_1_3, cp_1_4, ci_1, cf_4_0, cf_4_1, cf_4_2, cf_4_3, cf_4_4, cf_4_5, cf_4_6, cf_4_7, cf_4_8, cf_4_9, cf_4_10, cp_4_0, cp_4_1, ci_4, cf_23_0, cf_23_1, cf_23_2, cf_23_3, cf_23_4, cf_23_5, cf_23_6, cf_23_7, cf_23_8, cf_23_9, cf_23_10, cp_23_0, cp_23_1, ci_23, cf_42_0, cf_42_1, cf_42_2, cf_42_3, cp_42_2, cp_42_3, ci_42, cf_47_0, cf_47_1, cf_47_2, cp_47_1, cp_47_2, ci_47, cf_50_0, cf_50_1, cf_50_2, ci_50, cf_57_0, cf_57_1, ci_57, cf_62_0, cf_62_1, ci_62, cf_67_0, cf_67_1, cf_67_2, cf_67_3, cf_67_4, cf_67_5, cp_67_1, cp_67_2, ci_67, cf_76_0, cf_76_1, cf_76_2, cf_76_3, cf_76_4, cf_76_5, cp_76_1, cp_76_2, cp_76_3, ci_76, eu]
        rw [q5]
        simp (decide := true) only [s_67_13, s_67_19, Option.bind_some, x_tlv, x_tln, if_true, if_false, cr_isa, R_at, R_has, R_size, R_put, R_isFull, R_add, R_clear, c_has_eq, c_wa_1, c_wa_2, c_ws_1, c_ws_2, cf_0_0, cf_0_1, cf_0_2, cf_0_3, cf_0_4, cf_0_5, cf_0_6, cf_0_7, cf_0_8, cf_0_9, cf_0_10, cf_0_11, cf_0_12, cf_0_13, cp_0_12, cp_0_13, ci_0, cf_1_0, cf_1_1, cf_1_2, cf_1_3, cf_1_4, cp_1_1, cp_1_2, cp_1_3, cp_1_4, ci_1, cf_4_0, cf_4_1, cf_4_2, cf_4_3, cf_4_4, cf_4_5, cf_4_6, cf_4_7, cf_4_8, cf_4_9, cf_4_10, cp_4_0, cp_4_1, ci_4, cf_23_0, cf_23_1, cf_23_2, cf_23_3, cf_23_4, cf_23_5, cf_23_6, cf_23_7, cf_23_8, cf_23_9, cf_23_10, cp_23_0, cp_23_1, ci_23, cf_42_0, cf_42_1, cf_42_2, cf_42_3, cp_42_2, cp_42_3, ci_42, cf_47_0, cf_47_1, cf_47_2, cp_47_1, cp_47_2, ci_47, cf_50_0, cf_50_1, cf_50_2, ci_50, cf_57_0, cf_57_1, ci_57, cf_62_0, cf_62_1, ci_62, cf_67_0, cf_67_1, cf_67_2, cf_67_3, cf_67_4, cf_67_5, cp_67_1, cp_67_2, ci_67, cf_76_0, cf_76_1, cf_76_2, cf_76_3, cf_76_4, cf_76_5, cp_76_1, cp_76_2, cp_76_3, ci_76, e4]
    · rw [if_neg hub] at hvl
      have eu : ¬ nI u = nI b := fun q => hub ((nI_eq (by omega) (by omega)).mp q)
      refine ⟨v, K, C, B, W, hA, Nat.le_refl _, fun j x g1 g2 g3 g4 => ?_, fun g1 g2 => Nat.le_of_lt (hO g1 g2), Or.inl ⟨rfl, rfl, rfl⟩, hW, ?_⟩
      · obtain rfl : j = 4 := by omega
        rw [Nat.sub_self, Nat.pow_zero, Nat.div_one] at g4
        subst g4
        rw [hvl, key_0]; exact Nat.zero_le _
      · simp (decide := true) only [r_67, s_67_0, s_67_13, s_67_19, Option.bind_some, x_tlv, x_tln, if_true, if_false, cr_isa, R_at, R_has, R_size, R_put, R_isFull, R_add, R_clear, c_has_eq, c_wa_1, c_wa_2, c_ws_1, c_ws_2, cf_0_0, cf_0_1, cf_0_2, cf_0_3, cf_0_4, cf_0_5, cf_0_6, cf_0_7, cf_0_8, cf_0_9, cf_0_10, cf_0_11, cf_0_12, cf_0_13, cp_0_12, cp_0_13, ci_0, cf_1_0, cf_1_1, cf_1_2, cf_1_3, cf_1_4, cp_1_1, cp_1_2, cp_1_3, cp_1_4, ci_1, cf_4_0, cf_4_1, cf_4_2, cf_4_3, cf_4_4, cf_4_5, cf_4_6, cf_4_7, cf_4_8, cf_4_9, cf_4_10, cp_4_0, cp_4_1, ci_4, cf_23_0, cf_23_1, cf_23_2, cf_23_3, cf_23_4, cf_23_5, cf_23_6, cf_23_7, cf_23_8, cf_23_9, cf_23_10, cp_23_0, cp_23_1, ci_23, cf_42_0, cf_42_1, cf_42_2, cf_42_3, cp_42_2, cp_42_3, ci_42, cf_47_0, cf_47_1, cf_47_2, cp_47_1, cp_47_2, ci_47, cf_50_0, cf_50_1, cf_50_2, ci_50, cf_57_0, cf_57_1, ci_57, cf_62_0, cf_62_1, ci_62, cf_67_0, cf_67_1, cf_67_2, cf_67_3, cf_67_4, cf_67_5, cp_67_1, cp_67_2, ci_67, cf_76_0, cf_76_1, cf_76_2, cf_76_3, cf_76_4, cf_76_5, cp_76_1, cp_76_2, cp_76_3, ci_76, eu, e4]
  | succ m ih =>
    intro k c hk u y v K C B W hp hc hW hA hO
    obtain ⟨p1, p2⟩ := pos_ok hU ht ha hn k c u y hc hp
    have p3 := pow_y (k := k) (by omega)
    have hva := Att_le hU ht ha hn hA
    have e4 : nI k < 4 := nI_lt (b := 4) (by omega) (by omega)
    have hvl := val_some (b := b) hp
    have hTp : ∀ {X K : Nat}, k + 1 ≤ K → X < T ^ K → 0 < T := by
      intro X K h1 h2
      rcases Nat.eq_zero_or_pos T with h0 | h0
      · obtain ⟨s, rfl⟩ : ∃ s, K = s + 1 := ⟨K - 1, by omega⟩
        subst h0
        rw [Nat.pow_succ, Nat.mul_zero] at h2
        omega
      · exact h0
    -- the state behind the note
    have note : ∃ v' K' C' B', Att μ T a b n v' K' C' B' ∧ key v K C ≤ key v' K' C' ∧ key (val μ T a b n k c) k c ≤ key v' K' C' ∧ ((v' = v ∧ K' = K ∧ C' = C) ∨ (v' ≠ 0 ∧ K' = k ∧ C' = c)) ∧ x_R x_P (d + m + 3 + 1) 67 [.ref 67, .ref 4, .int (nI u), .int (nI b), .int (nI y), .int (nI k)] (CG (QQ σ B W (eN v) (kk v K))) = x_E x_P (d + m + 3) x_c67 23 [.ref 67, .ref 4, .int (nI u), .int (nI b), .int (nI y), .int (nI k), .int (nI 0)] [] (CG (QQ σ B' W (eN v') (kk v' K'))) := by
      by_cases hub : u = b
      · rw [if_pos hub] at hvl
        have eu : nI u = nI b := by rw [hub]
        obtain ⟨v', K', C', B', q1, q2, q3, q4, q5⟩ := C_note (d + m + 1) σ hT (by omega) hc hvl (by omega) (by omega) hW hA hO
        refine ⟨v', K', C', B', q1, q2, by rw [hvl]; exact q3, q4, ?_⟩
        simp (decide := true) only [r_67, s_67_0, s_67_5, Option.bind_some, x_tlv, x_tln, if_true, if_false, cr_isa, R_at, R_has, R_size, R_put, R_isFull, R_add, R_clear, c_has_eq, c_wa_1, c_wa_2, c_ws_1, c_ws_2, cf_0_0, cf_0_1, cf_0_2, cf_0_3, cf_0_4, cf_0_5, cf_0_6, cf_0_7, cf_0_8, cf_0_9, cf_0_10, cf_0_11, cf_0_12, cf_0_13, cp_0_12, cp_0_13, ci_0, cf_1_0, cf_1_1, cf_1_2, cf_1_3, cf_1_4, cp_1_1, cp_1_2, cp_1_3, cp_1_4, ci_1, cf_4_0, cf_4_1, cf_4_2, cf_4_3, cf_4_4, cf_4_5, cf_4_6, cf_4_7, cf_4_8, cf_4_9, cf_4_10, cp_4_0, cp_4_1, ci_4, cf_23_0, cf_23_1, cf_23_2, cf_23_3, cf_23_4, cf_23_5, cf_23_6, cf_23_7, cf_23_8, cf_23_9, cf_23_10, cp_23_0, cp_23_1, ci_23, cf_42_0, cf_42_1, cf_42_2, cf_42_3, cp_42_2, cp_42_3, ci_42, cf_47_0, cf_47_1, cf_47_2, cp_47_1, cp_47_2, ci_47, cf_50_0, cf_50_1, cf_50_2, ci_50, cf_57_0, cf_57_1, ci_57, cf_62_0, cf_62_1, ci_62, cf_67_0, cf_67_1, cf_67_2, cf_67_3, cf_67_4, cf_67_5, cp_67_1, cp_67_2, ci_67, cf_76_0, cf_76_1, cf_76_2, cf_76_3, cf_76_4, cf_76_5, cp_76_1, cp_76_2, cp_76_3, ci_76, eu]
        rw [q5]
        simp (decide := true) only [s_67_13, s_67_20, Option.bind_some, x_tlv, x_tln, if_true, if_false, cr_isa, R_at, R_has, R_size, R_put, R_isFull, R_add, R_clear, c_has_eq, c_wa_1, c_wa_2, c_ws_1, c_ws_2, cf_0_0, cf_0_1, cf_0_2, cf_0_3, cf_0_4, cf_0_5, cf_0_6, cf_0_7, cf_0_8, cf_0_9, cf_0_10, cf_0_11, cf_0_12, cf_0_13, cp_0_12, cp_0_13, ci_0, cf_1_0, cf_1_1, cf_1_2, cf_1_3, cf_1_4, cp_1_1, cp_1_2, cp_1_3, cp_1_4, ci_1, cf_4_0, cf_4_1, cf_4_2, cf_4_3, cf_4_4, cf_4_5, cf_4_6, cf_4_7, cf_4_8, cf_4_9, cf_4_10, cp_4_0, cp_4_1, ci_4, cf_23_0, cf_23_1, cf_23_2, cf_23_3, cf_23_4, cf_23_5, cf_23_6, cf_23_7, cf_23_8, cf_23_9, cf_23_10, cp_23_0, cp_23_1, ci_23, cf_42_0, cf_42_1, cf_42_2, cf_42_3, cp_42_2, cp_42_3, ci_42, cf_47_0, cf_47_1, cf_47_2, cp_47_1, cp_47_2, ci_47, cf_50_0, cf_50_1, cf_50_2, ci_50, cf_57_0, cf_57_1, ci_57, cf_62_0, cf_62_1, ci_62, cf_67_0, cf_67_1, cf_67_2, cf_67_3, cf_67_4, cf_67_5, cp_67_1, cp_67_2, ci_67, cf_76_0, cf_76_1, cf_76_2, cf_76_3, cf_76_4, cf_76_5, cp_76_1, cp_76_2, cp_76_3, ci_76, e4]
        rfl
      · rw [if_neg hub] at hvl
        have eu : ¬ nI u = nI b := fun q => hub ((nI_eq (by omega) (by omega)).mp q)
        refine ⟨v, K, C, B, hA, Nat.le_refl _, by rw [hvl, key_0]; exact Nat.zero_le _, Or.inl ⟨rfl, rfl, rfl⟩, ?_⟩
        simp (decide := true) only [r_67, s_67_0, s_67_13, s_67_20, Option.bind_some, x_tlv, x_tln, if_true, if_false, cr_isa, R_at, R_has, R_size, R_put, R_isFull, R_add, R_clear, c_has_eq, c_wa_1, c_wa_2, c_ws_1, c_ws_2, cf_0_0, cf_0_1, cf_0_2, cf_0_3, cf_0_4, cf_0_5, cf_0_6, cf_0_7, cf_0_8, cf_0_9, cf_0_10, cf_0_11, cf_0_12, cf_0_13, cp_0_12, cp_0_13, ci_0, cf_1_0, cf_1_1, cf_1_2, cf_1_3, cf_1_4, cp_1_1, cp_1_2, cp_1_3, cp_1_4, ci_1, cf_4_0, cf_4_1, cf_4_2, cf_4_3, cf_4_4, cf_4_5, cf_4_6, cf_4_7, cf_4_8, cf_4_9, cf_4_10, cp_4_0, cp_4_1, ci_4, cf_23_0, cf_23_1, cf_23_2, cf_23_3, cf_23_4, cf_23_5, cf_23_6, cf_23_7, cf_23_8, cf_23_9, cf_23_10, cp_23_0, cp_23_1, ci_23, cf_42_0, cf_42_1, cf_42_2, cf_42_3, cp_42_2, cp_42_3, ci_42, cf_47_0, cf_47_1, cf_47_2, cp_47_1, cp_47_2, ci_47, cf_50_0, cf_50_1, cf_50_2, ci_50, cf_57_0, cf_57_1, ci_57, cf_62_0, cf_62_1, ci_62, cf_67_0, cf_67_1, cf_67_2, cf_67_3, cf_67_4, cf_67_5, cp_67_1, cp_67_2, ci_67, cf_76_0, cf_76_1, cf_76_2, cf_76_3, cf_76_4, cf_76_5, cp_76_1, cp_76_2, cp_76_3, ci_76, eu, e4]
        rfl
    obtain ⟨v1, K1, C1, B1, q1, q2, q3, q4, q5⟩ := note
    obtain ⟨v', K', C', B', W', z1, z2, z3, z4, z5, z6, z7, z8⟩ := C_wl (D := d + m + 1) hU hT c4 ht ha hn (by omega) hc hp (fun c' => ih (k + 1) c' (by omega)) T 0 v1 K1 C1 B1 W (by omega) q1 (fun g1 g2 => by
      rcases q4 with ⟨w1, w2, w3⟩ | ⟨w1, w2, w3⟩
      · subst w1 w2 w3
        rcases hA with hA' | ⟨-, -, a3, -⟩
        · exact absurd hA' g1
        · have h := hO g1 (by omega)
          rw [show K1 - k = (K1 - (k + 1)) + 1 by omega] at h
          have := dv_2 (hTp g2 a3) h
          omega
      · omega) (fun g1 g2 => by
      rcases q4 with ⟨w1, w2, w3⟩ | ⟨w1, w2, w3⟩
      · subst w1 w2 w3
        have h := hO g1 (by omega)
        rw [g2, Nat.sub_self, Nat.pow_zero, Nat.div_one] at h
        omega
      · omega) hW
    refine ⟨v', K', C', B', W', z1, Nat.le_trans q2 z2, fun j x g1 g2 g3 g4 => ?_, fun g1 g2 => ?_, ?_, z7, q5.trans z8⟩
    · by_cases hjk : j = k
      · subst hjk
        rw [Nat.sub_self, Nat.pow_zero, Nat.div_one] at g4
        subst g4
        exact Nat.le_trans q3 z2
      · rw [show j - k = (j - (k + 1)) + 1 by omega] at g4
        obtain ⟨t', t1, t2⟩ := dv_1 (hTp (by omega) g3) g4
        exact z3 t' (Nat.zero_le _) t1 j x (by omega) g2 g3 t2
    · by_cases hKk : K' = k
      · rw [hKk, Nat.sub_self, Nat.pow_zero, Nat.div_one]
        exact z5 g1 hKk
      · rcases z1 with z1 | ⟨-, -, a3, -⟩
        · exact absurd z1 g1
        · rw [show K' - k = (K' - (k + 1)) + 1 by omega]
          exact dv_3 (hTp (by omega) a3) (z4 g1 (by omega))
    · rcases z6 with ⟨w1, w2, w3⟩ | w
      · subst w1 w2 w3
        rcases q4 with w | ⟨w1, w2, w3⟩
        · exact Or.inl w
        · exact Or.inr ⟨w1, by omega⟩
      · exact Or.inr w
