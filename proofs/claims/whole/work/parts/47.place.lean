/-! cutting: the class places -/
def KK (σ : x_S) (B H R : Nat → Int32) (f t : Int32) : x_S := c_ws (c_ws (c_wa (c_wa (c_wa σ 78 B) 80 H) 82 R) 76 1 f) 76 2 t
theorem KK_B (σ : x_S) (B H R g : Nat → Int32) (f t : Int32) : c_wa (KK σ B H R f t) 78 g = KK σ g H R f t := by
  unfold KK
  show c_ws (c_ws (c_wa (c_wa (c_wa (c_wa σ 78 B) 80 H) 82 R) 78 g) 76 1 f) 76 2 t = _
  rw [c_wa_cm (a := 82) (b := 78) _ (by decide), c_wa_cm (a := 80) (b := 78) _ (by decide), c_wa_wa]
theorem KK_H (σ : x_S) (B H R g : Nat → Int32) (f t : Int32) : c_wa (KK σ B H R f t) 80 g = KK σ B g R f t := by
  unfold KK
  show c_ws (c_ws (c_wa (c_wa (c_wa (c_wa σ 78 B) 80 H) 82 R) 80 g) 76 1 f) 76 2 t = _
  rw [c_wa_cm (a := 82) (b := 80) _ (by decide), c_wa_wa]
theorem KK_R (σ : x_S) (B H R g : Nat → Int32) (f t : Int32) : c_wa (KK σ B H R f t) 82 g = KK σ B H g f t := by
  unfold KK
  show c_ws (c_ws (c_wa (c_wa (c_wa (c_wa σ 78 B) 80 H) 82 R) 82 g) 76 1 f) 76 2 t = _
  rw [c_wa_wa]
theorem KK_ft (σ : x_S) (B H R : Nat → Int32) (f t f' t' : Int32) : c_ws (c_ws (KK σ B H R f t) 76 1 f') 76 2 t' = KK σ B H R f' t' := by
  unfold KK
  rw [c_ws_cm _ 76 1 2 (by decide), c_ws_ws, c_ws_cm _ 76 2 1 (by decide), c_ws_ws]
theorem KK_bp (σ : x_S) (B H R : Nat → Int32) (f t v : Int32) {k : Nat} (h : k < 6) : c_pt (KK σ B H R f t) 77 (nI k) v = KK σ (upd B k v) H R f t := by rw [c_pt_n (q := 77) (by show k < 6; omega)]; exact KK_B σ B H R _ f t
theorem KK_hp (σ : x_S) (B H R : Nat → Int32) (f t v : Int32) {k : Nat} (h : k < 6) : c_pt (KK σ B H R f t) 79 (nI k) v = KK σ B (upd H k v) R f t := by rw [c_pt_n (q := 79) (by show k < 6; omega)]; exact KK_H σ B H R _ f t
theorem KK_rp (σ : x_S) (B H R : Nat → Int32) (f t v : Int32) {k : Nat} (h : k < 6) : c_pt (KK σ B H R f t) 81 (nI k) v = KK σ B H (upd R k v) f t := by rw [c_pt_n (q := 81) (by show k < 6; omega)]; exact KK_R σ B H R _ f t
theorem KK_ba (σ : x_S) (B H R : Nat → Int32) (f t : Int32) {k : Nat} (h : k < 6) : c_at (KK σ B H R f t) 77 (nI k) = B k := by rw [c_at_n (q := 77) (by show k < 6; omega)]; rfl
theorem KK_ha (σ : x_S) (B H R : Nat → Int32) (f t : Int32) {k : Nat} (h : k < 6) : c_at (KK σ B H R f t) 79 (nI k) = H k := by rw [c_at_n (q := 79) (by show k < 6; omega)]; rfl
theorem KK_ra (σ : x_S) (B H R : Nat → Int32) (f t : Int32) {k : Nat} (h : k < 6) : c_at (KK σ B H R f t) 81 (nI k) = R k := by rw [c_at_n (q := 81) (by show k < 6; omega)]; rfl
theorem KK_la (σ : x_S) (B H R : Nat → Int32) (f t : Int32) {k : Nat} (h : k < 6) : c_at (KK σ B H R f t) 43 (nI k) = σ.1 44 k := by rw [c_at_n (q := 43) (by show k < 6; omega)]; rfl
theorem KK_1 (σ : x_S) (B H R : Nat → Int32) (f t : Int32) : (KK σ B H R f t).2 76 1 = f := rfl
theorem KK_2 (σ : x_S) (B H R : Nat → Int32) (f t : Int32) : (KK σ B H R f t).2 76 2 = t := rfl
def fd (v : Nat) : Int32 := if v = 0 then 0 else 1
/-- how much a want takes -/
def wI (μ : x_U) (N k : Nat) : Nat := if k < N then X (μ.1 1 (62 + k)) * X (μ.1 1 (6 + X (μ.1 1 (56 + k)))) else 1
def wL (μ : x_U) (p : Nat) : Nat := if p < 6 then X (μ.1 3 p) else 0
theorem wI_ok {σ : x_S} {μ : x_U} {U N k : Nat} (hU : U ≤ 6) (hu : S_use σ μ U) (hw : S_wan σ μ U N) (hk : k < N) : ∃ w y a, a < U ∧ σ.1 20 k = nI a ∧ μ.1 1 (56 + k) = nI a ∧ σ.1 22 k = nI w ∧ μ.1 1 (62 + k) = nI w ∧ σ.1 6 a = nI y ∧ μ.1 1 (6 + a) = nI y ∧ 1 ≤ w ∧ w ≤ 20 ∧ 1 ≤ y ∧ y ≤ 99 ∧ wI μ N k = w * y := by
  obtain ⟨⟨a1, a2⟩, ⟨b1, b2⟩⟩ := hw k hk
  obtain ⟨a3, a4⟩ := Rl_x a2 (by omega)
  obtain ⟨b3, b4, b5⟩ := Rg_x b2 (by omega)
  obtain ⟨c1, c2⟩ := hu _ a4
  obtain ⟨c3, c4, c5⟩ := Rg_x c2 (by omega)
  exact ⟨_, _, _, a4, a1.trans a3, a3, b1.trans b3, b3, c1.trans c3, c3, b4, b5, c4, c5, if_pos hk⟩
theorem wI_1 {σ : x_S} {μ : x_U} {U N : Nat} (hU : U ≤ 6) (hu : S_use σ μ U) (hw : S_wan σ μ U N) (k : Nat) : 1 ≤ wI μ N k := by
  by_cases hk : k < N
  · obtain ⟨w, y, a, -, -, -, -, -, -, -, h1, h2, h3, h4, h5⟩ := wI_ok hU hu hw hk
    rw [h5]
    exact Nat.mul_le_mul h1 h3
  · unfold wI
    rw [if_neg hk]; exact Nat.le_refl _
theorem wI_le {σ : x_S} {μ : x_U} {U N : Nat} (hU : U ≤ 6) (hu : S_use σ μ U) (hw : S_wan σ μ U N) (k : Nat) : wI μ N k ≤ 1980 := by
  by_cases hk : k < N
  · obtain ⟨w, y, a, -, -, -, -, -, -, -, h1, h2, h3, h4, h5⟩ := wI_ok hU hu hw hk
    rw [h5]
    exact Nat.mul_le_mul h2 h4
  · unfold wI
    rw [if_neg hk]; omega
theorem wL_ok {σ : x_S} {μ : x_U} {U P : Nat} (hP : P ≤ 6) (nb : blk P U (n14 σ) (μ.1 3)) : (∀ p, p < P → σ.1 44 p = nI (wL μ p)) ∧ (∀ p, p < 6 → μ.1 3 p = nI (wL μ p)) ∧ ∀ p, wL μ p ≤ 9999 := by
  have h2 : ∀ p, p < 6 → μ.1 3 p = nI (wL μ p) ∧ wL μ p ≤ 9999 := by
    intro p hp
    unfold wL
    rw [if_pos hp]
    by_cases hpP : p < P
    · obtain ⟨a1, a2, a3⟩ := Rg_x (nb.1 p hpP).2.1 (by omega)
      exact ⟨a1, a3⟩
    · have := nb.2.2.2 p (by omega) hp
      rw [this]
      exact ⟨rfl, by decide⟩
  refine ⟨fun p hp => ?_, fun p hp => (h2 p hp).1, fun p => ?_⟩
  · have := (nb.1 p hp).1
    rw [n14_l σ (by omega)] at this
    rw [this]; exact (h2 p (by omega)).1
  · by_cases hp : p < 6
    · exact (h2 p hp).2
    · unfold wL
      rw [if_neg hp]; omega
theorem R_inch {σ : x_S} {μ : x_U} {U N k : Nat} (d : Nat) (hU : U ≤ 6) (hN : N ≤ 6) (hu : S_use σ μ U) (hw : S_wan σ μ U N) (hk : k < N) (B H R : Nat → Int32) (f t : Int32) : x_R x_P (d + 2) 64 [.ref 4, .int (nI k)] (CG (KK σ B H R f t)) = some (some (.int (nI (wI μ N k))), CG (KK σ B H R f t)) := by
  obtain ⟨w, y, a, h0, h1, h2, h3, h4, h5, h6, -, -, -, -, h7⟩ := wI_ok hU hu hw hk
  have a1 : c_at (KK σ B H R f t) 19 (nI k) = nI a := by rw [c_at_n (q := 19) (by show k < 6; omega)]; exact h1
  have a2 : c_at (KK σ B H R f t) 21 (nI k) = nI w := by rw [c_at_n (q := 21) (by show k < 6; omega)]; exact h3
  have a3 : c_at (KK σ B H R f t) 5 (nI a) = nI y := by rw [c_at_n (q := 5) (by show a < 6; omega)]; exact h5
  simp (decide := true) only [r_64, s_64_0, s_64_4, s_64_8, s_64_12, s_64_16, s_64_20, s_64_23, Option.bind_some, x_tlv, x_tln, if_true, if_false, cr_isa, R_at, R_has, R_size, R_put, R_isFull, R_add, R_clear, c_has_eq, c_wa_1, c_wa_2, c_ws_1, c_ws_2, cf_0_0, cf_0_1, cf_0_2, cf_0_3, cf_0_4, cf_0_5, cf_0_6, cf_0_7, cf_0_8, cf_0_9, cf_0_10, cf_0_11, cf_0_12, cf_0_13, cp_0_12, cp_0_13, ci_0, cf_1_0, cf_1_1, cf_1_2, cf_1_3, cf_1_4, cp_1_1, cp_1_2, cp_1_3, cp_1_4, ci_1, cf_4_0, cf_4_1, cf_4_2, cf_4_3, cf_4_4, cf_4_5, cf_4_6, cf_4_7, cf_4_8, cf_4_9, cf_4_10, cp_4_0, cp_4_1, ci_4, cf_23_0, cf_23_1, cf_23_2, cf_23_3, cf_23_4, cf_23_5, cf_23_6, cf_23_7, cf_23_8, cf_23_9, cf_23_10, cp_23_0, cp_23_1, ci_23, cf_42_0, cf_42_1, cf_42_2, cf_42_3, cp_42_2, cp_42_3, ci_42, cf_47_0, cf_47_1, cf_47_2, cp_47_1, cp_47_2, ci_47, cf_50_0, cf_50_1, cf_50_2, ci_50, cf_57_0, cf_57_1, ci_57, cf_62_0, cf_62_1, ci_62, cf_67_0, cf_67_1, cf_67_2, cf_67_3, cf_67_4, cf_67_5, cp_67_1, cp_67_2, ci_67, cf_76_0, cf_76_1, cf_76_2, cf_76_3, cf_76_4, cf_76_5, cp_76_1, cp_76_2, cp_76_3, ci_76, a1, a2, a3, pk_mul]
  rw [h7]
theorem E_cp18 (d : Nat) (σ : x_S) (H R : Nat → Int32) (f t tc : Int32) {k : Nat} (hk : k ≤ 6) : ∀ m i (B : Nat → Int32), i + m = k → (∀ j, j < i → B j = H j) → ∃ B', (∀ j, j < k → B' j = H j) ∧ x_E x_P (d + 1) x_c18 12 [.ref 76, .int (nI k), .int tc, .int (nI i)] [] (CG (KK σ B H R f t)) = some (none, CG (KK σ B' H R f t)) := by
  intro m
  induction m with
  | zero =>
    intro i B hi hB
    obtain rfl : i = k := by omega
    exact ⟨B, hB, by rw [s_18_12, if_pos (Int32.le_refl _), s_18_39]⟩
  | succ m ih =>
    intro i B hi hB
    have e : ¬ nI k ≤ nI i := nI_ge (by omega) (by omega)
    obtain ⟨B', j1, j2⟩ := ih (i + 1) (upd B i (H i)) (by omega) (fun j hj => by
      unfold upd
      by_cases h : j = i
      · rw [if_pos h, h]
      · rw [if_neg h]; exact hB j (by omega))
    refine ⟨B', j1, ?_⟩
    have a1 := KK_ha σ B H R f t (k := i) (by omega)
    have p1 := KK_bp σ B H R f t (H i) (k := i) (by omega)
    rw [s_18_12, if_neg e]
    simp (decide := true) only [s_18_17, s_18_21, s_18_26, s_18_30, s_18_33, Option.bind_some, x_tlv, x_tln, if_true, if_false, cr_isa, R_at, R_has, R_size, R_put, R_isFull, R_add, R_clear, c_has_eq, c_wa_1, c_wa_2, c_ws_1, c_ws_2, cf_0_0, cf_0_1, cf_0_2, cf_0_3, cf_0_4, cf_0_5, cf_0_6, cf_0_7, cf_0_8, cf_0_9, cf_0_10, cf_0_11, cf_0_12, cf_0_13, cp_0_12, cp_0_13, ci_0, cf_1_0, cf_1_1, cf_1_2, cf_1_3, cf_1_4, cp_1_1, cp_1_2, cp_1_3, cp_1_4, ci_1, cf_4_0, cf_4_1, cf_4_2, cf_4_3, cf_4_4, cf_4_5, cf_4_6, cf_4_7, cf_4_8, cf_4_9, cf_4_10, cp_4_0, cp_4_1, ci_4, cf_23_0, cf_23_1, cf_23_2, cf_23_3, cf_23_4, cf_23_5, cf_23_6, cf_23_7, cf_23_8, cf_23_9, cf_23_10, cp_23_0, cp_23_1, ci_23, cf_42_0, cf_42_1, cf_42_2, cf_42_3, cp_42_2, cp_42_3, ci_42, cf_47_0, cf_47_1, cf_47_2, cp_47_1, cp_47_2, ci_47, cf_50_0, cf_50_1, cf_50_2, ci_50, cf_57_0, cf_57_1, ci_57, cf_62_0, cf_62_1, ci_62, cf_67_0, cf_67_1, cf_67_2, cf_67_3, cf_67_4, cf_67_5, cp_67_1, cp_67_2, ci_67, cf_76_0, cf_76_1, cf_76_2, cf_76_3, cf_76_4, cf_76_5, cp_76_1, cp_76_2, cp_76_3, ci_76, a1, p1, nI_1]
    exact j2
theorem R_note2 (d : Nat) (σ : x_S) (B H R : Nat → Int32) (f t tc : Int32) {k : Nat} (hk : k ≤ 6) : ∃ B', (∀ j, j < k → B' j = H j) ∧ x_R x_P (d + 2) 18 [.ref 76, .int (nI k), .int tc] (CG (KK σ B H R f t)) = some (none, CG (KK σ B' H R 1 tc)) := by
  obtain ⟨B', j1, j2⟩ := E_cp18 d σ H R 1 tc tc hk k 0 B (by omega) (fun j hj => absurd hj (Nat.not_lt_zero j))
  refine ⟨B', j1, ?_⟩
  simp (decide := true) only [r_18, s_18_0, s_18_5, s_18_10, Option.bind_some, x_tlv, x_tln, if_true, if_false, cr_isa, R_at, R_has, R_size, R_put, R_isFull, R_add, R_clear, c_has_eq, c_wa_1, c_wa_2, c_ws_1, c_ws_2, cf_0_0, cf_0_1, cf_0_2, cf_0_3, cf_0_4, cf_0_5, cf_0_6, cf_0_7, cf_0_8, cf_0_9, cf_0_10, cf_0_11, cf_0_12, cf_0_13, cp_0_12, cp_0_13, ci_0, cf_1_0, cf_1_1, cf_1_2, cf_1_3, cf_1_4, cp_1_1, cp_1_2, cp_1_3, cp_1_4, ci_1, cf_4_0, cf_4_1, cf_4_2, cf_4_3, cf_4_4, cf_4_5, cf_4_6, cf_4_7, cf_4_8, cf_4_9, cf_4_10, cp_4_0, cp_4_1, ci_4, cf_23_0, cf_23_1, cf_23_2, cf_23_3, cf_23_4, cf_23_5, cf_23_6, cf_23_7, cf_23_8, cf_23_9, cf_23_10, cp_23_0, cp_23_1, ci_23, cf_42_0, cf_42_1, cf_42_2, cf_42_3, cp_42_2, cp_42_3, ci_42, cf_47_0, cf_47_1, cf_47_2, cp_47_1, cp_47_2, ci_47, cf_50_0, cf_50_1, cf_50_2, ci_50, cf_57_0, cf_57_1, ci_57, cf_62_0, cf_62_1, ci_62, cf_67_0, cf_67_1, cf_67_2, cf_67_3, cf_67_4, cf_67_5, cp_67_1, cp_67_2, ci_67, cf_76_0, cf_76_1, cf_76_2, cf_76_3, cf_76_4, cf_76_5, cp_76_1, cp_76_2, cp_76_3, ci_76, KK_ft]
  exact j2
def POK (σ : x_S) (L I : Nat → Nat) (P N D k c : Nat) : Prop := ∀ (R : Nat → Nat) tc v C (bt : Int32) (B H Rs : Nat → Int32), pl L I P k c = some (R, tc) → c < P ^ k → (∀ i, i < k → H i = nI (dg P k c i)) → (∀ p, p < P → Rs p = nI (R p)) → At2 L I P N v C B → (v ≠ 0 → bt = nI (60000 - v)) → (v ≠ 0 → C / P ^ (N - k) < c) → ∃ v' C' bt' B' H' Rs', At2 L I P N v' C' B' ∧ (v' ≠ 0 → bt' = nI (60000 - v')) ∧ ck v C ≤ ck v' C' ∧ (∀ x, x < P ^ N → x / P ^ (N - k) = c → ck (cv L I P N x) x ≤ ck v' C') ∧ (v' ≠ 0 → C' / P ^ (N - k) ≤ c) ∧ (∀ i, i < k → H' i = nI (dg P k c i)) ∧ (∀ p, p < P → Rs' p = nI (R p)) ∧ x_R x_P D 17 [.ref 76, .ref 4, .ref 43, .int (nI k), .int (nI tc)] (CG (KK σ B H Rs (fd v) bt)) = some (none, CG (KK σ B' H' Rs' (fd v') bt'))
theorem cv_le (L I : Nat → Nat) (P N c : Nat) : cv L I P N c ≤ 60000 := by
  cases h : pl L I P N c with
  | none => rw [cv_none h]; omega
  | some s =>
    obtain ⟨R, tc⟩ := s
    rw [cv_some h]; omega
theorem At2_le {L I : Nat → Nat} {P N v C : Nat} {B : Nat → Int32} (h : At2 L I P N v C B) : v ≤ 60000 := by
  rcases h with h | ⟨h, -, -⟩
  · omega
  · rw [h]; exact cv_le L I P N C
theorem C_plw {σ : x_S} {μ : x_U} {U P N k c D : Nat} {R : Nat → Nat} {tc : Nat} (hU : U ≤ 6) (hP : P ≤ 6) (hN : N ≤ 6) (hk : k < N) (n1 : σ.2 43 1 = nI P) (hu : S_use σ μ U) (hw : S_wan σ μ U N) (hL : ∀ p, p < P → σ.1 44 p = nI (wL μ p)) (hL2 : ∀ p, wL μ p ≤ 9999) (hc : c < P ^ k) (hp : pl (wL μ) (wI μ N) P k c = some (R, tc)) (ih : ∀ c, POK σ (wL μ) (wI μ N) P N (D + 2) (k + 1) c) : ∀ r t v C (bt : Int32) (B H Rs : Nat → Int32) (j0 k0 : Value), t + r = P → (∀ i, i < k → H i = nI (dg P k c i)) → (∀ p, p < P → Rs p = nI (R p)) → At2 (wL μ) (wI μ N) P N v C B → (v ≠ 0 → bt = nI (60000 - v)) → (v ≠ 0 → C / P ^ (N - (k + 1)) < c * P + t) → ∃ v' C' bt' B' H' Rs', At2 (wL μ) (wI μ N) P N v' C' B' ∧ (v' ≠ 0 → bt' = nI (60000 - v')) ∧ ck v C ≤ ck v' C' ∧ (∀ t', t ≤ t' → t' < P → ∀ x, x < P ^ N → x / P ^ (N - (k + 1)) = c * P + t' → ck (cv (wL μ) (wI μ N) P N x) x ≤ ck v' C') ∧ (v' ≠ 0 → C' / P ^ (N - (k + 1)) < c * P + P) ∧ (∀ i, i < k → H' i = nI (dg P k c i)) ∧ (∀ p, p < P → Rs' p = nI (R p)) ∧ x_E x_P (D + 2) x_c17 46 [.ref 76, .ref 4, .ref 43, .int (nI k), .int (nI tc), .int (nI (wI μ N k)), .int (nI t), j0, k0] [] (CG (KK σ B H Rs (fd v) bt)) = some (none, CG (KK σ B' H' Rs' (fd v') bt')) := by
  have cw : ∀ B H R f t, (KK σ B H R f t).2 43 1 = nI P := fun _ _ _ _ _ => n1
  obtain ⟨b1, b2, b3⟩ := pl_ok hP (wI_1 hU hu hw) k c R tc hc hp
  have bI := wI_le hU hu hw k
  have bI1 := wI_1 hU hu hw k
  intro r
  induction r with
  | zero =>
    intro t v C bt B H Rs j0 k0 hr hH hRs hA hb h2
    obtain rfl : t = P := by omega
    refine ⟨v, C, bt, B, H, Rs, hA, hb, Nat.le_refl _, fun t' q1 q2 => by omega, h2, hH, hRs, ?_⟩
    rw [s_17_46]; simp (decide := true) only [s_17_52, s_17_147, Option.bind_some, x_tlv, x_tln, if_true, if_false, cr_isa, R_at, R_has, R_size, R_put, R_isFull, R_add, R_clear, c_has_eq, c_wa_1, c_wa_2, c_ws_1, c_ws_2, cf_0_0, cf_0_1, cf_0_2, cf_0_3, cf_0_4, cf_0_5, cf_0_6, cf_0_7, cf_0_8, cf_0_9, cf_0_10, cf_0_11, cf_0_12, cf_0_13, cp_0_12, cp_0_13, ci_0, cf_1_0, cf_1_1, cf_1_2, cf_1_3, cf_1_4, cp_1_1, cp_1_2, cp_1_3, cp_1_4, ci_1, cf_4_0, cf_4_1, cf_4_2, cf_4_3, cf_4_4, cf_4_5, cf_4_6, cf_4_7, cf_4_8, cf_4_9, cf_4_10, cp_4_0, cp_4_1, ci_4, cf_23_0, cf_23_1, cf_23_2, cf_23_3, cf_23_4, cf_23_5, cf_23_6, cf_23_7, cf_23_8, cf_23_9, cf_23_10, cp_23_0, cp_23_1, ci_23, cf_42_0, cf_42_1, cf_42_2, cf_42_3, cp_42_2, cp_42_3, ci_42, cf_47_0, cf_47_1, cf_47_2, cp_47_1, cp_47_2, ci_47, cf_50_0, cf_50_1, cf_50_2, ci_50, cf_57_0, cf_57_1, ci_57, cf_62_0, cf_62_1, ci_62, cf_67_0, cf_67_1, cf_67_2, cf_67_3, cf_67_4, cf_67_5, cp_67_1, cp_67_2, ci_67, cf_76_0, cf_76_1, cf_76_2, cf_76_3, cf_76_4, cf_76_5, cp_76_1, cp_76_2, cp_76_3, ci_76, cw, Int32.le_refl]
  | succ r ihr =>
    intro t v C bt B H Rs j0 k0 hr hH hRs hA hb h2
    have e0 : ¬ nI P ≤ nI t := nI_ge (by omega) (by omega)
    have tP : t < P := by omega
    have hch := pl_child (I := wI μ N) (L := wL μ) tP hp
    have bR := b1 t
    have bL := hL2 t
    have hc1 : c * P + t < P ^ (k + 1) := by
      rw [Nat.pow_succ]
      have : (c + 1) * P ≤ P ^ k * P := Nat.mul_le_mul_right _ hc
      rw [Nat.add_mul, Nat.one_mul] at this
      omega
    have a1 : ∀ B H f t', c_at (KK σ B H Rs f t') 81 (nI t) = nI (R t) := fun B H f t' => by rw [KK_ra σ B H Rs f t' (by omega)]; exact hRs t tP
    have a2 : ∀ B H Rs f t', c_at (KK σ B H Rs f t') 43 (nI t) = nI (wL μ t) := fun B H Rs f t' => by rw [KK_la σ B H Rs f t' (by omega)]; exact hL t tP
    by_cases hf : wI μ N k ≤ R t
    · rw [if_pos hf] at hch
      have ef : ¬ nI (R t) < nI (wI μ N k) := nI_nlt hf (by omega)
      have es : nI (R t) - nI (wI μ N k) = nI (R t - wI μ N k) := pk_sub hf
      have hH1 : ∀ i, i < k + 1 → upd H k (nI t) i = nI (dg P (k + 1) (c * P + t) i) := by
        intro i hi
        unfold upd
        by_cases hik : i = k
        · rw [if_pos hik, hik, dg_last P k c t tP]
        · rw [if_neg hik, dg_more P k c t i tP (by omega)]
          exact hH i (by omega)
      have hR1 : ∀ p, p < P → upd Rs t (nI (R t - wI μ N k)) p = nI (nupd R t (R t - wI μ N k) p) := by
        intro p hp
        unfold upd nupd
        by_cases hpt : p = t
        · rw [if_pos hpt, if_pos hpt]
        · rw [if_neg hpt, if_neg hpt]; exact hRs p hp
      obtain ⟨v1, C1, bt1, B1, H1, R1, q1, q2, q3, q4, q5, q6, q7, q8⟩ := ih (c * P + t) _ _ v C bt B (upd H k (nI t)) (upd Rs t (nI (R t - wI μ N k))) hch hc1 hH1 hR1 hA hb h2
      have hR2 : ∀ p, p < P → upd R1 t (nI (R t)) p = nI (R p) := by
        intro p hp
        have := q7 p hp
        unfold upd
        by_cases hpt : p = t
        · rw [if_pos hpt, hpt]
        · rw [if_neg hpt, this]
          unfold nupd
          rw [if_neg hpt]
      have pw := KK_hp σ B H Rs (fd v) bt (nI t) (k := k) (by omega)
      have pw2 := KK_rp σ B (upd H k (nI t)) Rs (fd v) bt (nI (R t - wI μ N k)) (k := t) (by omega)
      have pw3 := KK_rp σ B1 H1 R1 (fd v1) bt1 (nI (R t)) (k := t) (by omega)
      have fin : ∀ kv, ∃ v' C' bt' B' H' Rs', At2 (wL μ) (wI μ N) P N v' C' B' ∧ (v' ≠ 0 → bt' = nI (60000 - v')) ∧ ck v C ≤ ck v' C' ∧ (∀ t', t ≤ t' → t' < P → ∀ x, x < P ^ N → x / P ^ (N - (k + 1)) = c * P + t' → ck (cv (wL μ) (wI μ N) P N x) x ≤ ck v' C') ∧ (v' ≠ 0 → C' / P ^ (N - (k + 1)) < c * P + P) ∧ (∀ i, i < k → H' i = nI (dg P k c i)) ∧ (∀ p, p < P → Rs' p = nI (R p)) ∧ x_E x_P (D + 2) x_c17 130 [.ref 76, .ref 4, .ref 43, .int (nI k), .int (nI tc), .int (nI (wI μ N k)), .int (nI t), .int (nI (R t)), .int kv] [] (CG (KK σ B1 H1 R1 (fd v1) bt1)) = some (none, CG (KK σ B' H' Rs' (fd v') bt')) := by
        intro kv
        obtain ⟨v', C', bt', B', H', R', z1, z2, z3, z4, z5, z6, z7, z8⟩ := ihr (t + 1) v1 C1 bt1 B1 H1 (upd R1 t (nI (R t))) (.int (nI (R t))) (.int kv) (by omega) (fun i hi => by rw [q6 i (by omega), dg_more P k c t i tP hi]) hR2 q1 q2 (fun g => by have := q5 g; omega)
        refine ⟨v', C', bt', B', H', R', z1, z2, Nat.le_trans q3 z3, fun t' g1 g2 x g3 g4 => ?_, z5, z6, z7, ?_⟩
        · by_cases htt : t' = t
          · subst htt; exact Nat.le_trans (q4 x g3 g4) z3
          · exact z4 t' (by omega) g2 x g3 g4
        · simp (decide := true) only [s_17_130, s_17_134, s_17_141, Option.bind_some, x_tlv, x_tln, if_true, if_false, cr_isa, R_at, R_has, R_size, R_put, R_isFull, R_add, R_clear, c_has_eq, c_wa_1, c_wa_2, c_ws_1, c_ws_2, cf_0_0, cf_0_1, cf_0_2, cf_0_3, cf_0_4, cf_0_5, cf_0_6, cf_0_7, cf_0_8, cf_0_9, cf_0_10, cf_0_11, cf_0_12, cf_0_13, cp_0_12, cp_0_13, ci_0, cf_1_0, cf_1_1, cf_1_2, cf_1_3, cf_1_4, cp_1_1, cp_1_2, cp_1_3, cp_1_4, ci_1, cf_4_0, cf_4_1, cf_4_2, cf_4_3, cf_4_4, cf_4_5, cf_4_6, cf_4_7, cf_4_8, cf_4_9, cf_4_10, cp_4_0, cp_4_1, ci_4, cf_23_0, cf_23_1, cf_23_2, cf_23_3, cf_23_4, cf_23_5, cf_23_6, cf_23_7, cf_23_8, cf_23_9, cf_23_10, cp_23_0, cp_23_1, ci_23, cf_42_0, cf_42_1, cf_42_2, cf_42_3, cp_42_2, cp_42_3, ci_42, cf_47_0, cf_47_1, cf_47_2, cp_47_1, cp_47_2, ci_47, cf_50_0, cf_50_1, cf_50_2, ci_50, cf_57_0, cf_57_1, ci_57, cf_62_0, cf_62_1, ci_62, cf_67_0, cf_67_1, cf_67_2, cf_67_3, cf_67_4, cf_67_5, cp_67_1, cp_67_2, ci_67, cf_76_0, cf_76_1, cf_76_2, cf_76_3, cf_76_4, cf_76_5, cp_76_1, cp_76_2, cp_76_3, ci_76, pw3, nI_1]
          exact z8
      by_cases hRL : R t = wL μ t
      · have e1 : nI (R t) = nI (wL μ t) := by rw [hRL]
        rw [if_pos hRL, ← nI_add tc (R t)] at q8
        obtain ⟨v', C', bt', B', H', R', z1, z2, z3, z4, z5, z6, z7, z8⟩ := fin (nI (R t))
        refine ⟨v', C', bt', B', H', R', z1, z2, z3, z4, z5, z6, z7, ?_⟩
        rw [s_17_46]; simp (decide := true) only [s_17_52, s_17_55, s_17_59, s_17_64, s_17_73, Option.bind_some, x_tlv, x_tln, if_true, if_false, cr_isa, R_at, R_has, R_size, R_put, R_isFull, R_add, R_clear, c_has_eq, c_wa_1, c_wa_2, c_ws_1, c_ws_2, cf_0_0, cf_0_1, cf_0_2, cf_0_3, cf_0_4, cf_0_5, cf_0_6, cf_0_7, cf_0_8, cf_0_9, cf_0_10, cf_0_11, cf_0_12, cf_0_13, cp_0_12, cp_0_13, ci_0, cf_1_0, cf_1_1, cf_1_2, cf_1_3, cf_1_4, cp_1_1, cp_1_2, cp_1_3, cp_1_4, ci_1, cf_4_0, cf_4_1, cf_4_2, cf_4_3, cf_4_4, cf_4_5, cf_4_6, cf_4_7, cf_4_8, cf_4_9, cf_4_10, cp_4_0, cp_4_1, ci_4, cf_23_0, cf_23_1, cf_23_2, cf_23_3, cf_23_4, cf_23_5, cf_23_6, cf_23_7, cf_23_8, cf_23_9, cf_23_10, cp_23_0, cp_23_1, ci_23, cf_42_0, cf_42_1, cf_42_2, cf_42_3, cp_42_2, cp_42_3, ci_42, cf_47_0, cf_47_1, cf_47_2, cp_47_1, cp_47_2, ci_47, cf_50_0, cf_50_1, cf_50_2, ci_50, cf_57_0, cf_57_1, ci_57, cf_62_0, cf_62_1, ci_62, cf_67_0, cf_67_1, cf_67_2, cf_67_3, cf_67_4, cf_67_5, cp_67_1, cp_67_2, ci_67, cf_76_0, cf_76_1, cf_76_2, cf_76_3, cf_76_4, cf_76_5, cp_76_1, cp_76_2, cp_76_3, ci_76, cw, e0, a1, ef, a2]
        rw [s_17_81, if_pos e1]
        simp (decide := true) only [s_17_84, s_17_96, s_17_102, s_17_106, Option.bind_some, x_tlv, x_tln, if_true, if_false, cr_isa, R_at, R_has, R_size, R_put, R_isFull, R_add, R_clear, c_has_eq, c_wa_1, c_wa_2, c_ws_1, c_ws_2, cf_0_0, cf_0_1, cf_0_2, cf_0_3, cf_0_4, cf_0_5, cf_0_6, cf_0_7, cf_0_8, cf_0_9, cf_0_10, cf_0_11, cf_0_12, cf_0_13, cp_0_12, cp_0_13, ci_0, cf_1_0, cf_1_1, cf_1_2, cf_1_3, cf_1_4, cp_1_1, cp_1_2, cp_1_3, cp_1_4, ci_1, cf_4_0, cf_4_1, cf_4_2, cf_4_3, cf_4_4, cf_4_5, cf_4_6, cf_4_7, cf_4_8, cf_4_9, cf_4_10, cp_4_0, cp_4_1, ci_4, cf_23_0, cf_23_1, cf_23_2, cf_23_3, cf_23_4, cf_23_5, cf_23_6, cf_23_7, cf_23_8, cf_23_9, cf_23_10, cp_23_0, cp_23_1, ci_23, cf_42_0, cf_42_1, cf_42_2, cf_42_3, cp_42_2, cp_42_3, ci_42, cf_47_0, cf_47_1, cf_47_2, cp_47_1, cp_47_2, ci_47, cf_50_0, cf_50_1, cf_50_2, ci_50, cf_57_0, cf_57_1, ci_57, cf_62_0, cf_62_1, ci_62, cf_67_0, cf_67_1, cf_67_2, cf_67_3, cf_67_4, cf_67_5, cp_67_1, cp_67_2, ci_67, cf_76_0, cf_76_1, cf_76_2, cf_76_3, cf_76_4, cf_76_5, cp_76_1, cp_76_2, cp_76_3, ci_76, pw, es, pw2, s_17_116, nI_1]
        rw [q8]
        exact z8
      · have e1 : ¬ nI (R t) = nI (wL μ t) := fun q => hRL ((nI_eq (by omega) (by omega)).mp q)
        rw [if_neg hRL, Nat.add_zero tc] at q8
        have e2 : nI tc + 0 = nI tc := Int32.add_zero _
        obtain ⟨v', C', bt', B', H', R', z1, z2, z3, z4, z5, z6, z7, z8⟩ := fin 0
        refine ⟨v', C', bt', B', H', R', z1, z2, z3, z4, z5, z6, z7, ?_⟩
        rw [s_17_46]; simp (decide := true) only [s_17_52, s_17_55, s_17_59, s_17_64, s_17_73, Option.bind_some, x_tlv, x_tln, if_true, if_false, cr_isa, R_at, R_has, R_size, R_put, R_isFull, R_add, R_clear, c_has_eq, c_wa_1, c_wa_2, c_ws_1, c_ws_2, cf_0_0, cf_0_1, cf_0_2, cf_0_3, cf_0_4, cf_0_5, cf_0_6, cf_0_7, cf_0_8, cf_0_9, cf_0_10, cf_0_11, cf_0_12, cf_0_13, cp_0_12, cp_0_13, ci_0, cf_1_0, cf_1_1, cf_1_2, cf_1_3, cf_1_4, cp_1_1, cp_1_2, cp_1_3, cp_1_4, ci_1, cf_4_0, cf_4_1, cf_4_2, cf_4_3, cf_4_4, cf_4_5, cf_4_6, cf_4_7, cf_4_8, cf_4_9, cf_4_10, cp_4_0, cp_4_1, ci_4, cf_23_0, cf_23_1, cf_23_2, cf_23_3, cf_23_4, cf_23_5, cf_23_6, cf_23_7, cf_23_8, cf_23_9, cf_23_10, cp_23_0, cp_23_1, ci_23, cf_42_0, cf_42_1, cf_42_2, cf_42_3, cp_42_2, cp_42_3, ci_42, cf_47_0, cf_47_1, cf_47_2, cp_47_1, cp_47_2, ci_47, cf_50_0, cf_50_1, cf_50_2, ci_50, cf_57_0, cf_57_1, ci_57, cf_62_0, cf_62_1, ci_62, cf_67_0, cf_67_1, cf_67_2, cf_67_3, cf_67_4, cf_67_5, cp_67_1, cp_67_2, ci_67, cf_76_0, cf_76_1, cf_76_2, cf_76_3, cf_76_4, cf_76_5, cp_76_1, cp_76_2, cp_76_3, ci_76, cw, e0, a1, ef, a2]
        rw [s_17_81, if_neg e1]
        simp (decide := true) only [s_17_89, s_17_96, s_17_102, s_17_106, Option.bind_some, x_tlv, x_tln, if_true, if_false, cr_isa, R_at, R_has, R_size, R_put, R_isFull, R_add, R_clear, c_has_eq, c_wa_1, c_wa_2, c_ws_1, c_ws_2, cf_0_0, cf_0_1, cf_0_2, cf_0_3, cf_0_4, cf_0_5, cf_0_6, cf_0_7, cf_0_8, cf_0_9, cf_0_10, cf_0_11, cf_0_12, cf_0_13, cp_0_12, cp_0_13, ci_0, cf_1_0, cf_1_1, cf_1_2, cf_1_3, cf_1_4, cp_1_1, cp_1_2, cp_1_3, cp_1_4, ci_1, cf_4_0, cf_4_1, cf_4_2, cf_4_3, cf_4_4, cf_4_5, cf_4_6, cf_4_7, cf_4_8, cf_4_9, cf_4_10, cp_4_0, cp_4_1, ci_4, cf_23_0, cf_23_1, cf_23_2, cf_23_3, cf_23_4, cf_23_5, cf_23_6, cf_23_7, cf_23_8, cf_23_9, cf_23_10, cp_23_0, cp_23_1, ci_23, cf_42_0, cf_42_1, cf_42_2, cf_42_3, cp_42_2, cp_42_3, ci_42, cf_47_0, cf_47_1, cf_47_2, cp_47_1, cp_47_2, ci_47, cf_50_0, cf_50_1, cf_50_2, ci_50, cf_57_0, cf_57_1, ci_57, cf_62_0, cf_62_1, ci_62, cf_67_0, cf_67_1, cf_67_2, cf_67_3, cf_67_4, cf_67_5, cp_67_1, cp_67_2, ci_67, cf_76_0, cf_76_1, cf_76_2, cf_76_3, cf_76_4, cf_76_5, cp_76_1, cp_76_2, cp_76_3, ci_76, pw, es, pw2, s_17_116, nI_1, e2]
        rw [q8]
        exact z8
    · rw [if_neg hf] at hch
      have ef : nI (R t) < nI (wI μ N k) := nI_lt (by omega) (by omega)
      obtain ⟨v', C', bt', B', H', R', z1, z2, z3, z4, z5, z6, z7, z8⟩ := ihr (t + 1) v C bt B H Rs (.int (nI (R t))) k0 (by omega) hH hRs hA hb (fun g => by have := h2 g; omega)
      refine ⟨v', C', bt', B', H', R', z1, z2, z3, fun t' g1 g2 x g3 g4 => ?_, z5, z6, z7, ?_⟩
      · by_cases htt : t' = t
        · subst htt
          have := pl_none (N - (k + 1)) (k + 1) _ x hch g4
          rw [show k + 1 + (N - (k + 1)) = N by omega] at this
          rw [cv_none this]
          exact Nat.zero_le _
        · exact z4 t' (by omega) g2 x g3 g4
      · rw [s_17_46]; simp (decide := true) only [s_17_52, s_17_55, s_17_59, s_17_64, s_17_141, Option.bind_some, x_tlv, x_tln, if_true, if_false, cr_isa, R_at, R_has, R_size, R_put, R_isFull, R_add, R_clear, c_has_eq, c_wa_1, c_wa_2, c_ws_1, c_ws_2, cf_0_0, cf_0_1, cf_0_2, cf_0_3, cf_0_4, cf_0_5, cf_0_6, cf_0_7, cf_0_8, cf_0_9, cf_0_10, cf_0_11, cf_0_12, cf_0_13, cp_0_12, cp_0_13, ci_0, cf_1_0, cf_1_1, cf_1_2, cf_1_3, cf_1_4, cp_1_1, cp_1_2, cp_1_3, cp_1_4, ci_1, cf_4_0, cf_4_1, cf_4_2, cf_4_3, cf_4_4, cf_4_5, cf_4_6, cf_4_7, cf_4_8, cf_4_9, cf_4_10, cp_4_0, cp_4_1, ci_4, cf_23_0, cf_23_1, cf_23_2, cf_23_3, cf_23_4, cf_23_5, cf_23_6, cf_23_7, cf_23_8, cf_23_9, cf_23_10, cp_23_0, cp_23_1, ci_23, cf_42_0, cf_42_1, cf_42_2, cf_42_3, cp_42_2, cp_42_3, ci_42, cf_47_0, cf_47_1, cf_47_2, cp_47_1, cp_47_2, ci_47, cf_50_0, cf_50_1, cf_50_2, ci_50, cf_57_0, cf_57_1, ci_57, cf_62_0, cf_62_1, ci_62, cf_67_0, cf_67_1, cf_67_2, cf_67_3, cf_67_4, cf_67_5, cp_67_1, cp_67_2, ci_67, cf_76_0, cf_76_1, cf_76_2, cf_76_3, cf_76_4, cf_76_5, cp_76_1, cp_76_2, cp_76_3, ci_76, cw, e0, a1, ef, nI_1]
        exact z8
theorem C_place {σ : x_S} {μ : x_U} {U P N : Nat} (d : Nat) (hU : U ≤ 6) (hP : P ≤ 6) (hN : N ≤ 6) (n1 : σ.2 43 1 = nI P) (c6 : σ.2 19 1 = nI N) (hu : S_use σ μ U) (hw : S_wan σ μ U N) (hL : ∀ p, p < P → σ.1 44 p = nI (wL μ p)) (hL2 : ∀ p, wL μ p ≤ 9999) : ∀ m k c, k + m = N → POK σ (wL μ) (wI μ N) P N (d + m + 3) k c := by
  have cw : ∀ B H R f t, (KK σ B H R f t).2 19 1 = nI N := fun _ _ _ _ _ => c6
  intro m
  induction m with
  | zero =>
    intro k c hk R tc v C bt B H Rs hp hc hH hRs hA hb hO
    obtain rfl : k = N := by omega
    have pb := pw6 hP hN
    obtain ⟨b1, b2, b3⟩ := pl_ok hP (wI_1 hU hu hw) k c R tc hc hp
    have bt1 : tc ≤ 59994 := by rw [b2]; exact tch_le hL2
    have bv := At2_le hA
    have e0 : ¬ nI k < nI k := Int32.lt_irrefl
    have go : (v = 0 ∨ tc < 60000 - v) → ∃ v' C' bt' B' H' Rs', At2 (wL μ) (wI μ k) P k v' C' B' ∧ (v' ≠ 0 → bt' = nI (60000 - v')) ∧ ck v C ≤ ck v' C' ∧ (∀ x, x < P ^ k → x / P ^ (k - k) = c → ck (cv (wL μ) (wI μ k) P k x) x ≤ ck v' C') ∧ (v' ≠ 0 → C' / P ^ (k - k) ≤ c) ∧ (∀ i, i < k → H' i = nI (dg P k c i)) ∧ (∀ p, p < P → Rs' p = nI (R p)) ∧ x_E x_P (d + 2) x_c17 17 [.ref 76, .ref 4, .ref 43, .int (nI k), .int (nI tc), x_j, x_j, x_j, x_j] [] (CG (KK σ B H Rs (fd v) bt)) = some (none, CG (KK σ B' H' Rs' (fd v') bt')) := by
      intro hlt
      obtain ⟨B', j1, j2⟩ := R_note2 d σ B H Rs (fd v) bt (nI tc) hN
      refine ⟨60000 - tc, c, nI tc, B', H, Rs, Or.inr ⟨(cv_some hp).symm, hc, fun i hi => (j1 i hi).trans (hH i hi)⟩, fun _ => by rw [show 60000 - (60000 - tc) = tc by omega], ?_, fun x g1 g2 => ?_, fun _ => ?_, hH, hRs, ?_⟩
      · unfold ck
        by_cases hv : v = 0
        · rw [if_pos hv]; exact Nat.zero_le _
        · rw [if_neg hv, if_neg (by omega)]
          omega
      · rw [Nat.sub_self, Nat.pow_zero, Nat.div_one] at g2
        subst g2
        rw [cv_some hp]
        exact Nat.le_refl _
      · rw [Nat.sub_self, Nat.pow_zero, Nat.div_one]; exact Nat.le_refl _
      · have ef : fd (60000 - tc) = 1 := if_neg (by omega)
        rw [ef]
        simp (decide := true) only [s_17_17, s_17_22, s_17_25, s_17_28, Option.bind_some, x_tlv, x_tln, if_true, if_false, cr_isa, R_at, R_has, R_size, R_put, R_isFull, R_add, R_clear, c_has_eq, c_wa_1, c_wa_2, c_ws_1, c_ws_2, cf_0_0, cf_0_1, cf_0_2, cf_0_3, cf_0_4, cf_0_5, cf_0_6, cf_0_7, cf_0_8, cf_0_9, cf_0_10, cf_0_11, cf_0_12, cf_0_13, cp_0_12, cp_0_13, ci_0, cf_1_0, cf_1_1, cf_1_2, cf_1_3, cf_1_4, cp_1_1, cp_1_2, cp_1_3, cp_1_4, ci_1, cf_4_0, cf_4_1, cf_4_2, cf_4_3, cf_4_4, cf_4_5, cf_4_6, cf_4_7, cf_4_8, cf_4_9, cf_4_10, cp_4_0, cp_4_1, ci_4, cf_23_0, cf_23_1, cf_23_2, cf_23_3, cf_23_4, cf_23_5, cf_23_6, cf_23_7, cf_23_8, cf_23_9, cf_23_10, cp_23_0, cp_23_1, ci_23, cf_42_0, cf_42_1, cf_42_2, cf_42_3, cp_42_2, cp_42_3, ci_42, cf_47_0, cf_47_1, cf_47_2, cp_47_1, cp_47_2, ci_47, cf_50_0, cf_50_1, cf_50_2, ci_50, cf_57_0, cf_57_1, ci_57, cf_62_0, cf_62_1, ci_62, cf_67_0, cf_67_1, cf_67_2, cf_67_3, cf_67_4, cf_67_5, cp_67_1, cp_67_2, ci_67, cf_76_0, cf_76_1, cf_76_2, cf_76_3, cf_76_4, cf_76_5, cp_76_1, cp_76_2, cp_76_3, ci_76, cw, e0]
        rw [j2]
        simp (decide := true) only [s_17_35, Option.bind_some, x_tlv, x_tln, if_true, if_false, cr_isa, R_at, R_has, R_size, R_put, R_isFull, R_add, R_clear, c_has_eq, c_wa_1, c_wa_2, c_ws_1, c_ws_2, cf_0_0, cf_0_1, cf_0_2, cf_0_3, cf_0_4, cf_0_5, cf_0_6, cf_0_7, cf_0_8, cf_0_9, cf_0_10, cf_0_11, cf_0_12, cf_0_13, cp_0_12, cp_0_13, ci_0, cf_1_0, cf_1_1, cf_1_2, cf_1_3, cf_1_4, cp_1_1, cp_1_2, cp_1_3, cp_1_4, ci_1, cf_4_0, cf_4_1, cf_4_2, cf_4_3, cf_4_4, cf_4_5, cf_4_6, cf_4_7, cf_4_8, cf_4_9, cf_4_10, cp_4_0, cp_4_1, ci_4, cf_23_0, cf_23_1, cf_23_2, cf_23_3, cf_23_4, cf_23_5, cf_23_6, cf_23_7, cf_23_8, cf_23_9, cf_23_10, cp_23_0, cp_23_1, ci_23, cf_42_0, cf_42_1, cf_42_2, cf_42_3, cp_42_2, cp_42_3, ci_42, cf_47_0, cf_47_1, cf_47_2, cp_47_1, cp_47_2, ci_47, cf_50_0, cf_50_1, cf_50_2, ci_50, cf_57_0, cf_57_1, ci_57, cf_62_0, cf_62_1, ci_62, cf_67_0, cf_67_1, cf_67_2, cf_67_3, cf_67_4, cf_67_5, cp_67_1, cp_67_2, ci_67, cf_76_0, cf_76_1, cf_76_2, cf_76_3, cf_76_4, cf_76_5, cp_76_1, cp_76_2, cp_76_3, ci_76]
    by_cases hv : v = 0
    · subst hv
      obtain ⟨v', C', bt', B', H', R', z1, z2, z3, z4, z5, z6, z7, z8⟩ := go (Or.inl rfl)
      refine ⟨v', C', bt', B', H', R', z1, z2, z3, z4, z5, z6, z7, ?_⟩
      rw [show fd 0 = 0 from rfl] at z8 ⊢
      simp (decide := true) only [r_17, s_17_0, s_17_4, Option.bind_some, x_tlv, x_tln, if_true, if_false, cr_isa, R_at, R_has, R_size, R_put, R_isFull, R_add, R_clear, c_has_eq, c_wa_1, c_wa_2, c_ws_1, c_ws_2, cf_0_0, cf_0_1, cf_0_2, cf_0_3, cf_0_4, cf_0_5, cf_0_6, cf_0_7, cf_0_8, cf_0_9, cf_0_10, cf_0_11, cf_0_12, cf_0_13, cp_0_12, cp_0_13, ci_0, cf_1_0, cf_1_1, cf_1_2, cf_1_3, cf_1_4, cp_1_1, cp_1_2, cp_1_3, cp_1_4, ci_1, cf_4_0, cf_4_1, cf_4_2, cf_4_3, cf_4_4, cf_4_5, cf_4_6, cf_4_7, cf_4_8, cf_4_9, cf_4_10, cp_4_0, cp_4_1, ci_4, cf_23_0, cf_23_1, cf_23_2, cf_23_3, cf_23_4, cf_23_5, cf_23_6, cf_23_7, cf_23_8, cf_23_9, cf_23_10, cp_23_0, cp_23_1, ci_23, cf_42_0, cf_42_1, cf_42_2, cf_42_3, cp_42_2, cp_42_3, ci_42, cf_47_0, cf_47_1, cf_47_2, cp_47_1, cp_47_2, ci_47, cf_50_0, cf_50_1, cf_50_2, ci_50, cf_57_0, cf_57_1, ci_57, cf_62_0, cf_62_1, ci_62, cf_67_0, cf_67_1, cf_67_2, cf_67_3, cf_67_4, cf_67_5, cp_67_1, cp_67_2, ci_67, cf_76_0, cf_76_1, cf_76_2, cf_76_3, cf_76_4, cf_76_5, cp_76_1, cp_76_2, cp_76_3, ci_76, KK_1]
      exact z8
    · have ef : fd v = 1 := if_neg hv
      have eb := hb hv
      subst eb
      by_cases hlt : tc < 60000 - v
      · have e1 : nI tc < nI (60000 - v) := nI_lt hlt (by omega)
        obtain ⟨v', C', bt', B', H', R', z1, z2, z3, z4, z5, z6, z7, z8⟩ := go (Or.inr hlt)
        refine ⟨v', C', bt', B', H', R', z1, z2, z3, z4, z5, z6, z7, ?_⟩
        rw [ef] at z8 ⊢
        simp (decide := true) only [r_17, s_17_0, s_17_4, s_17_7, s_17_13, Option.bind_some, x_tlv, x_tln, if_true, if_false, cr_isa, R_at, R_has, R_size, R_put, R_isFull, R_add, R_clear, c_has_eq, c_wa_1, c_wa_2, c_ws_1, c_ws_2, cf_0_0, cf_0_1, cf_0_2, cf_0_3, cf_0_4, cf_0_5, cf_0_6, cf_0_7, cf_0_8, cf_0_9, cf_0_10, cf_0_11, cf_0_12, cf_0_13, cp_0_12, cp_0_13, ci_0, cf_1_0, cf_1_1, cf_1_2, cf_1_3, cf_1_4, cp_1_1, cp_1_2, cp_1_3, cp_1_4, ci_1, cf_4_0, cf_4_1, cf_4_2, cf_4_3, cf_4_4, cf_4_5, cf_4_6, cf_4_7, cf_4_8, cf_4_9, cf_4_10, cp_4_0, cp_4_1, ci_4, cf_23_0, cf_23_1, cf_23_2, cf_23_3, cf_23_4, cf_23_5, cf_23_6, cf_23_7, cf_23_8, cf_23_9, cf_23_10, cp_23_0, cp_23_1, ci_23, cf_42_0, cf_42_1, cf_42_2, cf_42_3, cp_42_2, cp_42_3, ci_42, cf_47_0, cf_47_1, cf_47_2, cp_47_1, cp_47_2, ci_47, cf_50_0, cf_50_1, cf_50_2, ci_50, cf_57_0, cf_57_1, ci_57, cf_62_0, cf_62_1, ci_62, cf_67_0, cf_67_1, cf_67_2, cf_67_3, cf_67_4, cf_67_5, cp_67_1, cp_67_2, ci_67, cf_76_0, cf_76_1, cf_76_2, cf_76_3, cf_76_4, cf_76_5, cp_76_1, cp_76_2, cp_76_3, ci_76, KK_1, KK_2, e1]
        exact z8
      · have e1 : ¬ nI tc < nI (60000 - v) := nI_nlt (by omega) (by omega)
        refine ⟨v, C, nI (60000 - v), B, H, Rs, hA, hb, Nat.le_refl _, fun x g1 g2 => ?_, fun g => Nat.le_of_lt (hO g), hH, hRs, ?_⟩
        · rw [Nat.sub_self, Nat.pow_zero, Nat.div_one] at g2
          subst g2
          have h3 := hO hv
          rw [Nat.sub_self, Nat.pow_zero, Nat.div_one] at h3
          rw [cv_some hp]
          unfold ck
          rw [if_neg hv, if_neg (by omega)]
          omega
        · rw [ef]
          simp (decide := true) only [r_17, s_17_0, s_17_4, s_17_7, s_17_13, s_17_16, Option.bind_some, x_tlv, x_tln, if_true, if_false, cr_isa, R_at, R_has, R_size, R_put, R_isFull, R_add, R_clear, c_has_eq, c_wa_1, c_wa_2, c_ws_1, c_ws_2, cf_0_0, cf_0_1, cf_0_2, cf_0_3, cf_0_4, cf_0_5, cf_0_6, cf_0_7, cf_0_8, cf_0_9, cf_0_10, cf_0_11, cf_0_12, cf_0_13, cp_0_12, cp_0_13, ci_0, cf_1_0, cf_1_1, cf_1_2, cf_1_3, cf_1_4, cp_1_1, cp_1_2, cp_1_3, cp_1_4, ci_1, cf_4_0, cf_4_1, cf_4_2, cf_4_3, cf_4_4, cf_4_5, cf_4_6, cf_4_7, cf_4_8, cf_4_9, cf_4_10, cp_4_0, cp_4_1, ci_4, cf_23_0, cf_23_1, cf_23_2, cf_23_3, cf_23_4, cf_23_5, cf_23_6, cf_23_7, cf_23_8, cf_23_9, cf_23_10, cp_23_0, cp_23_1, ci_23, cf_42_0, cf_42_1, cf_42_2, cf_42_3, cp_42_2, cp_42_3, ci_42, cf_47_0, cf_47_1, cf_47_2, cp_47_1, cp_47_2, ci_47, cf_50_0, cf_50_1, cf_50_2, ci_50, cf_57_0, cf_57_1, ci_57, cf_62_0, cf_62_1, ci_62, cf_67_0, cf_67_1, cf_67_2, cf_67_3, cf_67_4, cf_67_5, cp_67_1, cp_67_2, ci_67, cf_76_0, cf_76_1, cf_76_2, cf_76_3, cf_76_4, cf_76_5, cp_76_1, cp_76_2, cp_76_3, ci_76, KK_1, KK_2, e1]
  | succ m ih =>
    intro k c hk R tc v C bt B H Rs hp hc hH hRs hA hb hO
    have pb := pw6 hP hN
    obtain ⟨b1, b2, b3⟩ := pl_ok hP (wI_1 hU hu hw) k c R tc hc hp
    have bt1 : tc ≤ 59994 := by rw [b2]; exact tch_le hL2
    have bv := At2_le hA
    have e0 : nI k < nI N := nI_lt (by omega) (by omega)
    have hTp : ∀ {Y : Nat}, Y < P ^ N → 0 < P := by
      intro Y h2
      rcases Nat.eq_zero_or_pos P with h0 | h0
      · obtain ⟨s, rfl⟩ : ∃ s, N = s + 1 := ⟨N - 1, by omega⟩
        subst h0
        rw [Nat.pow_succ, Nat.mul_zero] at h2
        omega
      · exact h0
    have hin := fun B H R f t => R_inch (μ := μ) (d + m + 1) hU hN hu hw (show k < N by omega) B H R f t
    have eN1 : N - k = (N - (k + 1)) + 1 := by omega
    have go : ∃ v' C' bt' B' H' Rs', At2 (wL μ) (wI μ N) P N v' C' B' ∧ (v' ≠ 0 → bt' = nI (60000 - v')) ∧ ck v C ≤ ck v' C' ∧ (∀ x, x < P ^ N → x / P ^ (N - k) = c → ck (cv (wL μ) (wI μ N) P N x) x ≤ ck v' C') ∧ (v' ≠ 0 → C' / P ^ (N - k) ≤ c) ∧ (∀ i, i < k → H' i = nI (dg P k c i)) ∧ (∀ p, p < P → Rs' p = nI (R p)) ∧ x_E x_P (d + m + 3) x_c17 17 [.ref 76, .ref 4, .ref 43, .int (nI k), .int (nI tc), x_j, x_j, x_j, x_j] [] (CG (KK σ B H Rs (fd v) bt)) = some (none, CG (KK σ B' H' Rs' (fd v') bt')) := by
      obtain ⟨v', C', bt', B', H', R', z1, z2, z3, z4, z5, z6, z7, z8⟩ := C_plw (D := d + m + 1) hU hP hN (by omega) n1 hu hw hL hL2 hc hp (fun c' => ih (k + 1) c' (by omega)) P 0 v C bt B H Rs x_j x_j (by omega) hH hRs hA hb (fun g => by
        rcases hA with hA' | ⟨-, a2, -⟩
        · exact absurd hA' g
        · have h := hO g
          rw [eN1] at h
          exact dv_2 (hTp a2) h)
      refine ⟨v', C', bt', B', H', R', z1, z2, z3, fun x g1 g2 => ?_, fun g => ?_, z6, z7, ?_⟩
      · rw [eN1] at g2
        obtain ⟨t', t1, t2⟩ := dv_1 (hTp g1) g2
        exact z4 t' (Nat.zero_le _) t1 x g1 t2
      · rcases z1 with z1 | ⟨-, a2, -⟩
        · exact absurd z1 g
        · rw [eN1]
          exact dv_3 (hTp a2) (z5 g)
      · simp (decide := true) only [s_17_17, s_17_22, s_17_25, s_17_36, Option.bind_some, x_tlv, x_tln, if_true, if_false, cr_isa, R_at, R_has, R_size, R_put, R_isFull, R_add, R_clear, c_has_eq, c_wa_1, c_wa_2, c_ws_1, c_ws_2, cf_0_0, cf_0_1, cf_0_2, cf_0_3, cf_0_4, cf_0_5, cf_0_6, cf_0_7, cf_0_8, cf_0_9, cf_0_10, cf_0_11, cf_0_12, cf_0_13, cp_0_12, cp_0_13, ci_0, cf_1_0, cf_1_1, cf_1_2, cf_1_3, cf_1_4, cp_1_1, cp_1_2, cp_1_3, cp_1_4, ci_1, cf_4_0, cf_4_1, cf_4_2, cf_4_3, cf_4_4, cf_4_5, cf_4_6, cf_4_7, cf_4_8, cf_4_9, cf_4_10, cp_4_0, cp_4_1, ci_4, cf_23_0, cf_23_1, cf_23_2, cf_23_3, cf_23_4, cf_23_5, cf_23_6, cf_23_7, cf_23_8, cf_23_9, cf_23_10, cp_23_0, cp_23_1, ci_23, cf_42_0, cf_42_1, cf_42_2, cf_42_3, cp_42_2, cp_42_3, ci_42, cf_47_0, cf_47_1, cf_47_2, cp_47_1, cp_47_2, ci_47, cf_50_0, cf_50_1, cf_50_2, ci_50, cf_57_0, cf_57_1, ci_57, cf_62_0, cf_62_1, ci_62, cf_67_0, cf_67_1, cf_67_2, cf_67_3, cf_67_4, cf_67_5, cp_67_1, cp_67_2, ci_67, cf_76_0, cf_76_1, cf_76_2, cf_76_3, cf_76_4, cf_76_5, cp_76_1, cp_76_2, cp_76_3, ci_76, cw, e0, hin, s_17_41]
        exact z8
    by_cases hv : v = 0
    · subst hv
      obtain ⟨v', C', bt', B', H', R', z1, z2, z3, z4, z5, z6, z7, z8⟩ := go
      refine ⟨v', C', bt', B', H', R', z1, z2, z3, z4, z5, z6, z7, ?_⟩
      rw [show fd 0 = 0 from rfl] at z8 ⊢
      simp (decide := true) only [r_17, s_17_0, s_17_4, Option.bind_some, x_tlv, x_tln, if_true, if_false, cr_isa, R_at, R_has, R_size, R_put, R_isFull, R_add, R_clear, c_has_eq, c_wa_1, c_wa_2, c_ws_1, c_ws_2, cf_0_0, cf_0_1, cf_0_2, cf_0_3, cf_0_4, cf_0_5, cf_0_6, cf_0_7, cf_0_8, cf_0_9, cf_0_10, cf_0_11, cf_0_12, cf_0_13, cp_0_12, cp_0_13, ci_0, cf_1_0, cf_1_1, cf_1_2, cf_1_3, cf_1_4, cp_1_1, cp_1_2, cp_1_3, cp_1_4, ci_1, cf_4_0, cf_4_1, cf_4_2, cf_4_3, cf_4_4, cf_4_5, cf_4_6, cf_4_7, cf_4_8, cf_4_9, cf_4_10, cp_4_0, cp_4_1, ci_4, cf_23_0, cf_23_1, cf_23_2, cf_23_3, cf_23_4, cf_23_5, cf_23_6, cf_23_7, cf_23_8, cf_23_9, cf_23_10, cp_23_0, cp_23_1, ci_23, cf_42_0, cf_42_1, cf_42_2, cf_42_3, cp_42_2, cp_42_3, ci_42, cf_47_0, cf_47_1, cf_47_2, cp_47_1, cp_47_2, ci_47, cf_50_0, cf_50_1, cf_50_2, ci_50, cf_57_0, cf_57_1, ci_57, cf_62_0, cf_62_1, ci_62, cf_67_0, cf_67_1, cf_67_2, cf_67_3, cf_67_4, cf_67_5, cp_67_1, cp_67_2, ci_67, cf_76_0, cf_76_1, cf_76_2, cf_76_3, cf_76_4, cf_76_5, cp_76_1, cp_76_2, cp_76_3, ci_76, KK_1]
      exact z8
    · have ef : fd v = 1 := if_neg hv
      have eb := hb hv
      subst eb
      by_cases hlt : tc < 60000 - v
      · have e1 : nI tc < nI (60000 - v) := nI_lt hlt (by omega)
        obtain ⟨v', C', bt', B', H', R', z1, z2, z3, z4, z5, z6, z7, z8⟩ := go
        refine ⟨v', C', bt', B', H', R', z1, z2, z3, z4, z5, z6, z7, ?_⟩
        rw [ef] at z8 ⊢
        simp (decide := true) only [r_17, s_17_0, s_17_4, s_17_7, s_17_13, Option.bind_some, x_tlv, x_tln, if_true, if_false, cr_isa, R_at, R_has, R_size, R_put, R_isFull, R_add, R_clear, c_has_eq, c_wa_1, c_wa_2, c_ws_1, c_ws_2, cf_0_0, cf_0_1, cf_0_2, cf_0_3, cf_0_4, cf_0_5, cf_0_6, cf_0_7, cf_0_8, cf_0_9, cf_0_10, cf_0_11, cf_0_12, cf_0_13, cp_0_12, cp_0_13, ci_0, cf_1_0, cf_1_1, cf_1_2, cf_1_3, cf_1_4, cp_1_1, cp_1_2, cp_1_3, cp_1_4, ci_1, cf_4_0, cf_4_1, cf_4_2, cf_4_3, cf_4_4, cf_4_5, cf_4_6, cf_4_7, cf_4_8, cf_4_9, cf_4_10, cp_4_0, cp_4_1, ci_4, cf_23_0, cf_23_1, cf_23_2, cf_23_3, cf_23_4, cf_23_5, cf_23_6, cf_23_7, cf_23_8, cf_23_9, cf_23_10, cp_23_0, cp_23_1, ci_23, cf_42_0, cf_42_1, cf_42_2, cf_42_3, cp_42_2, cp_42_3, ci_42, cf_47_0, cf_47_1, cf_47_2, cp_47_1, cp_47_2, ci_47, cf_50_0, cf_50_1, cf_50_2, ci_50, cf_57_0, cf_57_1, ci_57, cf_62_0, cf_62_1, ci_62, cf_67_0, cf_67_1, cf_67_2, cf_67_3, cf_67_4, cf_67_5, cp_67_1, cp_67_2, ci_67, cf_76_0, cf_76_1, cf_76_2, cf_76_3, cf_76_4, cf_76_5, cp_76_1, cp_76_2, cp_76_3, ci_76, KK_1, KK_2, e1]
        exact z8
      · have e1 : ¬ nI tc < nI (60000 - v) := nI_nlt (by omega) (by omega)
        refine ⟨v, C, nI (60000 - v), B, H, Rs, hA, hb, Nat.le_refl _, fun x g1 g2 => ?_, fun g => Nat.le_of_lt (hO g), hH, hRs, ?_⟩
        · cases hx : pl (wL μ) (wI μ N) P N x with
          | none => rw [cv_none hx]; exact Nat.zero_le _
          | some s =>
            obtain ⟨R2, tc2⟩ := s
            have hmo := pl_mono hp (N - k) x R2 tc2 g2 (by rw [show k + (N - k) = N by omega]; exact hx)
            rw [cv_some hx]
            rcases hA with hA' | ⟨-, a2, -⟩
            · exact absurd hA' hv
            have hCx : C < x := by
              rcases Nat.lt_or_ge C x with h | h
              · exact h
              · have h4 : x / P ^ (N - k) ≤ C / P ^ (N - k) := Nat.div_le_div_right h
                have h5 := hO hv
                omega
            unfold ck
            by_cases hz : 60000 - tc2 = 0
            · rw [if_pos hz]; exact Nat.zero_le _
            · rw [if_neg hz, if_neg hv]
              omega
        · rw [ef]
          simp (decide := true) only [r_17, s_17_0, s_17_4, s_17_7, s_17_13, s_17_16, Option.bind_some, x_tlv, x_tln, if_true, if_false, cr_isa, R_at, R_has, R_size, R_put, R_isFull, R_add, R_clear, c_has_eq, c_wa_1, c_wa_2, c_ws_1, c_ws_2, cf_0_0, cf_0_1, cf_0_2, cf_0_3, cf_0_4, cf_0_5, cf_0_6, cf_0_7, cf_0_8, cf_0_9, cf_0_10, cf_0_11, cf_0_12, cf_0_13, cp_0_12, cp_0_13, ci_0, cf_1_0, cf_1_1, cf_1_2, cf_1_3, cf_1_4, cp_1_1, cp_1_2, cp_1_3, cp_1_4, ci_1, cf_4_0, cf_4_1, cf_4_2, cf_4_3, cf_4_4, cf_4_5, cf_4_6, cf_4_7, cf_4_8, cf_4_9, cf_4_10, cp_4_0, cp_4_1, ci_4, cf_23_0, cf_23_1, cf_23_2, cf_23_3, cf_23_4, cf_23_5, cf_23_6, cf_23_7, cf_23_8, cf_23_9, cf_23_10, cp_23_0, cp_23_1, ci_23, cf_42_0, cf_42_1, cf_42_2, cf_42_3, cp_42_2, cp_42_3, ci_42, cf_47_0, cf_47_1, cf_47_2, cp_47_1, cp_47_2, ci_47, cf_50_0, cf_50_1, cf_50_2, ci_50, cf_57_0, cf_57_1, ci_57, cf_62_0, cf_62_1, ci_62, cf_67_0, cf_67_1, cf_67_2, cf_67_3, cf_67_4, cf_67_5, cp_67_1, cp_67_2, ci_67, cf_76_0, cf_76_1, cf_76_2, cf_76_3, cf_76_4, cf_76_5, cp_76_1, cp_76_2, cp_76_3, ci_76, KK_1, KK_2, e1]
