/-! reading: letters, both sides -/
def skf (f : Nat → Nat) (n : Nat) : Nat → Nat → Nat
  | 0, p => p
  | m + 1, p => if p < n ∧ f p = 32 then skf f n m (p + 1) else p
/-- where the blanks end -/
def sk (f : Nat → Nat) (n p : Nat) : Nat := skf f n (n - p) p
def nf (f : Nat → Nat) (n q : Nat) : Nat → Nat → Nat → Nat × Nat
  | 0, p, v => (p, v)
  | m + 1, p, v => if p < n ∧ 48 ≤ f p ∧ f p ≤ 57 then nf f n q m (p + 1) (if p - q < 3 then v * 10 + f p - 48 else v) else (p, v)
/-- the figures from q on: where they end, and what the first three of them say -/
def num (f : Nat → Nat) (n q : Nat) : Nat × Nat := nf f n q (n - q) q 0
theorem skf_ok (f : Nat → Nat) (n : Nat) : ∀ m p, n - p ≤ m → p ≤ skf f n m p ∧ (skf f n m p ≤ n ∨ skf f n m p = p) ∧ ¬ (skf f n m p < n ∧ f (skf f n m p) = 32) := by
  intro m
  induction m with
  | zero => intro p h; exact ⟨Nat.le_refl _, Or.inr rfl, fun z => absurd z.1 (by show ¬ p < n; omega)⟩
  | succ m ih =>
    intro p h
    unfold skf
    by_cases hc : p < n ∧ f p = 32
    · rw [if_pos hc]
      obtain ⟨a, b, c⟩ := ih (p + 1) (by omega)
      exact ⟨by omega, Or.inl (by rcases b with b | b <;> omega), c⟩
    · rw [if_neg hc]; exact ⟨Nat.le_refl _, Or.inr rfl, hc⟩
theorem nf_ok (f : Nat → Nat) (n q : Nat) : ∀ m p v, q ≤ p → n - p ≤ m → ((p - q = 0 → v = 0) ∧ (p - q = 1 → v ≤ 9) ∧ (p - q = 2 → v ≤ 99) ∧ v ≤ 999) → p ≤ (nf f n q m p v).1 ∧ ((nf f n q m p v).1 ≤ n ∨ (nf f n q m p v).1 = p) ∧ (nf f n q m p v).2 ≤ 999 ∧ ¬ ((nf f n q m p v).1 < n ∧ 48 ≤ f (nf f n q m p v).1 ∧ f (nf f n q m p v).1 ≤ 57) := by
  intro m
  induction m with
  | zero => intro p v hq h hv; exact ⟨Nat.le_refl _, Or.inr rfl, hv.2.2.2, fun z => absurd z.1 (by show ¬ p < n; omega)⟩
  | succ m ih =>
    intro p v hq h hv
    unfold nf
    by_cases hc : p < n ∧ 48 ≤ f p ∧ f p ≤ 57
    · rw [if_pos hc]
      obtain ⟨a, b, c, e⟩ := ih (p + 1) (if p - q < 3 then v * 10 + f p - 48 else v) (by omega) (by omega) (by split <;> omega)
      exact ⟨by omega, Or.inl (by rcases b with b | b <;> omega), c, e⟩
    · rw [if_neg hc]; exact ⟨Nat.le_refl _, Or.inr rfl, hv.2.2.2, hc⟩
theorem num_ok (f : Nat → Nat) (n q : Nat) : q ≤ (num f n q).1 ∧ ((num f n q).1 ≤ n ∨ (num f n q).1 = q) ∧ (num f n q).2 ≤ 999 := by
  obtain ⟨a, b, c, -⟩ := nf_ok f n q (n - q) q 0 (Nat.le_refl _) (Nat.le_refl _) ⟨fun _ => rfl, fun _ => by omega, fun _ => by omega, by omega⟩
  exact ⟨a, b, c⟩
theorem sk_ok (f : Nat → Nat) (n p : Nat) : p ≤ sk f n p ∧ (sk f n p ≤ n ∨ sk f n p = p) ∧ ¬ (sk f n p < n ∧ f (sk f n p) = 32) := skf_ok f n (n - p) p (Nat.le_refl _)
/-- the text on the class's side -/
def TX (σ : x_S) (n : Nat) (f : Nat → Nat) : Prop := n ≤ 240 ∧ σ.2 2 1 = nI n ∧ ∀ k, k < n → σ.1 3 k = nI (f k) ∧ f k ≤ 255
/-- the reader's four numbers -/
def RD (σ : x_S) (a b c e : Int32) : x_S := c_ws (c_ws (c_ws (c_ws σ 1 1 a) 1 2 b) 1 3 c) 1 4 e
theorem RD_1 (σ : x_S) (a b c e v : Int32) : c_ws (RD σ a b c e) 1 1 v = RD σ v b c e := by
  unfold RD
  rw [c_ws_cm _ 1 4 1 (by decide), c_ws_cm _ 1 3 1 (by decide), c_ws_cm _ 1 2 1 (by decide), c_ws_ws]
theorem RD_2 (σ : x_S) (a b c e v : Int32) : c_ws (RD σ a b c e) 1 2 v = RD σ a v c e := by
  unfold RD
  rw [c_ws_cm _ 1 4 2 (by decide), c_ws_cm _ 1 3 2 (by decide), c_ws_ws]
theorem RD_3 (σ : x_S) (a b c e v : Int32) : c_ws (RD σ a b c e) 1 3 v = RD σ a b v e := by
  unfold RD
  rw [c_ws_cm _ 1 4 3 (by decide), c_ws_ws]
theorem RD_4 (σ : x_S) (a b c e v : Int32) : c_ws (RD σ a b c e) 1 4 v = RD σ a b c v := by
  unfold RD
  rw [c_ws_ws]
theorem RD_a (σ : x_S) (a b c e : Int32) : (RD σ a b c e).2 1 1 = a := rfl
theorem RD_b (σ : x_S) (a b c e : Int32) : (RD σ a b c e).2 1 2 = b := rfl
theorem RD_c (σ : x_S) (a b c e : Int32) : (RD σ a b c e).2 1 3 = c := rfl
theorem RD_e (σ : x_S) (a b c e : Int32) : (RD σ a b c e).2 1 4 = e := rfl
theorem RD_id (σ : x_S) : RD σ (σ.2 1 1) (σ.2 1 2) (σ.2 1 3) (σ.2 1 4) = σ := by
  unfold RD
  rw [c_ws_id, c_ws_id, c_ws_id, c_ws_id]
theorem RD_n (σ : x_S) (a b c e : Int32) : (RD σ a b c e).2 2 1 = σ.2 2 1 := rfl
theorem RD_t {σ : x_S} {n : Nat} {f : Nat → Nat} (h : TX σ n f) (a b c e : Int32) {p : Nat} (hp : p < n) : c_at (RD σ a b c e) 2 (nI p) = nI (f p) := by
  have h1 := h.1
  rw [c_at_n (q := 2) (by show p < 240; omega)]
  exact (h.2.2 p hp).1
theorem E_skip {σ : x_S} {n : Nat} {f : Nat → Nat} (d : Nat) (h : TX σ n f) (a b e : Int32) : ∀ m p, n - p ≤ m → p < 2 ^ 30 → x_E x_P (d + 1) x_c48 0 [.ref 1] [] (CG (RD σ a b (nI p) e)) = some (none, CG (RD σ a b (nI (skf f n m p)) e)) := by
  have h1 := h.1
  have h2 := h.2.1
  intro m
  induction m with
  | zero =>
    intro p hm hp
    have e0 : nI n ≤ nI p := nI_le (by omega) (by omega)
    rw [s_48_0]; simp (decide := true) only [s_48_4, s_48_8, s_48_11, s_48_43, Option.bind_some, x_tlv, x_tln, if_true, if_false, cr_isa, R_at, R_has, R_size, R_put, R_isFull, R_add, R_clear, c_has_eq, c_wa_1, c_wa_2, c_ws_1, c_ws_2, cf_0_0, cf_0_1, cf_0_2, cf_0_3, cf_0_4, cf_0_5, cf_0_6, cf_0_7, cf_0_8, cf_0_9, cf_0_10, cf_0_11, cf_0_12, cf_0_13, cp_0_12, cp_0_13, ci_0, cf_1_0, cf_1_1, cf_1_2, cf_1_3, cf_1_4, cp_1_1, cp_1_2, cp_1_3, cp_1_4, ci_1, cf_4_0, cf_4_1, cf_4_2, cf_4_3, cf_4_4, cf_4_5, cf_4_6, cf_4_7, cf_4_8, cf_4_9, cf_4_10, cp_4_0, cp_4_1, ci_4, cf_23_0, cf_23_1, cf_23_2, cf_23_3, cf_23_4, cf_23_5, cf_23_6, cf_23_7, cf_23_8, cf_23_9, cf_23_10, cp_23_0, cp_23_1, ci_23, cf_42_0, cf_42_1, cf_42_2, cf_42_3, cp_42_2, cp_42_3, ci_42, cf_47_0, cf_47_1, cf_47_2, cp_47_1, cp_47_2, ci_47, cf_50_0, cf_50_1, cf_50_2, ci_50, cf_57_0, cf_57_1, ci_57, cf_62_0, cf_62_1, ci_62, cf_67_0, cf_67_1, cf_67_2, cf_67_3, cf_67_4, cf_67_5, cp_67_1, cp_67_2, ci_67, cf_76_0, cf_76_1, cf_76_2, cf_76_3, cf_76_4, cf_76_5, cp_76_1, cp_76_2, cp_76_3, ci_76, RD_c, RD_n, h2, e0]
    rfl
  | succ m ih =>
    intro p hm hp
    by_cases hn : p < n
    · have e0 : ¬ nI n ≤ nI p := nI_ge (by omega) (by omega)
      have a1 := RD_t h a b (nI p) e hn
      have hf := (h.2.2 p hn).2
      by_cases hc : f p = 32
      · have e1 : nI (f p) = 32 := by rw [hc]; rfl
        have j := ih (p + 1) (by omega) (by omega)
        have es : skf f n (m + 1) p = skf f n m (p + 1) := if_pos ⟨hn, hc⟩
        rw [es]
        rw [s_48_0]; simp (decide := true) only [s_48_4, s_48_8, s_48_11, s_48_14, s_48_18, s_48_22, s_48_25, s_48_30, s_48_35, s_48_40, Option.bind_some, x_tlv, x_tln, if_true, if_false, cr_isa, R_at, R_has, R_size, R_put, R_isFull, R_add, R_clear, c_has_eq, c_wa_1, c_wa_2, c_ws_1, c_ws_2, cf_0_0, cf_0_1, cf_0_2, cf_0_3, cf_0_4, cf_0_5, cf_0_6, cf_0_7, cf_0_8, cf_0_9, cf_0_10, cf_0_11, cf_0_12, cf_0_13, cp_0_12, cp_0_13, ci_0, cf_1_0, cf_1_1, cf_1_2, cf_1_3, cf_1_4, cp_1_1, cp_1_2, cp_1_3, cp_1_4, ci_1, cf_4_0, cf_4_1, cf_4_2, cf_4_3, cf_4_4, cf_4_5, cf_4_6, cf_4_7, cf_4_8, cf_4_9, cf_4_10, cp_4_0, cp_4_1, ci_4, cf_23_0, cf_23_1, cf_23_2, cf_23_3, cf_23_4, cf_23_5, cf_23_6, cf_23_7, cf_23_8, cf_23_9, cf_23_10, cp_23_0, cp_23_1, ci_23, cf_42_0, cf_42_1, cf_42_2, cf_42_3, cp_42_2, cp_42_3, ci_42, cf_47_0, cf_47_1, cf_47_2, cp_47_1, cp_47_2, ci_47, cf_50_0, cf_50_1, cf_50_2, ci_50, cf_57_0, cf_57_1, ci_57, cf_62_0, cf_62_1, ci_62, cf_67_0, cf_67_1, cf_67_2, cf_67_3, cf_67_4, cf_67_5, cp_67_1, cp_67_2, ci_67, cf_76_0, cf_76_1, cf_76_2, cf_76_3, cf_76_4, cf_76_5, cp_76_1, cp_76_2, cp_76_3, ci_76, RD_c, RD_n, h2, e0, a1, e1, nI_1, RD_3]
        exact j
      · have e1 : ¬ nI (f p) = 32 := fun q => hc ((nI_eq (b := 32) (by omega) (by omega)).mp q)
        have es : skf f n (m + 1) p = p := if_neg (fun z => hc z.2)
        rw [es]
        rw [s_48_0]; simp (decide := true) only [s_48_4, s_48_8, s_48_11, s_48_14, s_48_18, s_48_22, s_48_25, s_48_43, Option.bind_some, x_tlv, x_tln, if_true, if_false, cr_isa, R_at, R_has, R_size, R_put, R_isFull, R_add, R_clear, c_has_eq, c_wa_1, c_wa_2, c_ws_1, c_ws_2, cf_0_0, cf_0_1, cf_0_2, cf_0_3, cf_0_4, cf_0_5, cf_0_6, cf_0_7, cf_0_8, cf_0_9, cf_0_10, cf_0_11, cf_0_12, cf_0_13, cp_0_12, cp_0_13, ci_0, cf_1_0, cf_1_1, cf_1_2, cf_1_3, cf_1_4, cp_1_1, cp_1_2, cp_1_3, cp_1_4, ci_1, cf_4_0, cf_4_1, cf_4_2, cf_4_3, cf_4_4, cf_4_5, cf_4_6, cf_4_7, cf_4_8, cf_4_9, cf_4_10, cp_4_0, cp_4_1, ci_4, cf_23_0, cf_23_1, cf_23_2, cf_23_3, cf_23_4, cf_23_5, cf_23_6, cf_23_7, cf_23_8, cf_23_9, cf_23_10, cp_23_0, cp_23_1, ci_23, cf_42_0, cf_42_1, cf_42_2, cf_42_3, cp_42_2, cp_42_3, ci_42, cf_47_0, cf_47_1, cf_47_2, cp_47_1, cp_47_2, ci_47, cf_50_0, cf_50_1, cf_50_2, ci_50, cf_57_0, cf_57_1, ci_57, cf_62_0, cf_62_1, ci_62, cf_67_0, cf_67_1, cf_67_2, cf_67_3, cf_67_4, cf_67_5, cp_67_1, cp_67_2, ci_67, cf_76_0, cf_76_1, cf_76_2, cf_76_3, cf_76_4, cf_76_5, cp_76_1, cp_76_2, cp_76_3, ci_76, RD_c, RD_n, h2, e0, a1, e1]
    · have e0 : nI n ≤ nI p := nI_le (by omega) (by omega)
      have es : skf f n (m + 1) p = p := if_neg (fun z => hn z.1)
      rw [es]
      rw [s_48_0]; simp (decide := true) only [s_48_4, s_48_8, s_48_11, s_48_43, Option.bind_some, x_tlv, x_tln, if_true, if_false, cr_isa, R_at, R_has, R_size, R_put, R_isFull, R_add, R_clear, c_has_eq, c_wa_1, c_wa_2, c_ws_1, c_ws_2, cf_0_0, cf_0_1, cf_0_2, cf_0_3, cf_0_4, cf_0_5, cf_0_6, cf_0_7, cf_0_8, cf_0_9, cf_0_10, cf_0_11, cf_0_12, cf_0_13, cp_0_12, cp_0_13, ci_0, cf_1_0, cf_1_1, cf_1_2, cf_1_3, cf_1_4, cp_1_1, cp_1_2, cp_1_3, cp_1_4, ci_1, cf_4_0, cf_4_1, cf_4_2, cf_4_3, cf_4_4, cf_4_5, cf_4_6, cf_4_7, cf_4_8, cf_4_9, cf_4_10, cp_4_0, cp_4_1, ci_4, cf_23_0, cf_23_1, cf_23_2, cf_23_3, cf_23_4, cf_23_5, cf_23_6, cf_23_7, cf_23_8, cf_23_9, cf_23_10, cp_23_0, cp_23_1, ci_23, cf_42_0, cf_42_1, cf_42_2, cf_42_3, cp_42_2, cp_42_3, ci_42, cf_47_0, cf_47_1, cf_47_2, cp_47_1, cp_47_2, ci_47, cf_50_0, cf_50_1, cf_50_2, ci_50, cf_57_0, cf_57_1, ci_57, cf_62_0, cf_62_1, ci_62, cf_67_0, cf_67_1, cf_67_2, cf_67_3, cf_67_4, cf_67_5, cp_67_1, cp_67_2, ci_67, cf_76_0, cf_76_1, cf_76_2, cf_76_3, cf_76_4, cf_76_5, cp_76_1, cp_76_2, cp_76_3, ci_76, RD_c, RD_n, h2, e0]
theorem R_skip {σ : x_S} {n : Nat} {f : Nat → Nat} (d : Nat) (h : TX σ n f) (a b e : Int32) {p : Nat} (hp : p < 2 ^ 30) : x_R x_P (d + 2) 48 [.ref 1] (CG (RD σ a b (nI p) e)) = some (none, CG (RD σ a b (nI (sk f n p)) e)) := by
  rw [r_48]
  exact E_skip d h a b e (n - p) p (Nat.le_refl _) hp
/-- blamed: the first stays -/
def bl (fp fn w : Nat) : Nat := if w = 0 ∨ fn ≠ 0 then fn else w
def blp (fp fn w q : Int32) : Int32 := if w = 0 ∨ fn ≠ 0 then fp else q
def bln (fn w : Int32) : Int32 := if w = 0 ∨ fn ≠ 0 then fn else w
theorem R_blame (d : Nat) (σ : x_S) (fp fn c e w q : Int32) : x_R x_P (d + 1) 50 [.ref 1, .int w, .int q] (CG (RD σ fp fn c e)) = some (none, CG (RD σ (blp fp fn w q) (bln fn w) c e)) := by
  unfold blp bln
  by_cases h1 : w = 0
  · simp (decide := true) only [r_50, s_50_0, s_50_11, h1, true_or, if_true]
  · by_cases h2 : fn = 0
    · simp (decide := true) only [r_50, s_50_0, s_50_4, s_50_8, s_50_12, s_50_17, s_50_22, Option.bind_some, x_tlv, x_tln, if_true, if_false, cr_isa, R_at, R_has, R_size, R_put, R_isFull, R_add, R_clear, c_has_eq, c_wa_1, c_wa_2, c_ws_1, c_ws_2, cf_0_0, cf_0_1, cf_0_2, cf_0_3, cf_0_4, cf_0_5, cf_0_6, cf_0_7, cf_0_8, cf_0_9, cf_0_10, cf_0_11, cf_0_12, cf_0_13, cp_0_12, cp_0_13, ci_0, cf_1_0, cf_1_1, cf_1_2, cf_1_3, cf_1_4, cp_1_1, cp_1_2, cp_1_3, cp_1_4, ci_1, cf_4_0, cf_4_1, cf_4_2, cf_4_3, cf_4_4, cf_4_5, cf_4_6, cf_4_7, cf_4_8, cf_4_9, cf_4_10, cp_4_0, cp_4_1, ci_4, cf_23_0, cf_23_1, cf_23_2, cf_23_3, cf_23_4, cf_23_5, cf_23_6, cf_23_7, cf_23_8, cf_23_9, cf_23_10, cp_23_0, cp_23_1, ci_23, cf_42_0, cf_42_1, cf_42_2, cf_42_3, cp_42_2, cp_42_3, ci_42, cf_47_0, cf_47_1, cf_47_2, cp_47_1, cp_47_2, ci_47, cf_50_0, cf_50_1, cf_50_2, ci_50, cf_57_0, cf_57_1, ci_57, cf_62_0, cf_62_1, ci_62, cf_67_0, cf_67_1, cf_67_2, cf_67_3, cf_67_4, cf_67_5, cp_67_1, cp_67_2, ci_67, cf_76_0, cf_76_1, cf_76_2, cf_76_3, cf_76_4, cf_76_5, cp_76_1, cp_76_2, cp_76_3, ci_76, RD_b, h1, h2, RD_2, RD_1, ne_eq, not_true, or_self, if_false]
    · simp (decide := true) only [r_50, s_50_0, s_50_4, s_50_8, s_50_11, Option.bind_some, x_tlv, x_tln, if_true, if_false, cr_isa, R_at, R_has, R_size, R_put, R_isFull, R_add, R_clear, c_has_eq, c_wa_1, c_wa_2, c_ws_1, c_ws_2, cf_0_0, cf_0_1, cf_0_2, cf_0_3, cf_0_4, cf_0_5, cf_0_6, cf_0_7, cf_0_8, cf_0_9, cf_0_10, cf_0_11, cf_0_12, cf_0_13, cp_0_12, cp_0_13, ci_0, cf_1_0, cf_1_1, cf_1_2, cf_1_3, cf_1_4, cp_1_1, cp_1_2, cp_1_3, cp_1_4, ci_1, cf_4_0, cf_4_1, cf_4_2, cf_4_3, cf_4_4, cf_4_5, cf_4_6, cf_4_7, cf_4_8, cf_4_9, cf_4_10, cp_4_0, cp_4_1, ci_4, cf_23_0, cf_23_1, cf_23_2, cf_23_3, cf_23_4, cf_23_5, cf_23_6, cf_23_7, cf_23_8, cf_23_9, cf_23_10, cp_23_0, cp_23_1, ci_23, cf_42_0, cf_42_1, cf_42_2, cf_42_3, cp_42_2, cp_42_3, ci_42, cf_47_0, cf_47_1, cf_47_2, cp_47_1, cp_47_2, ci_47, cf_50_0, cf_50_1, cf_50_2, ci_50, cf_57_0, cf_57_1, ci_57, cf_62_0, cf_62_1, ci_62, cf_67_0, cf_67_1, cf_67_2, cf_67_3, cf_67_4, cf_67_5, cp_67_1, cp_67_2, ci_67, cf_76_0, cf_76_1, cf_76_2, cf_76_3, cf_76_4, cf_76_5, cp_76_1, cp_76_2, cp_76_3, ci_76, RD_b, h1, h2, ne_eq, not_false_eq_true, or_true, if_true]
theorem R_isF (d : Nat) (h : x_H) (c : Nat) (hc : c < 1000) : x_R x_P (d + 1) 49 [.int (nI c)] h = some (some (.int (if 48 ≤ c ∧ c ≤ 57 then 1 else 0)), h) := by
  by_cases h1 : c < 48
  · have e1 : nI c < 48 := nI_lt (b := 48) h1 (by omega)
    simp (decide := true) only [r_49, s_49_0, s_49_16, e1, if_true]
    rw [if_neg (by omega)]
  · have e1 : ¬ nI c < 48 := nI_nlt (b := 48) (by omega) (by omega)
    by_cases h2 : c ≤ 57
    · have e2 : ¬ (57 : Int32) < nI c := nI_nlt (a := 57) h2 (by omega)
      simp (decide := true) only [r_49, s_49_0, s_49_6, s_49_12, e1, e2, if_false]
      rw [if_pos ⟨by omega, h2⟩]
    · have e2 : (57 : Int32) < nI c := nI_lt (a := 57) (by omega) (by omega)
      simp (decide := true) only [r_49, s_49_0, s_49_6, s_49_16, e1, e2, if_false, if_true]
      rw [if_neg (by omega)]
theorem E_num {σ : x_S} {n q : Nat} {f : Nat → Nat} (d : Nat) (h : TX σ n f) (a b e lo hi : Int32) (hq : q < 2 ^ 29) : ∀ m p v, q ≤ p → n - p ≤ m → p ≤ q + 240 → ((p - q = 0 → v = 0) ∧ (p - q = 1 → v ≤ 9) ∧ (p - q = 2 → v ≤ 99) ∧ v ≤ 999) → x_E x_P (d + 1) x_c46 12 [.ref 1, .int lo, .int hi, .int (nI q), .int (nI v)] [] (CG (RD σ a b (nI p) e)) = x_E x_P (d + 1) x_c46 88 [.ref 1, .int lo, .int hi, .int (nI q), .int (nI (nf f n q m p v).2)] [] (CG (RD σ a b (nI (nf f n q m p v).1) e)) := by
  have h1 := h.1
  have h2 := h.2.1
  intro m
  induction m with
  | zero =>
    intro p v hp hm hp2 hv
    have e0 : nI n ≤ nI p := nI_le (by omega) (by omega)
    rw [s_46_12]; simp (decide := true) only [s_46_16, s_46_20, s_46_23, Option.bind_some, x_tlv, x_tln, if_true, if_false, cr_isa, R_at, R_has, R_size, R_put, R_isFull, R_add, R_clear, c_has_eq, c_wa_1, c_wa_2, c_ws_1, c_ws_2, cf_0_0, cf_0_1, cf_0_2, cf_0_3, cf_0_4, cf_0_5, cf_0_6, cf_0_7, cf_0_8, cf_0_9, cf_0_10, cf_0_11, cf_0_12, cf_0_13, cp_0_12, cp_0_13, ci_0, cf_1_0, cf_1_1, cf_1_2, cf_1_3, cf_1_4, cp_1_1, cp_1_2, cp_1_3, cp_1_4, ci_1, cf_4_0, cf_4_1, cf_4_2, cf_4_3, cf_4_4, cf_4_5, cf_4_6, cf_4_7, cf_4_8, cf_4_9, cf_4_10, cp_4_0, cp_4_1, ci_4, cf_23_0, cf_23_1, cf_23_2, cf_23_3, cf_23_4, cf_23_5, cf_23_6, cf_23_7, cf_23_8, cf_23_9, cf_23_10, cp_23_0, cp_23_1, ci_23, cf_42_0, cf_42_1, cf_42_2, cf_42_3, cp_42_2, cp_42_3, ci_42, cf_47_0, cf_47_1, cf_47_2, cp_47_1, cp_47_2, ci_47, cf_50_0, cf_50_1, cf_50_2, ci_50, cf_57_0, cf_57_1, ci_57, cf_62_0, cf_62_1, ci_62, cf_67_0, cf_67_1, cf_67_2, cf_67_3, cf_67_4, cf_67_5, cp_67_1, cp_67_2, ci_67, cf_76_0, cf_76_1, cf_76_2, cf_76_3, cf_76_4, cf_76_5, cp_76_1, cp_76_2, cp_76_3, ci_76, RD_c, RD_n, h2, e0]
    rfl
  | succ m ih =>
    intro p v hp hm hp2 hv
    by_cases hn : p < n
    · have e0 : ¬ nI n ≤ nI p := nI_ge (by omega) (by omega)
      have a1 := RD_t h a b (nI p) e hn
      have hf := (h.2.2 p hn).2
      have hF := fun H => R_isF d H (f p) (by omega)
      by_cases hc : 48 ≤ f p ∧ f p ≤ 57
      · rw [show nf f n q (m + 1) p v = nf f n q m (p + 1) (if p - q < 3 then v * 10 + f p - 48 else v) from if_pos ⟨hn, hc⟩]
        have hF1 : ∀ H, x_R x_P (d + 1) 49 [.int (nI (f p))] H = some (some (.int 1), H) := fun H => by rw [hF, if_pos hc]
        have e3 : nI p - nI q = nI (p - q) := pk_sub hp
        by_cases hl : p - q < 3
        · have e4 : ¬ (3 : Int32) ≤ nI (p - q) := nI_ge (b := 3) hl (by omega)
          have e5 : nI v * 10 + nI (f p) - 48 = nI (v * 10 + f p - 48) := by
            rw [show (10 : Int32) = nI 10 from rfl, pk_mul, nI_add, show (48 : Int32) = nI 48 from rfl, pk_sub (by omega)]
          have j := ih (p + 1) (v * 10 + f p - 48) (by omega) (by omega) (by omega) (by omega)
          rw [if_pos hl]
          rw [s_46_12]; simp (decide := true) only [s_46_16, s_46_20, s_46_23, s_46_26, s_46_30, s_46_34, s_46_37, s_46_40, s_46_43, s_46_47, s_46_53, s_46_62, s_46_66, s_46_69, s_46_80, s_46_85, Option.bind_some, x_tlv, x_tln, if_true, if_false, cr_isa, R_at, R_has, R_size, R_put, R_isFull, R_add, R_clear, c_has_eq, c_wa_1, c_wa_2, c_ws_1, c_ws_2, cf_0_0, cf_0_1, cf_0_2, cf_0_3, cf_0_4, cf_0_5, cf_0_6, cf_0_7, cf_0_8, cf_0_9, cf_0_10, cf_0_11, cf_0_12, cf_0_13, cp_0_12, cp_0_13, ci_0, cf_1_0, cf_1_1, cf_1_2, cf_1_3, cf_1_4, cp_1_1, cp_1_2, cp_1_3, cp_1_4, ci_1, cf_4_0, cf_4_1, cf_4_2, cf_4_3, cf_4_4, cf_4_5, cf_4_6, cf_4_7, cf_4_8, cf_4_9, cf_4_10, cp_4_0, cp_4_1, ci_4, cf_23_0, cf_23_1, cf_23_2, cf_23_3, cf_23_4, cf_23_5, cf_23_6, cf_23_7, cf_23_8, cf_23_9, cf_23_10, cp_23_0, cp_23_1, ci_23, cf_42_0, cf_42_1, cf_42_2, cf_42_3, cp_42_2, cp_42_3, ci_42, cf_47_0, cf_47_1, cf_47_2, cp_47_1, cp_47_2, ci_47, cf_50_0, cf_50_1, cf_50_2, ci_50, cf_57_0, cf_57_1, ci_57, cf_62_0, cf_62_1, ci_62, cf_67_0, cf_67_1, cf_67_2, cf_67_3, cf_67_4, cf_67_5, cp_67_1, cp_67_2, ci_67, cf_76_0, cf_76_1, cf_76_2, cf_76_3, cf_76_4, cf_76_5, cp_76_1, cp_76_2, cp_76_3, ci_76, RD_c, RD_n, h2, e0, a1, hF1, e3, e4, e5, nI_1, RD_3]
          exact j
        · have e4 : (3 : Int32) ≤ nI (p - q) := nI_le (a := 3) (by omega) (by omega)
          have j := ih (p + 1) v (by omega) (by omega) (by omega) (by omega)
          rw [if_neg hl]
          rw [s_46_12]; simp (decide := true) only [s_46_16, s_46_20, s_46_23, s_46_26, s_46_30, s_46_34, s_46_37, s_46_40, s_46_43, s_46_47, s_46_75, s_46_80, s_46_85, Option.bind_some, x_tlv, x_tln, if_true, if_false, cr_isa, R_at, R_has, R_size, R_put, R_isFull, R_add, R_clear, c_has_eq, c_wa_1, c_wa_2, c_ws_1, c_ws_2, cf_0_0, cf_0_1, cf_0_2, cf_0_3, cf_0_4, cf_0_5, cf_0_6, cf_0_7, cf_0_8, cf_0_9, cf_0_10, cf_0_11, cf_0_12, cf_0_13, cp_0_12, cp_0_13, ci_0, cf_1_0, cf_1_1, cf_1_2, cf_1_3, cf_1_4, cp_1_1, cp_1_2, cp_1_3, cp_1_4, ci_1, cf_4_0, cf_4_1, cf_4_2, cf_4_3, cf_4_4, cf_4_5, cf_4_6, cf_4_7, cf_4_8, cf_4_9, cf_4_10, cp_4_0, cp_4_1, ci_4, cf_23_0, cf_23_1, cf_23_2, cf_23_3, cf_23_4, cf_23_5, cf_23_6, cf_23_7, cf_23_8, cf_23_9, cf_23_10, cp_23_0, cp_23_1, ci_23, cf_42_0, cf_42_1, cf_42_2, cf_42_3, cp_42_2, cp_42_3, ci_42, cf_47_0, cf_47_1, cf_47_2, cp_47_1, cp_47_2, ci_47, cf_50_0, cf_50_1, cf_50_2, ci_50, cf_57_0, cf_57_1, ci_57, cf_62_0, cf_62_1, ci_62, cf_67_0, cf_67_1, cf_67_2, cf_67_3, cf_67_4, cf_67_5, cp_67_1, cp_67_2, ci_67, cf_76_0, cf_76_1, cf_76_2, cf_76_3, cf_76_4, cf_76_5, cp_76_1, cp_76_2, cp_76_3, ci_76, RD_c, RD_n, h2, e0, a1, hF1, e3, e4, nI_1, RD_3]
          exact j
      · have hF1 : ∀ H, x_R x_P (d + 1) 49 [.int (nI (f p))] H = some (some (.int 0), H) := fun H => by rw [hF, if_neg hc]
        rw [show nf f n q (m + 1) p v = (p, v) from if_neg (fun z => hc z.2)]
        rw [s_46_12]; simp (decide := true) only [s_46_16, s_46_20, s_46_23, s_46_26, s_46_30, s_46_34, s_46_37, s_46_40, Option.bind_some, x_tlv, x_tln, if_true, if_false, cr_isa, R_at, R_has, R_size, R_put, R_isFull, R_add, R_clear, c_has_eq, c_wa_1, c_wa_2, c_ws_1, c_ws_2, cf_0_0, cf_0_1, cf_0_2, cf_0_3, cf_0_4, cf_0_5, cf_0_6, cf_0_7, cf_0_8, cf_0_9, cf_0_10, cf_0_11, cf_0_12, cf_0_13, cp_0_12, cp_0_13, ci_0, cf_1_0, cf_1_1, cf_1_2, cf_1_3, cf_1_4, cp_1_1, cp_1_2, cp_1_3, cp_1_4, ci_1, cf_4_0, cf_4_1, cf_4_2, cf_4_3, cf_4_4, cf_4_5, cf_4_6, cf_4_7, cf_4_8, cf_4_9, cf_4_10, cp_4_0, cp_4_1, ci_4, cf_23_0, cf_23_1, cf_23_2, cf_23_3, cf_23_4, cf_23_5, cf_23_6, cf_23_7, cf_23_8, cf_23_9, cf_23_10, cp_23_0, cp_23_1, ci_23, cf_42_0, cf_42_1, cf_42_2, cf_42_3, cp_42_2, cp_42_3, ci_42, cf_47_0, cf_47_1, cf_47_2, cp_47_1, cp_47_2, ci_47, cf_50_0, cf_50_1, cf_50_2, ci_50, cf_57_0, cf_57_1, ci_57, cf_62_0, cf_62_1, ci_62, cf_67_0, cf_67_1, cf_67_2, cf_67_3, cf_67_4, cf_67_5, cp_67_1, cp_67_2, ci_67, cf_76_0, cf_76_1, cf_76_2, cf_76_3, cf_76_4, cf_76_5, cp_76_1, cp_76_2, cp_76_3, ci_76, RD_c, RD_n, h2, e0, a1, hF1]
    · have e0 : nI n ≤ nI p := nI_le (by omega) (by omega)
      rw [show nf f n q (m + 1) p v = (p, v) from if_neg (fun z => hn z.1)]
      rw [s_46_12]; simp (decide := true) only [s_46_16, s_46_20, s_46_23, Option.bind_some, x_tlv, x_tln, if_true, if_false, cr_isa, R_at, R_has, R_size, R_put, R_isFull, R_add, R_clear, c_has_eq, c_wa_1, c_wa_2, c_ws_1, c_ws_2, cf_0_0, cf_0_1, cf_0_2, cf_0_3, cf_0_4, cf_0_5, cf_0_6, cf_0_7, cf_0_8, cf_0_9, cf_0_10, cf_0_11, cf_0_12, cf_0_13, cp_0_12, cp_0_13, ci_0, cf_1_0, cf_1_1, cf_1_2, cf_1_3, cf_1_4, cp_1_1, cp_1_2, cp_1_3, cp_1_4, ci_1, cf_4_0, cf_4_1, cf_4_2, cf_4_3, cf_4_4, cf_4_5, cf_4_6, cf_4_7, cf_4_8, cf_4_9, cf_4_10, cp_4_0, cp_4_1, ci_4, cf_23_0, cf_23_1, cf_23_2, cf_23_3, cf_23_4, cf_23_5, cf_23_6, cf_23_7, cf_23_8, cf_23_9, cf_23_10, cp_23_0, cp_23_1, ci_23, cf_42_0, cf_42_1, cf_42_2, cf_42_3, cp_42_2, cp_42_3, ci_42, cf_47_0, cf_47_1, cf_47_2, cp_47_1, cp_47_2, ci_47, cf_50_0, cf_50_1, cf_50_2, ci_50, cf_57_0, cf_57_1, ci_57, cf_62_0, cf_62_1, ci_62, cf_67_0, cf_67_1, cf_67_2, cf_67_3, cf_67_4, cf_67_5, cp_67_1, cp_67_2, ci_67, cf_76_0, cf_76_1, cf_76_2, cf_76_3, cf_76_4, cf_76_5, cp_76_1, cp_76_2, cp_76_3, ci_76, RD_c, RD_n, h2, e0]
