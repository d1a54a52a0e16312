/-! reading: the class's clauses -/
theorem c_ws_co (σ : x_S) {o p : Nat} (h : o ≠ p) (k l : Nat) (v w : Int32) : c_ws (c_ws σ o k v) p l w = c_ws (c_ws σ p l w) o k v := by
  unfold c_ws
  congr 1
  funext x
  by_cases hx : x = p
  · subst hx
    simp [Ne.symm h]
  · by_cases hx2 : x = o
    · subst hx2
      simp [h]
    · simp [hx, hx2]
theorem RD_ws (σ : x_S) (a b c e : Int32) {q : Nat} (h : 1 ≠ q) (k : Nat) (v : Int32) : c_ws (RD σ a b c e) q k v = RD (c_ws σ q k v) a b c e := by
  unfold RD
  rw [c_ws_co _ h, c_ws_co _ h, c_ws_co _ h, c_ws_co _ h]
theorem RD_wa (σ : x_S) (a b c e : Int32) (q : Nat) (f : Nat → Int32) : c_wa (RD σ a b c e) q f = RD (c_wa σ q f) a b c e := rfl
theorem RD_o (σ : x_S) (a b c e : Int32) {q : Nat} (h : 1 ≠ q) : (RD σ a b c e).2 q = σ.2 q := by
  unfold RD c_ws
  simp [Ne.symm h]
theorem RD_add (σ : x_S) (a b c e : Int32) {q : Nat} (h : 1 ≠ q) (v : Int32) : c_add (RD σ a b c e) q v = RD (c_add σ q v) a b c e := by
  unfold c_add
  rw [RD_o _ _ _ _ _ h]
  by_cases h1 : Int32.ofNat (c_room q) ≤ σ.2 q 1
  · rw [if_pos h1, if_pos h1]
  · rw [if_neg h1, if_neg h1]
    have e1 : c_pt (RD σ a b c e) q (σ.2 q 1) v = RD (c_pt σ q (σ.2 q 1) v) a b c e := by
      unfold c_pt
      by_cases h2 : x_inb (σ.2 q 1) (c_room q) = true
      · rw [if_pos h2, if_pos h2]
        rfl
      · rw [if_neg h2, if_neg h2]
    rw [e1, RD_ws _ _ _ _ _ h]
theorem c_add_1 (σ : x_S) (q : Nat) (v : Int32) (x : Nat) (h : x ≠ q + 1) : (c_add σ q v).1 x = σ.1 x := by
  unfold c_add c_pt c_wa
  split
  · rfl
  · split
    · show (if x = q + 1 then _ else σ.1 x) = _
      rw [if_neg h]
    · rfl
theorem c_add_2 (σ : x_S) (q : Nat) (v : Int32) (x : Nat) (h : x ≠ q) : (c_add σ q v).2 x = σ.2 x := by
  unfold c_add
  split
  · rfl
  · unfold c_ws
    show (if x = q then _ else (c_pt σ q _ v).2 x) = _
    rw [if_neg h, c_pt_s]
theorem TX_add {σ : x_S} {n : Nat} {f : Nat → Nat} (h : TX σ n f) {q : Nat} (hq : 3 < q) (v : Int32) : TX (c_add σ q v) n f := by
  refine ⟨h.1, ?_, fun k hk => ?_⟩
  · rw [c_add_2 _ _ _ _ (by omega)]; exact h.2.1
  · rw [c_add_1 _ _ _ _ (by omega)]; exact h.2.2 k hk
theorem TX_ws {σ : x_S} {n : Nat} {f : Nat → Nat} (h : TX σ n f) {q : Nat} (hq : 3 < q) (k : Nat) (v : Int32) : TX (c_ws σ q k v) n f := by
  refine ⟨h.1, ?_, h.2.2⟩
  show (if 2 = q then _ else σ.2 2) 1 = _
  rw [if_neg (by omega)]
  exact h.2.1
/-- the blame behind a number, and behind an end -/
def na (a b : Int32) (t q v : Nat) (lo hi : Int32) : Int32 := blp (blp a b (w1 t q) (nI q)) (bln b (w1 t q)) (w2 t q v lo hi) (nI q)
def nb (b : Int32) (t q v : Nat) (lo hi : Int32) : Int32 := bln (bln b (w1 t q)) (w2 t q v lo hi)
def ea (a b : Int32) (f : Nat → Nat) (n q : Nat) : Int32 := blp a b (w3 f n q) (nI q)
def eb (b : Int32) (f : Nat → Nat) (n q : Nat) : Int32 := bln b (w3 f n q)
/-- where a number lies from p on: its place, its end, its value -/
def nq (f : Nat → Nat) (n p : Nat) : Nat := sk f n p
def nt (f : Nat → Nat) (n p : Nat) : Nat := (num f n (sk f n p)).1
def nv (f : Nat → Nat) (n p : Nat) : Nat := (num f n (sk f n p)).2
theorem nt_le (f : Nat → Nat) (n p : Nat) : p ≤ nt f n p ∧ (nt f n p ≤ n ∨ nt f n p = p) := by
  obtain ⟨k1, k2, -⟩ := sk_ok f n p
  obtain ⟨m1, m2, -⟩ := num_ok f n (sk f n p)
  unfold nt
  omega
theorem R_num2 {σ : x_S} {n p : Nat} {f : Nat → Nat} (d : Nat) (h : TX σ n f) (a b e lo hi : Int32) (hp : p < 2 ^ 28) : x_R x_P (d + 3) 46 [.ref 1, .int lo, .int hi] (CG (RD σ a b (nI p) e)) = some (some (.int (nI (nv f n p))), CG (RD σ (na a b (nt f n p) (nq f n p) (nv f n p) lo hi) (nb b (nt f n p) (nq f n p) (nv f n p) lo hi) (nI (nt f n p)) (nI (nq f n p)))) := R_num d h a b e lo hi hp rfl rfl
theorem R_end2 {σ : x_S} {n p : Nat} {f : Nat → Nat} (d : Nat) (h : TX σ n f) (a b e : Int32) (hp : p < 2 ^ 28) : x_R x_P (d + 3) 47 [.ref 1] (CG (RD σ a b (nI p) e)) = some (none, CG (RD σ (ea a b f n (nq f n p)) (eb b f n (nq f n p)) (nI (nq f n p + 1)) e)) := R_end d h a b e hp rfl
theorem R_dues {σ : x_S} {n p : Nat} {f : Nat → Nat} (d : Nat) (h : TX σ n f) (a b e : Int32) (hp : p ≤ 10000) : ∃ A B, x_R x_P (d + 4) 42 [.ref 1, .ref 23] (CG (RD σ a b (nI p) e)) = some (none, CG (RD (c_ws (c_ws σ 23 1 (nI (nv f n p))) 23 0 1) A B (nI (nq f n (nt f n p) + 1)) (nI (nq f n p)))) ∧ A = ea (na a b (nt f n p) (nq f n p) (nv f n p) 0 99) (nb b (nt f n p) (nq f n p) (nv f n p) 0 99) f n (nq f n (nt f n p)) ∧ B = eb (nb b (nt f n p) (nq f n p) (nv f n p) 0 99) f n (nq f n (nt f n p)) := by
  have h1 := h.1
  have k := nt_le f n p
  have hn := R_num2 d h a b e 0 99 (p := p) (by omega)
  have he := fun A B => R_end2 d (TX_ws h (q := 23) (by omega) 1 (nI (nv f n p))) A B (nI (nq f n p)) (p := nt f n p) (by omega)
  refine ⟨_, _, ?_, rfl, rfl⟩
  simp (decide := true) only [r_42, s_42_0, Option.bind_some, x_tlv, x_tln, if_true, if_false, cr_isa, R_at, R_has, R_size, R_put, R_isFull, R_add, R_clear, c_has_eq, c_wa_1, c_wa_2, c_ws_1, c_ws_2, cf_0_0, cf_0_1, cf_0_2, cf_0_3, cf_0_4, cf_0_5, cf_0_6, cf_0_7, cf_0_8, cf_0_9, cf_0_10, cf_0_11, cf_0_12, cf_0_13, cp_0_12, cp_0_13, ci_0, cf_1_0, cf_1_1, cf_1_2, cf_1_3, cf_1_4, cp_1_1, cp_1_2, cp_1_3, cp_1_4, ci_1, cf_4_0, cf_4_1, cf_4_2, cf_4_3, cf_4_4, cf_4_5, cf_4_6, cf_4_7, cf_4_8, cf_4_9, cf_4_10, cp_4_0, cp_4_1, ci_4, cf_23_0, cf_23_1, cf_23_2, cf_23_3, cf_23_4, cf_23_5, cf_23_6, cf_23_7, cf_23_8, cf_23_9, cf_23_10, cp_23_0, cp_23_1, ci_23, cf_42_0, cf_42_1, cf_42_2, cf_42_3, cp_42_2, cp_42_3, ci_42, cf_47_0, cf_47_1, cf_47_2, cp_47_1, cp_47_2, ci_47, cf_50_0, cf_50_1, cf_50_2, ci_50, cf_57_0, cf_57_1, ci_57, cf_62_0, cf_62_1, ci_62, cf_67_0, cf_67_1, cf_67_2, cf_67_3, cf_67_4, cf_67_5, cp_67_1, cp_67_2, ci_67, cf_76_0, cf_76_1, cf_76_2, cf_76_3, cf_76_4, cf_76_5, cp_76_1, cp_76_2, cp_76_3, ci_76, hn, s_42_8, RD_ws, s_42_11, he, s_42_15, s_42_20]
theorem R_use {σ : x_S} {n p : Nat} {f : Nat → Nat} (d : Nat) (h : TX σ n f) (a b e : Int32) (hp : p ≤ 10000) : ∃ A B, x_R x_P (d + 4) 43 [.ref 1, .ref 23] (CG (RD σ a b (nI p) e)) = some (none, CG (RD (c_add σ 24 (nI (nv f n p))) A B (nI (nq f n (nt f n p) + 1)) (nI (nq f n p)))) ∧ A = ea (na a b (nt f n p) (nq f n p) (nv f n p) 1 99) (nb b (nt f n p) (nq f n p) (nv f n p) 1 99) f n (nq f n (nt f n p)) ∧ B = eb (nb b (nt f n p) (nq f n p) (nv f n p) 1 99) f n (nq f n (nt f n p)) := by
  have h1 := h.1
  have k := nt_le f n p
  have hn := R_num2 d h a b e 1 99 (p := p) (by omega)
  have he := fun A B => R_end2 d h A B (nI (nq f n p)) (p := nt f n p) (by omega)
  refine ⟨_, _, ?_, rfl, rfl⟩
  simp (decide := true) only [r_43, s_43_0, Option.bind_some, x_tlv, x_tln, if_true, if_false, cr_isa, R_at, R_has, R_size, R_put, R_isFull, R_add, R_clear, c_has_eq, c_wa_1, c_wa_2, c_ws_1, c_ws_2, cf_0_0, cf_0_1, cf_0_2, cf_0_3, cf_0_4, cf_0_5, cf_0_6, cf_0_7, cf_0_8, cf_0_9, cf_0_10, cf_0_11, cf_0_12, cf_0_13, cp_0_12, cp_0_13, ci_0, cf_1_0, cf_1_1, cf_1_2, cf_1_3, cf_1_4, cp_1_1, cp_1_2, cp_1_3, cp_1_4, ci_1, cf_4_0, cf_4_1, cf_4_2, cf_4_3, cf_4_4, cf_4_5, cf_4_6, cf_4_7, cf_4_8, cf_4_9, cf_4_10, cp_4_0, cp_4_1, ci_4, cf_23_0, cf_23_1, cf_23_2, cf_23_3, cf_23_4, cf_23_5, cf_23_6, cf_23_7, cf_23_8, cf_23_9, cf_23_10, cp_23_0, cp_23_1, ci_23, cf_42_0, cf_42_1, cf_42_2, cf_42_3, cp_42_2, cp_42_3, ci_42, cf_47_0, cf_47_1, cf_47_2, cp_47_1, cp_47_2, ci_47, cf_50_0, cf_50_1, cf_50_2, ci_50, cf_57_0, cf_57_1, ci_57, cf_62_0, cf_62_1, ci_62, cf_67_0, cf_67_1, cf_67_2, cf_67_3, cf_67_4, cf_67_5, cp_67_1, cp_67_2, ci_67, cf_76_0, cf_76_1, cf_76_2, cf_76_3, cf_76_4, cf_76_5, cp_76_1, cp_76_2, cp_76_3, ci_76, hn, s_43_7, he, s_43_12, s_43_16, RD_add, s_43_20]
