/-! numbers, small helps -/
theorem x_tlv (v : Value) (l : List Value) : (some v).toList ++ l = v :: l := rfl
theorem x_tln (l : List Value) : (none : Option Value).toList ++ l = l := rfl
theorem x_wlt (a b : Int32) : a.toInt64 < b.toInt64 ↔ a < b := by
  rw [Int64.lt_iff_toInt_lt, Int32.lt_iff_toInt_lt, Int32.toInt_toInt64, Int32.toInt_toInt64]
theorem x_wle (a b : Int32) : a.toInt64 ≤ b.toInt64 ↔ a ≤ b := by
  rw [Int64.le_iff_toInt_le, Int32.le_iff_toInt_le, Int32.toInt_toInt64, Int32.toInt_toInt64]
theorem x_lit (n : Nat) : (OfNat.ofNat n : Int32) = nI n := rfl
theorem x_w0 : (0 : Int64) = (0 : Int32).toInt64 := by decide
theorem x_w1 : (1 : Int64) = (1 : Int32).toInt64 := by decide
theorem x_w3 : (3 : Int64) = (3 : Int32).toInt64 := by decide
theorem x_w20 : (20 : Int64) = (20 : Int32).toInt64 := by decide
theorem x_w40 : (40 : Int64) = (40 : Int32).toInt64 := by decide
theorem x_w48 : (48 : Int64) = (48 : Int32).toInt64 := by decide
theorem x_w57 : (57 : Int64) = (57 : Int32).toInt64 := by decide
theorem x_w99 : (99 : Int64) = (99 : Int32).toInt64 := by decide
theorem x_w100 : (100 : Int64) = (100 : Int32).toInt64 := by decide
theorem x_w255 : (255 : Int64) = (255 : Int32).toInt64 := by decide
theorem x_w999 : (999 : Int64) = (999 : Int32).toInt64 := by decide
theorem x_w9999 : (9999 : Int64) = (9999 : Int32).toInt64 := by decide
/-- a truth as a number -/
def x_b (p : Prop) [Decidable p] : Int32 := if p then 1 else 0
theorem x_b_t {p : Prop} [Decidable p] (h : p) : x_b p = 1 := if_pos h
theorem x_b_f {p : Prop} [Decidable p] (h : ¬ p) : x_b p = 0 := if_neg h
theorem x_b_0 {p : Prop} [Decidable p] : x_b p = 0 ↔ ¬ p := by
  unfold x_b
  split
  · simp only [*, not_true, iff_false]; decide
  · simp only [*, not_false_eq_true]
theorem x_b_and {p : Prop} [Decidable p] : x_b p &&& 1 = x_b p := by
  unfold x_b
  split <;> rfl
theorem M_in (d : Nat) (h : x_H) (v lo hi : Int64) : x_R x_P (d + 1) 112 [.long v, .long lo, .long hi] h = some (some (.int (x_b (lo ≤ v ∧ v ≤ hi))), h) := by
  rw [r_112, s_112_0]
  by_cases h1 : lo ≤ v
  · have e1 : ¬ lg_cmp v lo < 0 := by
      have := (lg_cmp_ge v lo).mpr h1
      exact Int32.not_lt.mpr this
    rw [if_neg e1, s_112_6]
    by_cases h2 : v ≤ hi
    · have e2 : ¬ 0 < lg_cmp v hi := by
        unfold lg_cmp
        rw [if_neg (by exact Int64.not_lt.mpr h2)]
        split <;> decide
      rw [if_neg e2, s_112_13, x_b_t ⟨h1, h2⟩]
    · have e2 : 0 < lg_cmp v hi := by
        unfold lg_cmp
        rw [if_pos (by exact Int64.not_le.mp h2)]
        decide
      rw [if_pos e2, s_112_17, x_b_f (fun z => h2 z.2)]
  · have e1 : lg_cmp v lo < 0 := by
      have h3 : v < lo := Int64.not_le.mp h1
      unfold lg_cmp
      rw [if_neg (by exact Int64.not_lt.mpr (Int64.le_of_lt h3)), if_neg (by intro z; subst z; exact h1 Int64.le_rfl)]
      decide
    rw [if_pos e1, s_112_17, x_b_f (fun z => h1 z.1)]
/-- an index is one of n -/
def x_hv (u n : Int32) : Int32 := x_b (¬ u < 0 ∧ u < n)
theorem c_has_eq (σ : x_S) (q : Nat) (i : Int32) : c_has σ q i = x_hv i (σ.2 q 1) := rfl
theorem x_hv_in {U : Nat} (hU : U < 1000) (u : Int32) : x_b ((0 : Int32) ≤ u ∧ u ≤ nI U - 1) = x_hv u (nI U) := by
  unfold x_hv
  have e : ((0 : Int32) ≤ u ∧ u ≤ nI U - 1) ↔ (¬ u < 0 ∧ u < nI U) := by
    have h1 : (nI U - 1).toInt = (U : Int) - 1 := pk_sub_toInt (a := U) (b := 1) (by omega) (by omega)
    have h2 : (nI U).toInt = (U : Int) := nI_toInt (by omega)
    have h0 : (0 : Int32).toInt = 0 := rfl
    rw [Int32.le_iff_toInt_le, Int32.le_iff_toInt_le, Int32.lt_iff_toInt_lt, Int32.lt_iff_toInt_lt, h1, h2, h0]
    omega
  unfold x_b
  simp only [e]
theorem x_hv_cases {U : Nat} (hU : U < 1000) (u : Int32) : x_hv u (nI U) = 0 ∨ ∃ k, k < U ∧ u = nI k ∧ x_hv u (nI U) = 1 := by
  by_cases h : ¬ u < 0 ∧ u < nI U
  · obtain ⟨j, hj, rfl⟩ := nI_of h.1
    exact Or.inr ⟨j, (nI_ltI hj (by omega)).mp h.2, rfl, x_b_t h⟩
  · exact Or.inl (x_b_f h)
theorem x_hv_1 {U k : Nat} (hU : U < 1000) (hk : k < U) : x_hv (nI k) (nI U) = 1 := x_b_t ⟨nI_pos (by omega), nI_lt hk (by omega)⟩
theorem x_inb_nI {k n : Nat} (hk : k < 2 ^ 31) : x_inb (nI k) n = decide (k < n) := by
  unfold x_inb
  rw [nI_clamp hk]
  simp [nI_pos hk]
theorem x_inb_t {k n : Nat} (hk : k < n) (hn : n < 2 ^ 31) : x_inb (nI k) n = true := by rw [x_inb_nI (by omega)]; simp [hk]
theorem c_at_n {σ : x_S} {q k : Nat} (hk : k < c_room q) : c_at σ q (nI k) = σ.1 (q + 1) k := by
  have h := c_room_lt q
  unfold c_at
  rw [if_pos (x_inb_t hk h), nI_clamp (by omega)]
theorem c_pt_n {σ : x_S} {q k : Nat} {v : Int32} (hk : k < c_room q) : c_pt σ q (nI k) v = c_wa σ (q + 1) (upd (σ.1 (q + 1)) k v) := by
  have h := c_room_lt q
  unfold c_pt
  rw [if_pos (x_inb_t hk h), nI_clamp (by omega)]
/-- a number within bounds -/
def Rg (v : Int32) (lo hi : Nat) : Prop := ∃ n : Nat, v = nI n ∧ lo ≤ n ∧ n ≤ hi
def Rl (v : Int32) (n : Nat) : Prop := ∃ k : Nat, v = nI k ∧ k < n
theorem x_len64 (a b : Int32) : (a.toInt64 = b.toInt64) ↔ a = b := by
  rw [← Int64.toInt_inj, ← Int32.toInt_inj, Int32.toInt_toInt64, Int32.toInt_toInt64]
theorem c_wa_1 (σ : x_S) (a q : Nat) (f : Nat → Int32) : (c_wa σ a f).1 q = if q = a then f else σ.1 q := rfl
theorem c_wa_2 (σ : x_S) (a : Nat) (f : Nat → Int32) : (c_wa σ a f).2 = σ.2 := rfl
theorem c_ws_1 (σ : x_S) (o k : Nat) (v : Int32) : (c_ws σ o k v).1 = σ.1 := rfl
theorem c_ws_2 (σ : x_S) (o k q : Nat) (v : Int32) : (c_ws σ o k v).2 q = if q = o then (fun j => if j = k then v else σ.2 o j) else σ.2 q := rfl
theorem m_wa_1 (μ : x_U) (q j : Nat) (f : Nat → Int32) : (m_wa μ q f).1 j = if j = q then f else μ.1 j := rfl
theorem m_wa_s (μ : x_U) (q : Nat) (f : Nat → Int32) : (m_wa μ q f).2 = μ.2 := rfl
theorem m_wb_1 (μ : x_U) (q : Nat) (f : Nat → Int64) : (m_wb μ q f).1 = μ.1 := rfl
theorem m_wb_2 (μ : x_U) (q j : Nat) (f : Nat → Int64) : (m_wb μ q f).2.1 j = if j = q then f else μ.2.1 j := rfl
theorem m_wb_s (μ : x_U) (q : Nat) (f : Nat → Int64) : (m_wb μ q f).2.2 = μ.2.2 := rfl
theorem m_ws_1 (μ : x_U) (k : Nat) (v : Int32) : (m_ws μ k v).1 = μ.1 := rfl
theorem m_ws_b (μ : x_U) (k : Nat) (v : Int32) : (m_ws μ k v).2.1 = μ.2.1 := rfl
theorem m_ws_s (μ : x_U) (k j : Nat) (v : Int32) : (m_ws μ k v).2.2.1 j = if j = k then v else μ.2.2.1 j := rfl
theorem m_ws_e (μ : x_U) (k : Nat) (v : Int32) : (m_ws μ k v).2.2.2 = μ.2.2.2 := rfl
theorem m_we_1 (μ : x_U) (v : Int64) : (m_we μ v).1 = μ.1 := rfl
theorem m_we_b (μ : x_U) (v : Int64) : (m_we μ v).2.1 = μ.2.1 := rfl
theorem m_we_s (μ : x_U) (v : Int64) : (m_we μ v).2.2.1 = μ.2.2.1 := rfl
theorem m_we_e (μ : x_U) (v : Int64) : (m_we μ v).2.2.2 = v := rfl
theorem upd_s (f : Nat → Int32) (k : Nat) (x : Int32) : upd f k x k = x := if_pos rfl
theorem upd_n (f : Nat → Int32) (k j : Nat) (x : Int32) (h : ¬ j = k) : upd f k x j = f j := if_neg h
theorem x_ltn (a b : Int32) : (a < b) = ¬ (b ≤ a) := propext ⟨fun h => Int32.not_le.mpr h, fun h => Int32.not_le.mp h⟩
