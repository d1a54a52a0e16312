/-! THE CLASS'S ROWS: what their methods answer -/
theorem nI_def (n : Nat) : Int32.ofNat n = nI n := rfl
theorem x_inb_iff {b : Int32} {n : Nat} (hn : n < 2 ^ 31) : x_inb b n = true ↔ ¬ b < 0 ∧ ¬ Int32.ofNat n ≤ b := by
  simp only [x_inb, Bool.and_eq_true, decide_eq_true_eq]
  constructor
  · rintro ⟨h1, h2⟩
    obtain ⟨j, hj, rfl⟩ := nI_of h1
    refine ⟨h1, ?_⟩
    rw [nI_clamp hj] at h2
    rw [nI_def, nI_leI hn hj]
    omega
  · rintro ⟨h1, h2⟩
    obtain ⟨j, hj, rfl⟩ := nI_of h1
    refine ⟨h1, ?_⟩
    rw [nI_def, nI_leI hn hj] at h2
    rw [nI_clamp hj]
    omega
theorem c_room_lt (q : Nat) : c_room q < 2 ^ 31 := by
  unfold c_room
  split <;> decide
def c_at (σ : x_S) (q : Nat) (i : Int32) : Int32 := if x_inb i (c_room q) = true then σ.1 (q + 1) i.toNatClampNeg else 0
def c_pt (σ : x_S) (q : Nat) (i v : Int32) : x_S := if x_inb i (c_room q) = true then c_wa σ (q + 1) (upd (σ.1 (q + 1)) i.toNatClampNeg v) else σ
theorem R_at (d : Nat) (σ : x_S) (q : Nat) (i : Int32) (hq : c_isrow q = true) : x_R x_P (d + 1) 55 [.ref q, .int i] (CG σ) = some (some (.int (c_at σ q i)), CG σ) := by
  rw [r_55, s_55_0]
  unfold c_at
  by_cases h1 : i < 0
  · rw [if_pos h1, s_55_22, if_neg (by rw [x_inb_iff (c_room_lt q)]; exact fun z => z.1 h1)]
  · rw [if_neg h1, s_55_4, cr_cells σ hq, Option.bind_some, s_55_9, cr_len σ hq, Option.bind_some, s_55_10]
    by_cases h2 : Int32.ofNat (c_room q) ≤ i
    · rw [if_pos h2, s_55_22, if_neg (by rw [x_inb_iff (c_room_lt q)]; exact fun z => z.2 h2)]
    · have hi : x_inb i (c_room q) = true := (x_inb_iff (c_room_lt q)).mpr ⟨h1, h2⟩
      rw [if_neg h2, s_55_13, cr_cells σ hq, Option.bind_some, s_55_17, cr_ild σ hq i hi, Option.bind_some, s_55_19, if_pos hi]
theorem R_put (d : Nat) (σ : x_S) (q : Nat) (i v : Int32) (hq : c_isrow q = true) : x_R x_P (d + 1) 56 [.ref q, .int i, .int v] (CG σ) = some (none, CG (c_pt σ q i v)) := by
  rw [r_56, s_56_0]
  unfold c_pt
  by_cases h1 : i < 0
  · rw [if_pos h1, s_56_20, if_neg (by rw [x_inb_iff (c_room_lt q)]; exact fun z => z.1 h1)]
  · rw [if_neg h1, s_56_4, cr_cells σ hq, Option.bind_some, s_56_9, cr_len σ hq, Option.bind_some, s_56_10]
    by_cases h2 : Int32.ofNat (c_room q) ≤ i
    · rw [if_pos h2, s_56_20, if_neg (by rw [x_inb_iff (c_room_lt q)]; exact fun z => z.2 h2)]
    · have hi : x_inb i (c_room q) = true := (x_inb_iff (c_room_lt q)).mpr ⟨h1, h2⟩
      rw [if_neg h2, s_56_13, cr_cells σ hq, Option.bind_some, s_56_17, cr_ist σ hq i v hi, Option.bind_some, s_56_20, if_pos hi]
theorem R_size (d : Nat) (σ : x_S) (q : Nat) (hq : c_isrow q = true) : x_R x_P (d + 1) 52 [.ref q] (CG σ) = some (some (.int (σ.2 q 1)), CG σ) := by
  rw [r_52, s_52_0, cr_count σ hq, Option.bind_some, s_52_4]
def c_full (σ : x_S) (q : Nat) : Int32 := if Int32.ofNat (c_room q) ≤ σ.2 q 1 then 1 else 0
theorem R_isFull (d : Nat) (σ : x_S) (q : Nat) (hq : c_isrow q = true) : x_R x_P (d + 1) 53 [.ref q] (CG σ) = some (some (.int (c_full σ q)), CG σ) := by
  unfold c_full
  rw [r_53, s_53_0, cr_count σ hq, Option.bind_some, s_53_4, cr_cells σ hq, Option.bind_some, s_53_8, cr_len σ hq, Option.bind_some, s_53_9]
  by_cases h : Int32.ofNat (c_room q) ≤ σ.2 q 1
  · have h' : ¬ σ.2 q 1 < Int32.ofNat (c_room q) := Int32.not_lt.mpr h
    rw [if_pos h, if_neg h', s_53_12]
  · have h' : σ.2 q 1 < Int32.ofNat (c_room q) := Int32.not_le.mp h
    rw [if_neg h, if_pos h', s_53_16]
def c_has (σ : x_S) (q : Nat) (i : Int32) : Int32 := if ¬ i < 0 ∧ i < σ.2 q 1 then 1 else 0
theorem R_has (d : Nat) (σ : x_S) (q : Nat) (i : Int32) (hq : c_isrow q = true) : x_R x_P (d + 1) 54 [.ref q, .int i] (CG σ) = some (some (.int (c_has σ q i)), CG σ) := by
  unfold c_has
  rw [r_54, s_54_0]
  by_cases h1 : i < 0
  · rw [if_pos h1, s_54_16, if_neg (fun z => z.1 h1)]
  · rw [if_neg h1, s_54_4, cr_count σ hq, Option.bind_some, s_54_9]
    by_cases h2 : σ.2 q 1 ≤ i
    · rw [if_pos h2, s_54_16, if_neg (fun z => Int32.not_le.mpr z.2 h2)]
    · rw [if_neg h2, s_54_12, if_pos ⟨h1, Int32.not_le.mp h2⟩]
def c_add (σ : x_S) (q : Nat) (v : Int32) : x_S := if Int32.ofNat (c_room q) ≤ σ.2 q 1 then σ else c_ws (c_pt σ q (σ.2 q 1) v) q 1 (σ.2 q 1 + 1)
theorem c_pt_s (σ : x_S) (q : Nat) (i v : Int32) : (c_pt σ q i v).2 = σ.2 := by
  unfold c_pt c_wa
  split <;> rfl
theorem R_add (d : Nat) (σ : x_S) (q : Nat) (v : Int32) (hq : c_isrow q = true) : x_R x_P (d + 2) 57 [.ref q, .int v] (CG σ) = some (none, CG (c_add σ q v)) := by
  unfold c_add
  rw [r_57, s_57_0, cr_isa σ hq, if_pos rfl, R_isFull d σ q hq, Option.bind_some]
  unfold c_full
  by_cases h : Int32.ofNat (c_room q) ≤ σ.2 q 1
  · rw [if_pos h, if_pos h]
    show x_E x_P (d + 1) x_c57 4 [.ref q, .int v] [.int 1] (CG σ) = _
    rw [s_57_4, if_neg (by decide), s_57_7]
  · rw [if_neg h, if_neg h]
    show x_E x_P (d + 1) x_c57 4 [.ref q, .int v] [.int 0] (CG σ) = _
    rw [s_57_4, if_pos rfl, s_57_8, cr_count σ hq, Option.bind_some, s_57_13, cr_isa σ hq, if_pos rfl, R_put d σ q _ v hq, Option.bind_some]
    show x_E x_P (d + 1) x_c57 17 [.ref q, .int v] [] (CG (c_pt σ q (σ.2 q 1) v)) = _
    rw [s_57_17, cr_count _ hq, Option.bind_some, c_pt_s, s_57_22, cr_put _ hq, Option.bind_some, s_57_27]
theorem R_clear (d : Nat) (σ : x_S) (q : Nat) (hq : c_isrow q = true) : x_R x_P (d + 1) 58 [.ref q] (CG σ) = some (none, CG (c_ws σ q 1 0)) := by
  rw [r_58, s_58_0, cr_put σ hq, Option.bind_some, s_58_5]
