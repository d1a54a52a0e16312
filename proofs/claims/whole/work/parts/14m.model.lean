/-! THE MODEL'S HEAP as a function of its numbers: int arrays, long arrays, fields, the seed -/
abbrev x_U : Type := (Nat → Nat → Int32) × (Nat → Nat → Int64) × (Nat → Int32) × Int64
def m_k (q : Nat) (a : Nat → Int32) (b : Nat → Int64) (s : Nat → Int32) (e : Int64) : x_C := match q with
  | 0 => .inr (11, [.ref 1, .ref 2, .ref 3, .ref 4, .int (s 4), .ref 5, .ref 6, .long e, .ref 7, .int (s 9), .int (s 10), .ref 8, .int (s 12), .ref 9, .int (s 14), .int (s 15), .int (s 16), .int (s 17), .int (s 18), .int (s 19), .int (s 20), .ref 10, .ref 11, .ref 12, .ref 13, .ref 14, .ref 15, .ref 16, .ref 17, .ref 18, .ref 19])
  | 1 => .inl (0, 68, .inl a)
  | 2 => .inl (0, 68, .inl a)
  | 3 => .inl (0, 14, .inl a)
  | 4 => .inl (0, 280, .inl a)
  | 5 => .inl (0, 30, .inl a)
  | 6 => .inl (2, 2, .inl a)
  | 7 => .inl (0, 240, .inl a)
  | 8 => .inl (0, 18, .inl a)
  | 9 => .inl (0, 30, .inl a)
  | 10 => .inl (1, 6, .inr (.inl b))
  | 11 => .inl (1, 6, .inr (.inl b))
  | 12 => .inl (0, 4, .inl a)
  | 13 => .inl (0, 4, .inl a)
  | 14 => .inl (0, 6, .inl a)
  | 15 => .inl (0, 6, .inl a)
  | 16 => .inl (0, 6, .inl a)
  | 17 => .inl (0, 6, .inl a)
  | 18 => .inl (0, 6, .inl a)
  | 19 => .inl (0, 21, .inl a)
  | _ => .inr (0, [])
def MG (μ : x_U) : x_H := (20, 852, fun q => m_k q (μ.1 q) (μ.2.1 q) μ.2.2.1 μ.2.2.2)
def m_wa (μ : x_U) (q : Nat) (f : Nat → Int32) : x_U := (fun j => if j = q then f else μ.1 j, μ.2.1, μ.2.2.1, μ.2.2.2)
def m_wb (μ : x_U) (q : Nat) (f : Nat → Int64) : x_U := (μ.1, fun j => if j = q then f else μ.2.1 j, μ.2.2.1, μ.2.2.2)
def m_ws (μ : x_U) (k : Nat) (v : Int32) : x_U := (μ.1, μ.2.1, fun j => if j = k then v else μ.2.2.1 j, μ.2.2.2)
def m_we (μ : x_U) (v : Int64) : x_U := (μ.1, μ.2.1, μ.2.2.1, v)
theorem MG_set {μ μ' : x_U} {q : Nat} {c : x_C} (h1 : m_k q (μ'.1 q) (μ'.2.1 q) μ'.2.2.1 μ'.2.2.2 = c) (h2 : ∀ j, j ≠ q → m_k j (μ'.1 j) (μ'.2.1 j) μ'.2.2.1 μ'.2.2.2 = m_k j (μ.1 j) (μ.2.1 j) μ.2.2.1 μ.2.2.2) : x_set (MG μ) q c = MG μ' := by
  unfold x_set MG
  congr 2
  funext j
  by_cases hj : j = q
  · subst hj; simp [h1]
  · simp [hj, h2 j hj]
theorem m_k_se {q : Nat} (hq : q ≠ 0) (a : Nat → Int32) (b : Nat → Int64) (s s' : Nat → Int32) (e e' : Int64) : m_k q a b s e = m_k q a b s' e' := by
  unfold m_k
  split <;> first | rfl | exact absurd rfl hq
theorem MG_wa {μ : x_U} {q : Nat} {f : Nat → Int32} {c : x_C} (h1 : m_k q f (μ.2.1 q) μ.2.2.1 μ.2.2.2 = c) : x_set (MG μ) q c = MG (m_wa μ q f) := MG_set (by simpa [m_wa] using h1) (fun j hj => by simp [m_wa, hj])
theorem MG_wb {μ : x_U} {q : Nat} {f : Nat → Int64} {c : x_C} (h1 : m_k q (μ.1 q) f μ.2.2.1 μ.2.2.2 = c) : x_set (MG μ) q c = MG (m_wb μ q f) := MG_set (by simpa [m_wb] using h1) (fun j hj => by simp [m_wb, hj])
theorem MG_ws {μ : x_U} {k : Nat} {v : Int32} {c : x_C} (h1 : m_k 0 (μ.1 0) (μ.2.1 0) (fun j => if j = k then v else μ.2.2.1 j) μ.2.2.2 = c) : x_set (MG μ) 0 c = MG (m_ws μ k v) := MG_set h1 (fun j hj => m_k_se hj _ _ _ _ _ _)
theorem MG_we {μ : x_U} {v : Int64} {c : x_C} (h1 : m_k 0 (μ.1 0) (μ.2.1 0) μ.2.2.1 v = c) : x_set (MG μ) 0 c = MG (m_we μ v) := MG_set h1 (fun j hj => m_k_se hj _ _ _ _ _ _)
theorem mf_0 (μ : x_U) : x_fld (MG μ) 0 11 0 = some (.ref 1) := rfl
theorem mf_1 (μ : x_U) : x_fld (MG μ) 0 11 1 = some (.ref 2) := rfl
theorem mf_2 (μ : x_U) : x_fld (MG μ) 0 11 2 = some (.ref 3) := rfl
theorem mf_3 (μ : x_U) : x_fld (MG μ) 0 11 3 = some (.ref 4) := rfl
theorem mf_4 (μ : x_U) : x_fld (MG μ) 0 11 4 = some (.int (μ.2.2.1 4)) := rfl
theorem mp_4 (μ : x_U) (v : Int32) : x_pfd (MG μ) 0 11 4 (.int v) = some (MG (m_ws μ 4 v)) := congrArg some (MG_ws rfl)
theorem mf_5 (μ : x_U) : x_fld (MG μ) 0 11 5 = some (.ref 5) := rfl
theorem mf_6 (μ : x_U) : x_fld (MG μ) 0 11 6 = some (.ref 6) := rfl
theorem mf_7 (μ : x_U) : x_fld (MG μ) 0 11 7 = some (.long μ.2.2.2) := rfl
theorem mp_7 (μ : x_U) (v : Int64) : x_pfd (MG μ) 0 11 7 (.long v) = some (MG (m_we μ v)) := congrArg some (MG_we rfl)
theorem mf_8 (μ : x_U) : x_fld (MG μ) 0 11 8 = some (.ref 7) := rfl
theorem mf_9 (μ : x_U) : x_fld (MG μ) 0 11 9 = some (.int (μ.2.2.1 9)) := rfl
theorem mp_9 (μ : x_U) (v : Int32) : x_pfd (MG μ) 0 11 9 (.int v) = some (MG (m_ws μ 9 v)) := congrArg some (MG_ws rfl)
theorem mf_10 (μ : x_U) : x_fld (MG μ) 0 11 10 = some (.int (μ.2.2.1 10)) := rfl
theorem mp_10 (μ : x_U) (v : Int32) : x_pfd (MG μ) 0 11 10 (.int v) = some (MG (m_ws μ 10 v)) := congrArg some (MG_ws rfl)
theorem mf_11 (μ : x_U) : x_fld (MG μ) 0 11 11 = some (.ref 8) := rfl
theorem mf_12 (μ : x_U) : x_fld (MG μ) 0 11 12 = some (.int (μ.2.2.1 12)) := rfl
theorem mp_12 (μ : x_U) (v : Int32) : x_pfd (MG μ) 0 11 12 (.int v) = some (MG (m_ws μ 12 v)) := congrArg some (MG_ws rfl)
theorem mf_13 (μ : x_U) : x_fld (MG μ) 0 11 13 = some (.ref 9) := rfl
theorem mf_14 (μ : x_U) : x_fld (MG μ) 0 11 14 = some (.int (μ.2.2.1 14)) := rfl
theorem mp_14 (μ : x_U) (v : Int32) : x_pfd (MG μ) 0 11 14 (.int v) = some (MG (m_ws μ 14 v)) := congrArg some (MG_ws rfl)
theorem mf_15 (μ : x_U) : x_fld (MG μ) 0 11 15 = some (.int (μ.2.2.1 15)) := rfl
theorem mp_15 (μ : x_U) (v : Int32) : x_pfd (MG μ) 0 11 15 (.int v) = some (MG (m_ws μ 15 v)) := congrArg some (MG_ws rfl)
theorem mf_16 (μ : x_U) : x_fld (MG μ) 0 11 16 = some (.int (μ.2.2.1 16)) := rfl
theorem mp_16 (μ : x_U) (v : Int32) : x_pfd (MG μ) 0 11 16 (.int v) = some (MG (m_ws μ 16 v)) := congrArg some (MG_ws rfl)
theorem mf_17 (μ : x_U) : x_fld (MG μ) 0 11 17 = some (.int (μ.2.2.1 17)) := rfl
theorem mp_17 (μ : x_U) (v : Int32) : x_pfd (MG μ) 0 11 17 (.int v) = some (MG (m_ws μ 17 v)) := congrArg some (MG_ws rfl)
theorem mf_18 (μ : x_U) : x_fld (MG μ) 0 11 18 = some (.int (μ.2.2.1 18)) := rfl
theorem mp_18 (μ : x_U) (v : Int32) : x_pfd (MG μ) 0 11 18 (.int v) = some (MG (m_ws μ 18 v)) := congrArg some (MG_ws rfl)
theorem mf_19 (μ : x_U) : x_fld (MG μ) 0 11 19 = some (.int (μ.2.2.1 19)) := rfl
theorem mp_19 (μ : x_U) (v : Int32) : x_pfd (MG μ) 0 11 19 (.int v) = some (MG (m_ws μ 19 v)) := congrArg some (MG_ws rfl)
theorem mf_20 (μ : x_U) : x_fld (MG μ) 0 11 20 = some (.int (μ.2.2.1 20)) := rfl
theorem mp_20 (μ : x_U) (v : Int32) : x_pfd (MG μ) 0 11 20 (.int v) = some (MG (m_ws μ 20 v)) := congrArg some (MG_ws rfl)
theorem mf_21 (μ : x_U) : x_fld (MG μ) 0 11 21 = some (.ref 10) := rfl
theorem mf_22 (μ : x_U) : x_fld (MG μ) 0 11 22 = some (.ref 11) := rfl
theorem mf_23 (μ : x_U) : x_fld (MG μ) 0 11 23 = some (.ref 12) := rfl
theorem mf_24 (μ : x_U) : x_fld (MG μ) 0 11 24 = some (.ref 13) := rfl
theorem mf_25 (μ : x_U) : x_fld (MG μ) 0 11 25 = some (.ref 14) := rfl
theorem mf_26 (μ : x_U) : x_fld (MG μ) 0 11 26 = some (.ref 15) := rfl
theorem mf_27 (μ : x_U) : x_fld (MG μ) 0 11 27 = some (.ref 16) := rfl
theorem mf_28 (μ : x_U) : x_fld (MG μ) 0 11 28 = some (.ref 17) := rfl
theorem mf_29 (μ : x_U) : x_fld (MG μ) 0 11 29 = some (.ref 18) := rfl
theorem mf_30 (μ : x_U) : x_fld (MG μ) 0 11 30 = some (.ref 19) := rfl
theorem mi_0 (μ : x_U) : x_isa (MG μ) 0 11 = true := rfl
theorem md_1 (μ : x_U) (i : Int32) : x_ild (MG μ) 1 0 i = if x_inb i 68 = true then some (μ.1 1 i.toNatClampNeg) else none := by
  show (if 0 = 0 ∧ x_inb i 68 = true then _ else _) = _
  simp only [true_and]
theorem mt_1 (μ : x_U) (i v : Int32) : x_ist (MG μ) 1 0 i v = if x_inb i 68 = true then some (MG (m_wa μ 1 (upd (μ.1 1) i.toNatClampNeg v))) else none := by
  show (if 0 = 0 ∧ x_inb i 68 = true then some (x_set (MG μ) 1 _) else none) = _
  simp only [true_and]
  rw [show x_set (MG μ) 1 (.inl (0, 68, .inl (upd (μ.1 1) i.toNatClampNeg v))) = MG (m_wa μ 1 (upd (μ.1 1) i.toNatClampNeg v)) from MG_wa rfl]
theorem md_2 (μ : x_U) (i : Int32) : x_ild (MG μ) 2 0 i = if x_inb i 68 = true then some (μ.1 2 i.toNatClampNeg) else none := by
  show (if 0 = 0 ∧ x_inb i 68 = true then _ else _) = _
  simp only [true_and]
theorem mt_2 (μ : x_U) (i v : Int32) : x_ist (MG μ) 2 0 i v = if x_inb i 68 = true then some (MG (m_wa μ 2 (upd (μ.1 2) i.toNatClampNeg v))) else none := by
  show (if 0 = 0 ∧ x_inb i 68 = true then some (x_set (MG μ) 2 _) else none) = _
  simp only [true_and]
  rw [show x_set (MG μ) 2 (.inl (0, 68, .inl (upd (μ.1 2) i.toNatClampNeg v))) = MG (m_wa μ 2 (upd (μ.1 2) i.toNatClampNeg v)) from MG_wa rfl]
theorem md_3 (μ : x_U) (i : Int32) : x_ild (MG μ) 3 0 i = if x_inb i 14 = true then some (μ.1 3 i.toNatClampNeg) else none := by
  show (if 0 = 0 ∧ x_inb i 14 = true then _ else _) = _
  simp only [true_and]
theorem mt_3 (μ : x_U) (i v : Int32) : x_ist (MG μ) 3 0 i v = if x_inb i 14 = true then some (MG (m_wa μ 3 (upd (μ.1 3) i.toNatClampNeg v))) else none := by
  show (if 0 = 0 ∧ x_inb i 14 = true then some (x_set (MG μ) 3 _) else none) = _
  simp only [true_and]
  rw [show x_set (MG μ) 3 (.inl (0, 14, .inl (upd (μ.1 3) i.toNatClampNeg v))) = MG (m_wa μ 3 (upd (μ.1 3) i.toNatClampNeg v)) from MG_wa rfl]
theorem md_4 (μ : x_U) (i : Int32) : x_ild (MG μ) 4 0 i = if x_inb i 280 = true then some (μ.1 4 i.toNatClampNeg) else none := by
  show (if 0 = 0 ∧ x_inb i 280 = true then _ else _) = _
  simp only [true_and]
theorem mt_4 (μ : x_U) (i v : Int32) : x_ist (MG μ) 4 0 i v = if x_inb i 280 = true then some (MG (m_wa μ 4 (upd (μ.1 4) i.toNatClampNeg v))) else none := by
  show (if 0 = 0 ∧ x_inb i 280 = true then some (x_set (MG μ) 4 _) else none) = _
  simp only [true_and]
  rw [show x_set (MG μ) 4 (.inl (0, 280, .inl (upd (μ.1 4) i.toNatClampNeg v))) = MG (m_wa μ 4 (upd (μ.1 4) i.toNatClampNeg v)) from MG_wa rfl]
theorem md_5 (μ : x_U) (i : Int32) : x_ild (MG μ) 5 0 i = if x_inb i 30 = true then some (μ.1 5 i.toNatClampNeg) else none := by
  show (if 0 = 0 ∧ x_inb i 30 = true then _ else _) = _
  simp only [true_and]
theorem mt_5 (μ : x_U) (i v : Int32) : x_ist (MG μ) 5 0 i v = if x_inb i 30 = true then some (MG (m_wa μ 5 (upd (μ.1 5) i.toNatClampNeg v))) else none := by
  show (if 0 = 0 ∧ x_inb i 30 = true then some (x_set (MG μ) 5 _) else none) = _
  simp only [true_and]
  rw [show x_set (MG μ) 5 (.inl (0, 30, .inl (upd (μ.1 5) i.toNatClampNeg v))) = MG (m_wa μ 5 (upd (μ.1 5) i.toNatClampNeg v)) from MG_wa rfl]
theorem md_6 (μ : x_U) (i : Int32) : x_ild (MG μ) 6 2 i = if x_inb i 2 = true then some (μ.1 6 i.toNatClampNeg) else none := by
  show (if 2 = 2 ∧ x_inb i 2 = true then _ else _) = _
  simp only [true_and]
theorem mt_6 (μ : x_U) (i v : Int32) : x_ist (MG μ) 6 2 i v = if x_inb i 2 = true then some (MG (m_wa μ 6 (upd (μ.1 6) i.toNatClampNeg v))) else none := by
  show (if 2 = 2 ∧ x_inb i 2 = true then some (x_set (MG μ) 6 _) else none) = _
  simp only [true_and]
  rw [show x_set (MG μ) 6 (.inl (2, 2, .inl (upd (μ.1 6) i.toNatClampNeg v))) = MG (m_wa μ 6 (upd (μ.1 6) i.toNatClampNeg v)) from MG_wa rfl]
theorem md_7 (μ : x_U) (i : Int32) : x_ild (MG μ) 7 0 i = if x_inb i 240 = true then some (μ.1 7 i.toNatClampNeg) else none := by
  show (if 0 = 0 ∧ x_inb i 240 = true then _ else _) = _
  simp only [true_and]
theorem mt_7 (μ : x_U) (i v : Int32) : x_ist (MG μ) 7 0 i v = if x_inb i 240 = true then some (MG (m_wa μ 7 (upd (μ.1 7) i.toNatClampNeg v))) else none := by
  show (if 0 = 0 ∧ x_inb i 240 = true then some (x_set (MG μ) 7 _) else none) = _
  simp only [true_and]
  rw [show x_set (MG μ) 7 (.inl (0, 240, .inl (upd (μ.1 7) i.toNatClampNeg v))) = MG (m_wa μ 7 (upd (μ.1 7) i.toNatClampNeg v)) from MG_wa rfl]
theorem md_8 (μ : x_U) (i : Int32) : x_ild (MG μ) 8 0 i = if x_inb i 18 = true then some (μ.1 8 i.toNatClampNeg) else none := by
  show (if 0 = 0 ∧ x_inb i 18 = true then _ else _) = _
  simp only [true_and]
theorem mt_8 (μ : x_U) (i v : Int32) : x_ist (MG μ) 8 0 i v = if x_inb i 18 = true then some (MG (m_wa μ 8 (upd (μ.1 8) i.toNatClampNeg v))) else none := by
  show (if 0 = 0 ∧ x_inb i 18 = true then some (x_set (MG μ) 8 _) else none) = _
  simp only [true_and]
  rw [show x_set (MG μ) 8 (.inl (0, 18, .inl (upd (μ.1 8) i.toNatClampNeg v))) = MG (m_wa μ 8 (upd (μ.1 8) i.toNatClampNeg v)) from MG_wa rfl]
theorem md_9 (μ : x_U) (i : Int32) : x_ild (MG μ) 9 0 i = if x_inb i 30 = true then some (μ.1 9 i.toNatClampNeg) else none := by
  show (if 0 = 0 ∧ x_inb i 30 = true then _ else _) = _
  simp only [true_and]
theorem mt_9 (μ : x_U) (i v : Int32) : x_ist (MG μ) 9 0 i v = if x_inb i 30 = true then some (MG (m_wa μ 9 (upd (μ.1 9) i.toNatClampNeg v))) else none := by
  show (if 0 = 0 ∧ x_inb i 30 = true then some (x_set (MG μ) 9 _) else none) = _
  simp only [true_and]
  rw [show x_set (MG μ) 9 (.inl (0, 30, .inl (upd (μ.1 9) i.toNatClampNeg v))) = MG (m_wa μ 9 (upd (μ.1 9) i.toNatClampNeg v)) from MG_wa rfl]
theorem md_10 (μ : x_U) (i : Int32) : x_lld (MG μ) 10 i = if x_inb i 6 = true then some (μ.2.1 10 i.toNatClampNeg) else none := by
  show (if 1 = 1 ∧ x_inb i 6 = true then _ else _) = _
  simp only [true_and]
theorem mt_10 (μ : x_U) (i : Int32) (v : Int64) : x_lst (MG μ) 10 i v = if x_inb i 6 = true then some (MG (m_wb μ 10 (vp_updL (μ.2.1 10) i.toNatClampNeg v))) else none := by
  show (if 1 = 1 ∧ x_inb i 6 = true then some (x_set (MG μ) 10 _) else none) = _
  simp only [true_and]
  rw [show x_set (MG μ) 10 (.inl (1, 6, .inr (.inl (vp_updL (μ.2.1 10) i.toNatClampNeg v)))) = MG (m_wb μ 10 (vp_updL (μ.2.1 10) i.toNatClampNeg v)) from MG_wb rfl]
theorem md_11 (μ : x_U) (i : Int32) : x_lld (MG μ) 11 i = if x_inb i 6 = true then some (μ.2.1 11 i.toNatClampNeg) else none := by
  show (if 1 = 1 ∧ x_inb i 6 = true then _ else _) = _
  simp only [true_and]
theorem mt_11 (μ : x_U) (i : Int32) (v : Int64) : x_lst (MG μ) 11 i v = if x_inb i 6 = true then some (MG (m_wb μ 11 (vp_updL (μ.2.1 11) i.toNatClampNeg v))) else none := by
  show (if 1 = 1 ∧ x_inb i 6 = true then some (x_set (MG μ) 11 _) else none) = _
  simp only [true_and]
  rw [show x_set (MG μ) 11 (.inl (1, 6, .inr (.inl (vp_updL (μ.2.1 11) i.toNatClampNeg v)))) = MG (m_wb μ 11 (vp_updL (μ.2.1 11) i.toNatClampNeg v)) from MG_wb rfl]
theorem md_12 (μ : x_U) (i : Int32) : x_ild (MG μ) 12 0 i = if x_inb i 4 = true then some (μ.1 12 i.toNatClampNeg) else none := by
  show (if 0 = 0 ∧ x_inb i 4 = true then _ else _) = _
  simp only [true_and]
theorem mt_12 (μ : x_U) (i v : Int32) : x_ist (MG μ) 12 0 i v = if x_inb i 4 = true then some (MG (m_wa μ 12 (upd (μ.1 12) i.toNatClampNeg v))) else none := by
  show (if 0 = 0 ∧ x_inb i 4 = true then some (x_set (MG μ) 12 _) else none) = _
  simp only [true_and]
  rw [show x_set (MG μ) 12 (.inl (0, 4, .inl (upd (μ.1 12) i.toNatClampNeg v))) = MG (m_wa μ 12 (upd (μ.1 12) i.toNatClampNeg v)) from MG_wa rfl]
theorem md_13 (μ : x_U) (i : Int32) : x_ild (MG μ) 13 0 i = if x_inb i 4 = true then some (μ.1 13 i.toNatClampNeg) else none := by
  show (if 0 = 0 ∧ x_inb i 4 = true then _ else _) = _
  simp only [true_and]
theorem mt_13 (μ : x_U) (i v : Int32) : x_ist (MG μ) 13 0 i v = if x_inb i 4 = true then some (MG (m_wa μ 13 (upd (μ.1 13) i.toNatClampNeg v))) else none := by
  show (if 0 = 0 ∧ x_inb i 4 = true then some (x_set (MG μ) 13 _) else none) = _
  simp only [true_and]
  rw [show x_set (MG μ) 13 (.inl (0, 4, .inl (upd (μ.1 13) i.toNatClampNeg v))) = MG (m_wa μ 13 (upd (μ.1 13) i.toNatClampNeg v)) from MG_wa rfl]
theorem md_14 (μ : x_U) (i : Int32) : x_ild (MG μ) 14 0 i = if x_inb i 6 = true then some (μ.1 14 i.toNatClampNeg) else none := by
  show (if 0 = 0 ∧ x_inb i 6 = true then _ else _) = _
  simp only [true_and]
theorem mt_14 (μ : x_U) (i v : Int32) : x_ist (MG μ) 14 0 i v = if x_inb i 6 = true then some (MG (m_wa μ 14 (upd (μ.1 14) i.toNatClampNeg v))) else none := by
  show (if 0 = 0 ∧ x_inb i 6 = true then some (x_set (MG μ) 14 _) else none) = _
  simp only [true_and]
  rw [show x_set (MG μ) 14 (.inl (0, 6, .inl (upd (μ.1 14) i.toNatClampNeg v))) = MG (m_wa μ 14 (upd (μ.1 14) i.toNatClampNeg v)) from MG_wa rfl]
theorem md_15 (μ : x_U) (i : Int32) : x_ild (MG μ) 15 0 i = if x_inb i 6 = true then some (μ.1 15 i.toNatClampNeg) else none := by
  show (if 0 = 0 ∧ x_inb i 6 = true then _ else _) = _
  simp only [true_and]
theorem mt_15 (μ : x_U) (i v : Int32) : x_ist (MG μ) 15 0 i v = if x_inb i 6 = true then some (MG (m_wa μ 15 (upd (μ.1 15) i.toNatClampNeg v))) else none := by
  show (if 0 = 0 ∧ x_inb i 6 = true then some (x_set (MG μ) 15 _) else none) = _
  simp only [true_and]
  rw [show x_set (MG μ) 15 (.inl (0, 6, .inl (upd (μ.1 15) i.toNatClampNeg v))) = MG (m_wa μ 15 (upd (μ.1 15) i.toNatClampNeg v)) from MG_wa rfl]
theorem md_16 (μ : x_U) (i : Int32) : x_ild (MG μ) 16 0 i = if x_inb i 6 = true then some (μ.1 16 i.toNatClampNeg) else none := by
  show (if 0 = 0 ∧ x_inb i 6 = true then _ else _) = _
  simp only [true_and]
theorem mt_16 (μ : x_U) (i v : Int32) : x_ist (MG μ) 16 0 i v = if x_inb i 6 = true then some (MG (m_wa μ 16 (upd (μ.1 16) i.toNatClampNeg v))) else none := by
  show (if 0 = 0 ∧ x_inb i 6 = true then some (x_set (MG μ) 16 _) else none) = _
  simp only [true_and]
  rw [show x_set (MG μ) 16 (.inl (0, 6, .inl (upd (μ.1 16) i.toNatClampNeg v))) = MG (m_wa μ 16 (upd (μ.1 16) i.toNatClampNeg v)) from MG_wa rfl]
theorem md_17 (μ : x_U) (i : Int32) : x_ild (MG μ) 17 0 i = if x_inb i 6 = true then some (μ.1 17 i.toNatClampNeg) else none := by
  show (if 0 = 0 ∧ x_inb i 6 = true then _ else _) = _
  simp only [true_and]
theorem mt_17 (μ : x_U) (i v : Int32) : x_ist (MG μ) 17 0 i v = if x_inb i 6 = true then some (MG (m_wa μ 17 (upd (μ.1 17) i.toNatClampNeg v))) else none := by
  show (if 0 = 0 ∧ x_inb i 6 = true then some (x_set (MG μ) 17 _) else none) = _
  simp only [true_and]
  rw [show x_set (MG μ) 17 (.inl (0, 6, .inl (upd (μ.1 17) i.toNatClampNeg v))) = MG (m_wa μ 17 (upd (μ.1 17) i.toNatClampNeg v)) from MG_wa rfl]
theorem md_18 (μ : x_U) (i : Int32) : x_ild (MG μ) 18 0 i = if x_inb i 6 = true then some (μ.1 18 i.toNatClampNeg) else none := by
  show (if 0 = 0 ∧ x_inb i 6 = true then _ else _) = _
  simp only [true_and]
theorem mt_18 (μ : x_U) (i v : Int32) : x_ist (MG μ) 18 0 i v = if x_inb i 6 = true then some (MG (m_wa μ 18 (upd (μ.1 18) i.toNatClampNeg v))) else none := by
  show (if 0 = 0 ∧ x_inb i 6 = true then some (x_set (MG μ) 18 _) else none) = _
  simp only [true_and]
  rw [show x_set (MG μ) 18 (.inl (0, 6, .inl (upd (μ.1 18) i.toNatClampNeg v))) = MG (m_wa μ 18 (upd (μ.1 18) i.toNatClampNeg v)) from MG_wa rfl]
theorem md_19 (μ : x_U) (i : Int32) : x_ild (MG μ) 19 0 i = if x_inb i 21 = true then some (μ.1 19 i.toNatClampNeg) else none := by
  show (if 0 = 0 ∧ x_inb i 21 = true then _ else _) = _
  simp only [true_and]
theorem mt_19 (μ : x_U) (i v : Int32) : x_ist (MG μ) 19 0 i v = if x_inb i 21 = true then some (MG (m_wa μ 19 (upd (μ.1 19) i.toNatClampNeg v))) else none := by
  show (if 0 = 0 ∧ x_inb i 21 = true then some (x_set (MG μ) 19 _) else none) = _
  simp only [true_and]
  rw [show x_set (MG μ) 19 (.inl (0, 21, .inl (upd (μ.1 19) i.toNatClampNeg v))) = MG (m_wa μ 19 (upd (μ.1 19) i.toNatClampNeg v)) from MG_wa rfl]
