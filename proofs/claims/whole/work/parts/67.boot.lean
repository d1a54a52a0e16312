/-! THE FIRST STATE: what the constructors leave (made by gen09.py) -/
def okc (c e : x_C) : Bool := match c, e with
  | .inr (a, fs), .inr (b, gs) => decide (a = b) && decide (fs = gs)
  | .inl (t, n, .inl f), .inl (t', n', .inl _) => decide (t = t') && (decide (n = n') && (List.range n).all (fun k => decide (f k = 0)))
  | .inl (t, n, .inr (.inl _)), .inl (t', n', .inr (.inl _)) => decide (t = t') && decide (n = n')
  | _, _ => false
def okr (N W : Nat) (E : Nat → x_C) (o : Option (Option Value × x_H)) : Bool := match o with
  | some (none, h) => decide (h.1 = N) && (decide (h.2.1 = W) && (List.range N).all (fun q => okc (h.2.2 q) (E q)))
  | _ => false
theorem okr_of {N W : Nat} {E : Nat → x_C} {o : Option (Option Value × x_H)} (h : okr N W E o = true) : ∃ h', o = some (none, h') ∧ h'.1 = N ∧ h'.2.1 = W ∧ ∀ q, q < N → okc (h'.2.2 q) (E q) = true := by
  unfold okr at h
  split at h
  · rename_i h'
    obtain ⟨a, b⟩ := Bool.and_eq_true_iff.mp h
    obtain ⟨b, c⟩ := Bool.and_eq_true_iff.mp b
    exact ⟨h', rfl, of_decide_eq_true a, of_decide_eq_true b, fun q hq => List.all_eq_true.mp c q (List.mem_range.mpr hq)⟩
  · cases h
def ar1 (c : x_C) : Nat → Int32 := match c with
  | .inl (_, _, .inl f) => f
  | _ => fun _ => 0
def ar2 (c : x_C) : Nat → Int64 := match c with
  | .inl (_, _, .inr (.inl f)) => f
  | _ => fun _ => 0
def zz : Nat → Int32 := fun _ => 0
def zl : Nat → Int64 := fun _ => 0
/-- the cell with its own array in the picture's place -/
def fit (c e : x_C) : x_C := match e with
  | .inl (t, n, .inl _) => .inl (t, n, .inl (ar1 c))
  | .inl (t, n, .inr (.inl _)) => .inl (t, n, .inr (.inl (ar2 c)))
  | e => e
theorem okc_of {c e : x_C} (h : okc c e = true) : c = fit c e ∧ (∀ t n f, e = .inl (t, n, .inl f) → ∀ k, k < n → ar1 c k = 0) := by
  unfold okc at h
  split at h
  · obtain ⟨a, b⟩ := Bool.and_eq_true_iff.mp h
    have a := of_decide_eq_true a
    have b := of_decide_eq_true b
    subst a b
    exact ⟨rfl, fun t n f z => by cases z⟩
  · obtain ⟨a, b⟩ := Bool.and_eq_true_iff.mp h
    obtain ⟨b, d⟩ := Bool.and_eq_true_iff.mp b
    have a := of_decide_eq_true a
    have b := of_decide_eq_true b
    subst a b
    refine ⟨rfl, fun t n f z => ?_⟩
    cases z
    exact fun k hk => of_decide_eq_true (List.all_eq_true.mp d k (List.mem_range.mpr hk))
  · obtain ⟨a, b⟩ := Bool.and_eq_true_iff.mp h
    have a := of_decide_eq_true a
    have b := of_decide_eq_true b
    subst a b
    exact ⟨rfl, fun t n f z => by cases z⟩
  · cases h
theorem x_W_cg {cA : Nat → ClassId} {ad : Nat → Nat} {h h2 : x_H} (h1 : h.1 = h2.1) (hc : ∀ q, q < h.1 → h.2.2 q = h2.2.2 q) : x_W cA ad h = x_W cA ad h2 := by
  unfold x_W
  rw [← h1]
  exact List.map_congr_left fun i hi => by rw [hc i (List.mem_range.mp hi)]
def c_h0 : x_H := (1, 14, fun _ => .inr (10, x_df 10))
def c_s0 (q k : Nat) : Int32 := if (q = 1 ∧ k = 1) ∨ (q = 67 ∧ (k = 1 ∨ k = 2)) then -1 else 0
set_option maxRecDepth 100000 in
theorem c_boot : okr 87 948 (fun q => c_k q zz (c_s0 q)) (x_ev x_P 1000 29 x_c71 0 [.ref 0] [] c_h0) = true := by decide +kernel
def m_h0 : x_H := (1, 31, fun _ => .inr (11, x_df 11))
def m_s0 (k : Nat) : Int32 := if k = 10 then -1 else 0
set_option maxRecDepth 100000 in
theorem m_boot : okr 20 852 (fun q => m_k q zz zl m_s0 0) (x_ev x_P 1000 29 x_c111 0 [.ref 0] [] m_h0) = true := by decide +kernel
theorem c_fit (c : x_C) (s : Nat → Int32) : ∀ q, q < 87 → fit c (c_k q zz s) = c_k q (ar1 c) s := fun q hq => match q, hq with
  | 0, _ => rfl
  | 1, _ => rfl
  | 2, _ => rfl
  | 3, _ => rfl
  | 4, _ => rfl
  | 5, _ => rfl
  | 6, _ => rfl
  | 7, _ => rfl
  | 8, _ => rfl
  | 9, _ => rfl
  | 10, _ => rfl
  | 11, _ => rfl
  | 12, _ => rfl
  | 13, _ => rfl
  | 14, _ => rfl
  | 15, _ => rfl
  | 16, _ => rfl
  | 17, _ => rfl
  | 18, _ => rfl
  | 19, _ => rfl
  | 20, _ => rfl
  | 21, _ => rfl
  | 22, _ => rfl
  | 23, _ => rfl
  | 24, _ => rfl
  | 25, _ => rfl
  | 26, _ => rfl
  | 27, _ => rfl
  | 28, _ => rfl
  | 29, _ => rfl
  | 30, _ => rfl
  | 31, _ => rfl
  | 32, _ => rfl
  | 33, _ => rfl
  | 34, _ => rfl
  | 35, _ => rfl
  | 36, _ => rfl
  | 37, _ => rfl
  | 38, _ => rfl
  | 39, _ => rfl
  | 40, _ => rfl
  | 41, _ => rfl
  | 42, _ => rfl
  | 43, _ => rfl
  | 44, _ => rfl
  | 45, _ => rfl
  | 46, _ => rfl
  | 47, _ => rfl
  | 48, _ => rfl
  | 49, _ => rfl
  | 50, _ => rfl
  | 51, _ => rfl
  | 52, _ => rfl
  | 53, _ => rfl
  | 54, _ => rfl
  | 55, _ => rfl
  | 56, _ => rfl
  | 57, _ => rfl
  | 58, _ => rfl
  | 59, _ => rfl
  | 60, _ => rfl
  | 61, _ => rfl
  | 62, _ => rfl
  | 63, _ => rfl
  | 64, _ => rfl
  | 65, _ => rfl
  | 66, _ => rfl
  | 67, _ => rfl
  | 68, _ => rfl
  | 69, _ => rfl
  | 70, _ => rfl
  | 71, _ => rfl
  | 72, _ => rfl
  | 73, _ => rfl
  | 74, _ => rfl
  | 75, _ => rfl
  | 76, _ => rfl
  | 77, _ => rfl
  | 78, _ => rfl
  | 79, _ => rfl
  | 80, _ => rfl
  | 81, _ => rfl
  | 82, _ => rfl
  | 83, _ => rfl
  | 84, _ => rfl
  | 85, _ => rfl
  | 86, _ => rfl
  | n + 87, h => absurd h (Nat.not_lt.mpr (Nat.le_add_left 87 n))
theorem m_fit (c : x_C) (s : Nat → Int32) (e : Int64) : ∀ q, q < 20 → fit c (m_k q zz zl s e) = m_k q (ar1 c) (ar2 c) s e := fun q hq => match q, hq with
  | 0, _ => rfl
  | 1, _ => rfl
  | 2, _ => rfl
  | 3, _ => rfl
  | 4, _ => rfl
  | 5, _ => rfl
  | 6, _ => rfl
  | 7, _ => rfl
  | 8, _ => rfl
  | 9, _ => rfl
  | 10, _ => rfl
  | 11, _ => rfl
  | 12, _ => rfl
  | 13, _ => rfl
  | 14, _ => rfl
  | 15, _ => rfl
  | 16, _ => rfl
  | 17, _ => rfl
  | 18, _ => rfl
  | 19, _ => rfl
  | n + 20, h => absurd h (Nat.not_lt.mpr (Nat.le_add_left 20 n))
theorem c_first : ∃ h' σ, x_R x_P 30 71 [.ref 0] c_h0 = some (none, h') ∧ h'.1 = 87 ∧ h'.2.1 = 948 ∧ (∀ cA ad, x_W cA ad h' = x_W cA ad (CG σ)) ∧ σ.2 = c_s0 := by
  obtain ⟨h', e1, e2, e3, e4⟩ := okr_of c_boot
  refine ⟨h', (fun q => ar1 (h'.2.2 q), c_s0), x_E_iff.mpr ⟨1000, e1⟩, e2, e3, fun cA ad => x_W_cg e2 (fun q hq => ?_), rfl⟩
  obtain ⟨g1, -⟩ := okc_of (e4 q (by omega))
  rw [c_fit _ _ q (by omega)] at g1
  exact g1
theorem m_first : ∃ h' μ, x_R x_P 30 111 [.ref 0] m_h0 = some (none, h') ∧ h'.1 = 20 ∧ h'.2.1 = 852 ∧ (∀ cA ad, x_W cA ad h' = x_W cA ad (MG μ)) ∧ μ.2.2.1 = m_s0 ∧ μ.2.2.2 = 0 ∧ (∀ k, k < 68 → μ.1 1 k = 0) ∧ (∀ k, k < 14 → μ.1 3 k = 0) ∧ ∀ k, k < 2 → μ.1 6 k = 0 := by
  obtain ⟨h', e1, e2, e3, e4⟩ := okr_of m_boot
  refine ⟨h', (fun q => ar1 (h'.2.2 q), fun q => ar2 (h'.2.2 q), m_s0, 0), x_E_iff.mpr ⟨1000, e1⟩, e2, e3, fun cA ad => x_W_cg e2 (fun q hq => ?_), rfl, rfl, (okc_of (e4 1 (by omega))).2 0 68 _ rfl, (okc_of (e4 3 (by omega))).2 0 14 _ rfl, (okc_of (e4 6 (by omega))).2 2 2 _ rfl⟩
  obtain ⟨g1, -⟩ := okc_of (e4 q (by omega))
  rw [m_fit _ _ _ q (by omega)] at g1
  exact g1
theorem SIM_first {σ : x_S} {μ : x_U} (h1 : σ.2 = c_s0) (h2 : μ.2.2.1 = m_s0) (h3 : μ.2.2.2 = 0) (h4 : ∀ k, k < 68 → μ.1 1 k = 0) (h5 : ∀ k, k < 14 → μ.1 3 k = 0) (h6 : ∀ k, k < 2 → μ.1 6 k = 0) : SIM σ μ := by
  have no : ∀ {p : Nat → Prop}, ∀ k, k < 0 → p k := fun k hk => absurd hk (Nat.not_lt_zero k)
  refine ⟨0, 0, 0, 0, ⟨⟨by omega, by omega, by omega, by omega⟩, ⟨?_, ?_⟩, ⟨?_, ?_⟩, ⟨?_, ?_⟩, ⟨?_, ?_⟩, ⟨?_, ?_⟩, ⟨?_, ?_⟩⟩, no, no, no, no, ⟨?_, ?_, no, ⟨?_, ?_⟩, ⟨?_, ?_⟩, fun p _ hp => h5 p (by omega)⟩, ⟨0, 0, by omega, by omega, ?_, ?_, ?_, no⟩, ⟨⟨0, by omega, ?_, fun i hi => ?_⟩, fun i hi hk => ?_⟩, ⟨0, by omega, ?_, ?_, ?_, ?_, no⟩, ⟨0, by omega, ?_, ?_, ?_, no⟩, ⟨0, by omega, ?_, ?_, no⟩, ⟨?_, 0, by omega, ?_, ?_⟩⟩
  · rw [h1, h4 0 (by omega)]; rfl
  · exact Or.inl (h4 0 (by omega))
  · rw [h1, h4 1 (by omega)]; rfl
  · exact ⟨0, h4 1 (by omega), by omega, by omega⟩
  · exact h4 2 (by omega)
  · rw [h1]; rfl
  · exact h4 3 (by omega)
  · rw [h1]; rfl
  · exact h4 4 (by omega)
  · rw [h1]; rfl
  · exact h4 5 (by omega)
  · rw [h1]; rfl
  · rw [h1]; rfl
  · rw [h1]; rfl
  · rw [h5 12 (by omega), n14_p, h1]; rfl
  · exact ⟨0, h5 12 (by omega), by omega, by omega⟩
  · rw [h5 13 (by omega), n14_w, h1]; rfl
  · exact ⟨0, h5 13 (by omega), by omega, by omega⟩
  · rw [h2]; rfl
  · rw [h1]; rfl
  · rw [h1]; rfl
  · rw [h1]; rfl
  · rw [h6 i hi]
    refine ⟨Or.inl rfl, fun z => ?_, fun z => absurd z (by decide)⟩
    rcases (show i = 0 ∨ i = 1 by omega) with rfl | rfl <;> exact absurd z (by decide)
  · rw [h6 i hi] at hk; exact absurd hk (by decide)
  · rw [h2]; rfl
  · rw [h1]; rfl
  · rw [h1]; rfl
  · rw [h1]; rfl
  · rw [h2]; rfl
  · rw [h1]; rfl
  · rw [h1]; rfl
  · rw [h2]; rfl
  · rw [h1]; rfl
  · rw [h1, h2]; rfl
  · rw [h1]; rfl
  · rw [h3]; rfl
