/-! THE LAW'S WORLD: both sides alike; a pair of calls keeps it so -/
def lw_W (s : State) (D : va_G) (cA : Nat → ClassId) (H : Heap) (locs : List Loc) (a1 a2 : Nat) : Prop := ∃ (adC adM : Nat → Nat) (σ : x_S) (μ : x_U), SIM σ μ ∧ adC 0 = a1 ∧ adM 0 = a2 ∧ va_P D x_cl (x_W cA adC (CG σ)) H ∧ va_D (A2 s (x_W cA adM (MG μ))) (x_W cA adC (CG σ)) ∧ va_P D x_cl (x_W cA adM (MG μ)) H ∧ va_D (fun q => s.heap.size ≤ q) (x_W cA adM (MG μ)) ∧ va_S (fun q => s.heap.size ≤ q) s.heap H locs
/-- between the two calls: the model's answer is known -/
def lw_V (s : State) (D : va_G) (cA : Nat → ClassId) (H : Heap) (locs : List Loc) (a1 a2 mM : Nat) (ys : List Int32) (v : Int32) : Prop := ∃ (adC adM : Nat → Nat) (σ : x_S) (μ μ' : x_U), SIM σ μ' ∧ x_R x_P 30 mM (.ref 0 :: ys.map .int) (MG μ) = some (some (.int v), MG μ') ∧ adC 0 = a1 ∧ adM 0 = a2 ∧ va_P D x_cl (x_W cA adC (CG σ)) H ∧ va_D (A2 s (x_W cA adM (MG μ))) (x_W cA adC (CG σ)) ∧ va_P D x_cl (x_W cA adM (MG μ)) H ∧ va_D (fun q => s.heap.size ≤ q) (x_W cA adM (MG μ)) ∧ va_S (fun q => s.heap.size ≤ q) s.heap H locs
theorem lw_W.S {s : State} {D : va_G} {cA : Nat → ClassId} {H : Heap} {locs : List Loc} {a1 a2 : Nat} (h : lw_W s D cA H locs a1 a2) : va_S (fun q => s.heap.size ≤ q) s.heap H locs := by
  obtain ⟨adC, adM, σ, μ, h1, h2, h3, h4, h5, h6, h7, h8⟩ := h
  exact h8
theorem lw_V.S {s : State} {D : va_G} {cA : Nat → ClassId} {H : Heap} {locs : List Loc} {a1 a2 mM : Nat} {ys : List Int32} {v : Int32} (h : lw_V s D cA H locs a1 a2 mM ys v) : va_S (fun q => s.heap.size ≤ q) s.heap H locs := by
  obtain ⟨adC, adM, σ, μ, μ', h1, h2, h3, h4, h5, h6, h7, h8, h9⟩ := h
  exact h9
theorem x_ys {ys : List Int32} : ∀ v ∈ ys.map Value.int, ∃ x, v = .int x := fun v hv => by
  obtain ⟨x, -, rfl⟩ := List.mem_map.mp hv
  exact ⟨x, rfl⟩
theorem CG_wh (σ : x_S) : x_wh (CG σ) := fun i hi ci fs h => by
  have k : ∀ i, i < 87 → ∀ ci fs, c_k i (σ.1 i) (σ.2 i) = .inr (ci, fs) → okw 87 fs = true := fun i hi => match i, hi with
    | 0, _ => fun _ _ h => by cases h <;> rfl
    | 1, _ => fun _ _ h => by cases h <;> rfl
    | 2, _ => fun _ _ h => by cases h <;> rfl
    | 3, _ => fun _ _ h => by cases h <;> rfl
    | 4, _ => fun _ _ h => by cases h <;> rfl
    | 5, _ => fun _ _ h => by cases h <;> rfl
    | 6, _ => fun _ _ h => by cases h <;> rfl
    | 7, _ => fun _ _ h => by cases h <;> rfl
    | 8, _ => fun _ _ h => by cases h <;> rfl
    | 9, _ => fun _ _ h => by cases h <;> rfl
    | 10, _ => fun _ _ h => by cases h <;> rfl
    | 11, _ => fun _ _ h => by cases h <;> rfl
    | 12, _ => fun _ _ h => by cases h <;> rfl
    | 13, _ => fun _ _ h => by cases h <;> rfl
    | 14, _ => fun _ _ h => by cases h <;> rfl
    | 15, _ => fun _ _ h => by cases h <;> rfl
    | 16, _ => fun _ _ h => by cases h <;> rfl
    | 17, _ => fun _ _ h => by cases h <;> rfl
    | 18, _ => fun _ _ h => by cases h <;> rfl
    | 19, _ => fun _ _ h => by cases h <;> rfl
    | 20, _ => fun _ _ h => by cases h <;> rfl
    | 21, _ => fun _ _ h => by cases h <;> rfl
    | 22, _ => fun _ _ h => by cases h <;> rfl
    | 23, _ => fun _ _ h => by cases h <;> rfl
    | 24, _ => fun _ _ h => by cases h <;> rfl
    | 25, _ => fun _ _ h => by cases h <;> rfl
    | 26, _ => fun _ _ h => by cases h <;> rfl
    | 27, _ => fun _ _ h => by cases h <;> rfl
    | 28, _ => fun _ _ h => by cases h <;> rfl
    | 29, _ => fun _ _ h => by cases h <;> rfl
    | 30, _ => fun _ _ h => by cases h <;> rfl
    | 31, _ => fun _ _ h => by cases h <;> rfl
    | 32, _ => fun _ _ h => by cases h <;> rfl
    | 33, _ => fun _ _ h => by cases h <;> rfl
    | 34, _ => fun _ _ h => by cases h <;> rfl
    | 35, _ => fun _ _ h => by cases h <;> rfl
    | 36, _ => fun _ _ h => by cases h <;> rfl
    | 37, _ => fun _ _ h => by cases h <;> rfl
    | 38, _ => fun _ _ h => by cases h <;> rfl
    | 39, _ => fun _ _ h => by cases h <;> rfl
    | 40, _ => fun _ _ h => by cases h <;> rfl
    | 41, _ => fun _ _ h => by cases h <;> rfl
    | 42, _ => fun _ _ h => by cases h <;> rfl
    | 43, _ => fun _ _ h => by cases h <;> rfl
    | 44, _ => fun _ _ h => by cases h <;> rfl
    | 45, _ => fun _ _ h => by cases h <;> rfl
    | 46, _ => fun _ _ h => by cases h <;> rfl
    | 47, _ => fun _ _ h => by cases h <;> rfl
    | 48, _ => fun _ _ h => by cases h <;> rfl
    | 49, _ => fun _ _ h => by cases h <;> rfl
    | 50, _ => fun _ _ h => by cases h <;> rfl
    | 51, _ => fun _ _ h => by cases h <;> rfl
    | 52, _ => fun _ _ h => by cases h <;> rfl
    | 53, _ => fun _ _ h => by cases h <;> rfl
    | 54, _ => fun _ _ h => by cases h <;> rfl
    | 55, _ => fun _ _ h => by cases h <;> rfl
    | 56, _ => fun _ _ h => by cases h <;> rfl
    | 57, _ => fun _ _ h => by cases h <;> rfl
    | 58, _ => fun _ _ h => by cases h <;> rfl
    | 59, _ => fun _ _ h => by cases h <;> rfl
    | 60, _ => fun _ _ h => by cases h <;> rfl
    | 61, _ => fun _ _ h => by cases h <;> rfl
    | 62, _ => fun _ _ h => by cases h <;> rfl
    | 63, _ => fun _ _ h => by cases h <;> rfl
    | 64, _ => fun _ _ h => by cases h <;> rfl
    | 65, _ => fun _ _ h => by cases h <;> rfl
    | 66, _ => fun _ _ h => by cases h <;> rfl
    | 67, _ => fun _ _ h => by cases h <;> rfl
    | 68, _ => fun _ _ h => by cases h <;> rfl
    | 69, _ => fun _ _ h => by cases h <;> rfl
    | 70, _ => fun _ _ h => by cases h <;> rfl
    | 71, _ => fun _ _ h => by cases h <;> rfl
    | 72, _ => fun _ _ h => by cases h <;> rfl
    | 73, _ => fun _ _ h => by cases h <;> rfl
    | 74, _ => fun _ _ h => by cases h <;> rfl
    | 75, _ => fun _ _ h => by cases h <;> rfl
    | 76, _ => fun _ _ h => by cases h <;> rfl
    | 77, _ => fun _ _ h => by cases h <;> rfl
    | 78, _ => fun _ _ h => by cases h <;> rfl
    | 79, _ => fun _ _ h => by cases h <;> rfl
    | 80, _ => fun _ _ h => by cases h <;> rfl
    | 81, _ => fun _ _ h => by cases h <;> rfl
    | 82, _ => fun _ _ h => by cases h <;> rfl
    | 83, _ => fun _ _ h => by cases h <;> rfl
    | 84, _ => fun _ _ h => by cases h <;> rfl
    | 85, _ => fun _ _ h => by cases h <;> rfl
    | 86, _ => fun _ _ h => by cases h <;> rfl
    | n + 87, h => absurd h (Nat.not_lt.mpr (Nat.le_add_left 87 n))
  exact okw_of (k i hi ci fs h)
theorem MG_wh (μ : x_U) : x_wh (MG μ) := fun i hi ci fs h => by
  have k : ∀ i, i < 20 → ∀ ci fs, m_k i (μ.1 i) (μ.2.1 i) μ.2.2.1 μ.2.2.2 = .inr (ci, fs) → okw 20 fs = true := fun i hi => match i, hi with
    | 0, _ => fun _ _ h => by cases h <;> rfl
    | 1, _ => fun _ _ h => by cases h <;> rfl
    | 2, _ => fun _ _ h => by cases h <;> rfl
    | 3, _ => fun _ _ h => by cases h <;> rfl
    | 4, _ => fun _ _ h => by cases h <;> rfl
    | 5, _ => fun _ _ h => by cases h <;> rfl
    | 6, _ => fun _ _ h => by cases h <;> rfl
    | 7, _ => fun _ _ h => by cases h <;> rfl
    | 8, _ => fun _ _ h => by cases h <;> rfl
    | 9, _ => fun _ _ h => by cases h <;> rfl
    | 10, _ => fun _ _ h => by cases h <;> rfl
    | 11, _ => fun _ _ h => by cases h <;> rfl
    | 12, _ => fun _ _ h => by cases h <;> rfl
    | 13, _ => fun _ _ h => by cases h <;> rfl
    | 14, _ => fun _ _ h => by cases h <;> rfl
    | 15, _ => fun _ _ h => by cases h <;> rfl
    | 16, _ => fun _ _ h => by cases h <;> rfl
    | 17, _ => fun _ _ h => by cases h <;> rfl
    | 18, _ => fun _ _ h => by cases h <;> rfl
    | 19, _ => fun _ _ h => by cases h <;> rfl
    | n + 20, h => absurd h (Nat.not_lt.mpr (Nat.le_add_left 20 n))
  exact okw_of (k i hi ci fs h)
section LAW
variable {p : Program} {l : Launch} {e : Env} {s : State} {m : MethodId} {below : List Frame} {meth : Method} {c : Code} {D : va_G} {cA : Nat → ClassId} {b : Nat} {Q : State → Prop} {H : Heap} {locs : List Loc}
theorem law_callC (F : lw_Fx p s m c D cA b) {pc mC mM n idx a1 a2 : Nat} {LS : Array Slot} (ys : List Int32) (rest : List Value) (hLS : LS.size = 4) (hdg : decode code pc = .ok (.invokevirtual idx, 3)) (hok : lw_ok mC n idx 10) (hSim : Sim mC mM (ys.map .int)) (hn : ys.length = n) (hrest : (rest.map fun v => v.category).sum ≤ 8) (hW : lw_W s D cA H locs a1 a2)
    (kk : ∀ (v : Int32) (H1 : Heap) (locs1 : List Loc), lw_V s D cA H1 locs1 a1 a2 mM ys v → W p l e room_1 s m #[Value.ref b] below meth c H1 locs1 107 1800 Q (F0 m (pc + 3) LS (.int v :: rest))) : W p l e room_1 s m #[Value.ref b] below meth c H locs 107 1800 Q (F0 m pc LS ((ys.map .int).reverse ++ .ref a1 :: rest)) := by
  obtain ⟨adC, adM, σ, μ, hS, rfl, rfl, h4, h5, h6, h7, h8⟩ := hW
  obtain ⟨v, h', σ', μ', hC, ⟨⟨z1, z2⟩, he⟩, hM, hS'⟩ := hSim σ μ hS
  refine law_virt F (h := CG σ) hLS hdg hok hC (by rw [List.length_map]; exact hn) x_ys (show 0 < 87 by decide) rfl (CG_wh σ) hrest z1 z2 (by omega) (by omega) h4 h5 h6 h8 (fun ad' H1 locs1 q0 q1 q2 q3 q4 => ?_)
  obtain ⟨ad2, g0, g1, g2⟩ := he D cA ad' H1 _ q1 q2
  exact kk v H1 locs1 ⟨ad2, adM, σ', μ, μ', hS', hM, g0.trans q0, rfl, g1, g2, q3, h7, q4⟩
theorem law_callM (F : lw_Fx p s m c D cA b) {pc mM n idx a1 a2 : Nat} {LS : Array Slot} {v : Int32} (ys : List Int32) (rest : List Value) (hLS : LS.size = 4) (hdg : decode code pc = .ok (.invokevirtual idx, 3)) (hok : lw_ok mM n idx 11) (hn : ys.length = n) (hrest : (rest.map fun v => v.category).sum ≤ 8) (hV : lw_V s D cA H locs a1 a2 mM ys v)
    (kk : ∀ (H1 : Heap) (locs1 : List Loc), lw_W s D cA H1 locs1 a1 a2 → W p l e room_1 s m #[Value.ref b] below meth c H1 locs1 107 1800 Q (F0 m (pc + 3) LS (.int v :: rest))) : W p l e room_1 s m #[Value.ref b] below meth c H locs 107 1800 Q (F0 m pc LS ((ys.map .int).reverse ++ .ref a2 :: rest)) := by
  obtain ⟨adC, adM, σ, μ, μ', hS, hM, rfl, rfl, h4, h5, h6, h7, h8⟩ := hV
  obtain ⟨d1, d2⟩ := A2.sym h5 h7
  refine law_virt F (h := MG μ) hLS hdg hok hM (by rw [List.length_map]; exact hn) x_ys (show 0 < 20 by decide) rfl (MG_wh μ) hrest rfl rfl (by omega) (by omega) h6 d1 h4 h8 (fun ad' H1 locs1 q0 q1 q2 q3 q4 => ?_)
  obtain ⟨d3, d4⟩ := A2.sym q2 d2
  exact kk H1 locs1 ⟨adC, ad', σ, μ', hS, rfl, q0, q3, d3, q1, d4, q4⟩
end LAW
