/-! THE WHOLE -/
theorem x_W_one (cA : Nat → ClassId) (q w ci : Nat) (fs : List Value) (hfs : fs.map (x_v (fun _ => q)) = fs) : x_W cA (fun _ => q) (1, w, fun _ => .inr (ci, fs)) = [(q, .inr (ci, fs))] := by
  show [(q, Sum.inr (ci, fs.map (x_v (fun _ => q))))] = _
  rw [hfs]
theorem va_P_l {D : va_G} {w1 w2 : va_W} {H : Heap} (h : va_P D x_cl (w1 ++ w2) H) : va_P D x_cl w1 H ∧ va_P D x_cl w2 H := by
  refine ⟨fun k q hk => h k q ?_, fun k q hk => h (w1.length + k) q ?_⟩
  · rw [List.getElem?_append_left (List.getElem?_eq_some_iff.mp hk).1]; exact hk
  · rw [List.getElem?_append_right (Nat.le_add_right _ _), Nat.add_sub_cancel_left]; exact hk
theorem va_D_l {s : State} {w1 w2 : va_W} (h : va_D (fun q => s.heap.size ≤ q) (w1 ++ w2)) : va_D (fun q => s.heap.size ≤ q) w1 ∧ va_D (A2 s w1) w2 := by
  have e1 : ∀ (k : Nat) (q : Nat × va_E), w1[k]? = some q → (w1 ++ w2)[k]? = some q := fun k q hk => by
    rw [List.getElem?_append_left (List.getElem?_eq_some_iff.mp hk).1]; exact hk
  have e2 : ∀ (k : Nat) (q : Nat × va_E), w2[k]? = some q → (w1 ++ w2)[w1.length + k]? = some q := fun k q hk => by
    rw [List.getElem?_append_right (Nat.le_add_right _ _), Nat.add_sub_cancel_left]; exact hk
  refine ⟨⟨fun i j x y hi hj hxy => h.1 i j x y (e1 i x hi) (e1 j y hj) hxy, fun k q hk => h.2 k q (e1 k q hk)⟩, ⟨fun i j x y hi hj hxy => ?_, fun k q hk => ⟨h.2 _ q (e2 k q hk), fun j y hj hxy => ?_⟩⟩⟩
  · have := h.1 _ _ x y (e2 i x hi) (e2 j y hj) hxy
    omega
  · have := h.1 _ _ q y (e2 k q hk) (e1 j y hj) hxy
    have := (List.getElem?_eq_some_iff.mp hj).1
    omega
theorem c_wh0 : x_wh c_h0 := fun i hi ci fs h => by
  cases h
  exact okw_of (by decide +kernel)
theorem m_wh0 : x_wh m_h0 := fun i hi ci fs h => by
  cases h
  exact okw_of (by decide +kernel)
/-- the law from its entry: it comes to its end with true -/
theorem whole_start {p : Program} {e : Env} {s : State} {m : MethodId} {below : List Frame} {meth : Method} {c : Code} (l : Launch) (hflags : l.flags = flags0) {b L : Nat} {xs : Nat → Int32} (hL : L ≤ 320) (C0 : lw_At p s m meth c b L xs) : W p l e room_1 s m #[Value.ref b] below meth c s.heap [] 0 0 (lw_Z below #[Value.ref b] s) (entryFrame m ([Value.ref b] : List Value).toArray 4) := by
  obtain ⟨hx, hb, hr, hml, hown, hts, hX, hbl, hlocks, hgv⟩ := C0
  have hts2 : ∀ w ∈ x_tb, w.before #[Value.ref b] s = true := fun w hw => hts w (x_tb_in hw)
  obtain ⟨D, cA, hK⟩ := x_known hts
  have F : lw_Fx p s m c D cA b := ⟨hx, hb, hml, hown, hts, hK, x_NW.of hts⟩
  have hA : ∀ q : Nat, s.heap.size ≤ q → (fun q : Nat => s.heap.size ≤ q) q := fun _ h => h
  have hS : va_S (fun q : Nat => s.heap.size ≤ q) s.heap s.heap [] := va_S.rf
  have hP : va_P D x_cl [] s.heap := fun k q h => by simp at h
  have hD : va_D (fun q : Nat => s.heap.size ≤ q) [] := ⟨fun i j p q h => by simp at h, fun k q h => by simp at h⟩
  have hl := lv_entry ([.ref b]) (n := 4) (Nat.le_of_ble_eq_true rfl)
  rw [lg_entry_eq]
  generalize (lg_sl ([.ref b]) ++ List.replicate (4 - (lg_sl ([.ref b])).length) Slot.unset).toArray = ls at hl ⊢
  have hl : lv_has ls 4 [(0, .ref b)] := hl
  -- the class's object
  refine va_new (D := D) (cl := x_cl) (ci := 10) (fs := x_df 10) (C := "WhateverYard") (T := x_F10) (N := 14) hx hb hts2 x_clok10.1 (x_ty 10) x_clok10.2.1 hown (hts _ (List.mem_of_getElem? (i := 67) (by decide +kernel))) (hts2 _ x_clok10.2.2.2.1) (hts2 _ x_clok10.2.2.2.2) hK hP hD hS hA rfl (by decide +kernel) (Nat.le_of_ble_eq_true rfl) (Nat.le_of_ble_eq_true rfl) d_law_0 (fun q1 H hP hD hS => ?_)
  have eW1 : x_W cA (fun _ => q1) c_h0 = [(q1, .inr (10, x_df 10))] := x_W_one cA q1 14 10 (x_df 10) rfl
  have hP : va_P D x_cl (x_W cA (fun _ => q1) c_h0) H := by rw [eW1]; exact hP
  have hD : va_D (A2 s []) (x_W cA (fun _ => q1) c_h0) := by rw [eW1]; exact (va_D_l (w1 := []) hD).2
  refine lv_dup hx hb d_law_3 rfl ?_
  obtain ⟨hC, σ, c1, c2, c3, c4, c5⟩ := c_first
  refine law_init F (h := c_h0) (ad := fun _ => q1) (mc := 86) (ms := 934) (rest := [.ref q1]) hl.1 d_law_4 (by decide +kernel) (List.mem_of_getElem? (i := 69) (by decide +kernel)) (List.mem_of_getElem? (i := 70) (by decide +kernel)) (by decide +kernel) (by decide +kernel) (by decide +kernel) c1 (by decide) c_wh0 (show (1 : Nat) ≤ 8 by decide) (by show hC.1 - 1 = 86; rw [c2]) (by show hC.2.1 - 14 = 934; rw [c3]) (by decide) (by decide) hP hD (W2 := []) (fun k q h => by simp at h) hS (fun adC H1 locs1 q0 hP1 hD1 _ hS1 => ?_)
  have hP1 : va_P D x_cl (x_W cA adC hC) H1 := hP1
  have hD1 : va_D (A2 s []) (x_W cA adC hC) := hD1
  rw [c4] at hP1 hD1
  have hD1 := (A2.sym hD1 ⟨fun i j p q h => by simp at h, fun k q h => by simp at h⟩).2
  refine lv_astore_n (x := q1) (lv' := [(1, .ref q1), (0, .ref b)]) hx hb d_law_7 rfl hl (by decide) rfl (fun ls hl => ?_)
  -- the model's object
  refine va_new (D := D) (cl := x_cl) (ci := 11) (fs := x_df 11) (C := "WhateverYardModel") (T := x_F11) (N := 31) hx hb hts2 x_clok11.1 (x_ty 11) x_clok11.2.1 hown (hts _ (List.mem_of_getElem? (i := 839) (by decide +kernel))) (hts2 _ x_clok11.2.2.2.1) (hts2 _ x_clok11.2.2.2.2) hK hP1 hD1 hS1 hA rfl (by decide +kernel) (Nat.le_of_ble_eq_true rfl) (Nat.le_of_ble_eq_true rfl) d_law_8 (fun q2 H2 hP2 hD2 hS2 => ?_)
  obtain ⟨pC, pM⟩ := va_P_l hP2
  obtain ⟨dC, dM⟩ := va_D_l hD2
  have eW2 : x_W cA (fun _ => q2) m_h0 = [(q2, .inr (11, x_df 11))] := x_W_one cA q2 31 11 (x_df 11) rfl
  rw [← eW2] at pM dM
  refine lv_dup hx hb d_law_11 rfl ?_
  obtain ⟨hM, μ, m1, m2, m3, m4, m5, m6, m7, m8, m9⟩ := m_first
  refine law_init F (h := m_h0) (ad := fun _ => q2) (mc := 19) (ms := 821) (rest := [.ref q2]) hl.1 d_law_12 (by decide +kernel) (List.mem_of_getElem? (i := 841) (by decide +kernel)) (List.mem_of_getElem? (i := 842) (by decide +kernel)) (by decide +kernel) (by decide +kernel) (by decide +kernel) m1 (by decide) m_wh0 (show (1 : Nat) ≤ 8 by decide) (by show hM.1 - 1 = 19; rw [m2]) (by show hM.2.1 - 31 = 821; rw [m3]) (by decide) (by decide) pM dM pC hS2 (fun adM H3 locs3 q0' pM3 dM3 pC3 hS3 => ?_)
  have pM3 : va_P D x_cl (x_W cA adM hM) H3 := pM3
  have dM3 : va_D (A2 s (x_W cA adC (CG σ))) (x_W cA adM hM) := dM3
  rw [m4] at pM3 dM3
  obtain ⟨dC4, dM4⟩ := A2.sym dM3 dC
  refine lv_astore_n (x := q2) (lv' := [(2, .ref q2), (1, .ref q1), (0, .ref b)]) hx hb d_law_15 rfl hl (by decide) rfl (fun ls hl => ?_)
  refine lv_iconst (v := 0) hx hb d_law_16 (by decide) ?_
  refine lv_istore_n (lv' := [(3, .int 0), (2, .ref q2), (1, .ref q1), (0, .ref b)]) hx hb d_law_17 rfl hl (by decide) rfl (fun ls hl => ?_)
  exact law_loop F hr hlocks (a1 := q1) (a2 := q2) hX hbl hL (L + 1) 0 H3 locs3 ls (by omega) (by omega) ⟨adC, adM, σ, μ, SIM_first c5 m5 m6 m7 m8 m9, q0, q0', pC3, dC4, pM3, dM4, hS3⟩ (lv_sub hl [3, 2, 1, 0] rfl)
