/-! THE SHOPS SWAPPED: the cells named anew are a state again (made by gen08.py) -/
def sw (q : Nat) : Nat := if 4 ≤ q ∧ q ≤ 22 then q + 19 else if 23 ≤ q ∧ q ≤ 41 then q - 19 else q
def ex (σ : x_S) : x_S := (fun q => σ.1 (sw q), fun q => σ.2 (sw q))
theorem sw_lt {i : Nat} (h : i < 87) : sw i < 87 := by
  unfold sw
  split
  · omega
  · split <;> omega
theorem sw_sw (i : Nat) : sw (sw i) = i := by
  unfold sw
  split <;> split <;> first | omega | (split <;> omega)
theorem sw_inj {i j : Nat} (h : sw i = sw j) : i = j := by rw [← sw_sw i, h, sw_sw]
theorem sw_e (cA : Nat → ClassId) (ad : Nat → Nat) (a s : Nat → Int32) : ∀ i, i < 87 → x_e cA (fun q => ad (sw q)) (c_k i a s) = x_e cA ad (c_s (sw i) a s) := fun i hi => match i, hi with
  | 0, _ => rfl
  | 1, _ => rfl
  | 2, _ => rfl
  | 3, _ => rfl
  | 4, _ => rfl
  | 5, _ => rfl
  | 6, _ => rfl
  | 7, _ => rfl
  | 8, _ => rfl
  | 9, _ => rfl
  | 10, _ => rfl
  | 11, _ => rfl
  | 12, _ => rfl
  | 13, _ => rfl
  | 14, _ => rfl
  | 15, _ => rfl
  | 16, _ => rfl
  | 17, _ => rfl
  | 18, _ => rfl
  | 19, _ => rfl
  | 20, _ => rfl
  | 21, _ => rfl
  | 22, _ => rfl
  | 23, _ => rfl
  | 24, _ => rfl
  | 25, _ => rfl
  | 26, _ => rfl
  | 27, _ => rfl
  | 28, _ => rfl
  | 29, _ => rfl
  | 30, _ => rfl
  | 31, _ => rfl
  | 32, _ => rfl
  | 33, _ => rfl
  | 34, _ => rfl
  | 35, _ => rfl
  | 36, _ => rfl
  | 37, _ => rfl
  | 38, _ => rfl
  | 39, _ => rfl
  | 40, _ => rfl
  | 41, _ => rfl
  | 42, _ => rfl
  | 43, _ => rfl
  | 44, _ => rfl
  | 45, _ => rfl
  | 46, _ => rfl
  | 47, _ => rfl
  | 48, _ => rfl
  | 49, _ => rfl
  | 50, _ => rfl
  | 51, _ => rfl
  | 52, _ => rfl
  | 53, _ => rfl
  | 54, _ => rfl
  | 55, _ => rfl
  | 56, _ => rfl
  | 57, _ => rfl
  | 58, _ => rfl
  | 59, _ => rfl
  | 60, _ => rfl
  | 61, _ => rfl
  | 62, _ => rfl
  | 63, _ => rfl
  | 64, _ => rfl
  | 65, _ => rfl
  | 66, _ => rfl
  | 67, _ => rfl
  | 68, _ => rfl
  | 69, _ => rfl
  | 70, _ => rfl
  | 71, _ => rfl
  | 72, _ => rfl
  | 73, _ => rfl
  | 74, _ => rfl
  | 75, _ => rfl
  | 76, _ => rfl
  | 77, _ => rfl
  | 78, _ => rfl
  | 79, _ => rfl
  | 80, _ => rfl
  | 81, _ => rfl
  | 82, _ => rfl
  | 83, _ => rfl
  | 84, _ => rfl
  | 85, _ => rfl
  | 86, _ => rfl
  | n + 87, h => absurd h (Nat.not_lt.mpr (Nat.le_add_left 87 n))
theorem ks_lt (a s : Nat → Int32) : ∀ i, i < 87 → i ≠ 0 → c_k i a s = c_s i a s := fun i hi h0 => match i, hi, h0 with
  | 0, _, h => absurd rfl h
  | 1, _, _ => rfl
  | 2, _, _ => rfl
  | 3, _, _ => rfl
  | 4, _, _ => rfl
  | 5, _, _ => rfl
  | 6, _, _ => rfl
  | 7, _, _ => rfl
  | 8, _, _ => rfl
  | 9, _, _ => rfl
  | 10, _, _ => rfl
  | 11, _, _ => rfl
  | 12, _, _ => rfl
  | 13, _, _ => rfl
  | 14, _, _ => rfl
  | 15, _, _ => rfl
  | 16, _, _ => rfl
  | 17, _, _ => rfl
  | 18, _, _ => rfl
  | 19, _, _ => rfl
  | 20, _, _ => rfl
  | 21, _, _ => rfl
  | 22, _, _ => rfl
  | 23, _, _ => rfl
  | 24, _, _ => rfl
  | 25, _, _ => rfl
  | 26, _, _ => rfl
  | 27, _, _ => rfl
  | 28, _, _ => rfl
  | 29, _, _ => rfl
  | 30, _, _ => rfl
  | 31, _, _ => rfl
  | 32, _, _ => rfl
  | 33, _, _ => rfl
  | 34, _, _ => rfl
  | 35, _, _ => rfl
  | 36, _, _ => rfl
  | 37, _, _ => rfl
  | 38, _, _ => rfl
  | 39, _, _ => rfl
  | 40, _, _ => rfl
  | 41, _, _ => rfl
  | 42, _, _ => rfl
  | 43, _, _ => rfl
  | 44, _, _ => rfl
  | 45, _, _ => rfl
  | 46, _, _ => rfl
  | 47, _, _ => rfl
  | 48, _, _ => rfl
  | 49, _, _ => rfl
  | 50, _, _ => rfl
  | 51, _, _ => rfl
  | 52, _, _ => rfl
  | 53, _, _ => rfl
  | 54, _, _ => rfl
  | 55, _, _ => rfl
  | 56, _, _ => rfl
  | 57, _, _ => rfl
  | 58, _, _ => rfl
  | 59, _, _ => rfl
  | 60, _, _ => rfl
  | 61, _, _ => rfl
  | 62, _, _ => rfl
  | 63, _, _ => rfl
  | 64, _, _ => rfl
  | 65, _, _ => rfl
  | 66, _, _ => rfl
  | 67, _, _ => rfl
  | 68, _, _ => rfl
  | 69, _, _ => rfl
  | 70, _, _ => rfl
  | 71, _, _ => rfl
  | 72, _, _ => rfl
  | 73, _, _ => rfl
  | 74, _, _ => rfl
  | 75, _, _ => rfl
  | 76, _, _ => rfl
  | 77, _, _ => rfl
  | 78, _, _ => rfl
  | 79, _, _ => rfl
  | 80, _, _ => rfl
  | 81, _, _ => rfl
  | 82, _, _ => rfl
  | 83, _, _ => rfl
  | 84, _, _ => rfl
  | 85, _, _ => rfl
  | 86, _, _ => rfl
  | n + 87, h, _ => absurd h (Nat.not_lt.mpr (Nat.le_add_left 87 n))
theorem ks_ge (a s : Nat → Int32) {i : Nat} (h : 87 ≤ i) : c_k i a s = c_s i a s := by
  have e1 : c_k i a s = .inr (0, []) := by
    unfold c_k
    split <;> first | omega | rfl
  have e2 : c_s i a s = .inr (0, []) := by
    unfold c_s
    split <;> first | omega | rfl
  rw [e1, e2]
theorem x_swap (σ : x_S) : ∃ h1, x_pfd (CG σ) 0 10 1 (.ref 23) = some h1 ∧ x_pfd h1 0 10 2 (.ref 4) = some (CS σ) := by
  refine ⟨_, rfl, ?_⟩
  refine congrArg some ?_
  unfold x_set CS
  congr 2
  funext j
  by_cases hj : j = 0
  · subst hj; rfl
  · simp only [hj, if_false]
    by_cases hl : j < 87
    · exact ks_lt _ _ j hl hj
    · exact ks_ge _ _ (Nat.not_lt.mp hl)
theorem sw_W (σ : x_S) (cA : Nat → ClassId) (ad : Nat → Nat) (i : Nat) : (x_W cA (fun q => ad (sw q)) (CG (ex σ)))[i]? = (x_W cA ad (CS σ))[sw i]? := by
  by_cases hi : i < 87
  · rw [x_W_at (h := CG (ex σ)) hi, x_W_at (h := CS σ) (sw_lt hi)]
    show some (ad (sw i), x_e cA (fun q => ad (sw q)) (c_k i (σ.1 (sw i)) (σ.2 (sw i)))) = some (ad (sw i), x_e cA ad (c_s (sw i) (σ.1 (sw i)) (σ.2 (sw i))))
    rw [sw_e cA ad _ _ i hi]
  · have hs : sw i = i := by
      unfold sw
      rw [if_neg (by omega), if_neg (by omega)]
    rw [hs, List.getElem?_eq_none (by rw [x_W_len]; exact Nat.not_lt.mp hi), List.getElem?_eq_none (by rw [x_W_len]; exact Nat.not_lt.mp hi)]
theorem x_eqv_sw (σ : x_S) : x_eqv (CS σ) (CG (ex σ)) := by
  refine ⟨⟨rfl, rfl⟩, ?_⟩
  intro D cA ad H A hP hD
  refine ⟨fun q => ad (sw q), rfl, fun k q hk => hP (sw k) q ((sw_W σ cA ad k).symm.trans hk), fun i j p q hi hj hpq => ?_, fun k q hk => hD.2 (sw k) q ((sw_W σ cA ad k).symm.trans hk)⟩
  exact sw_inj (hD.1 (sw i) (sw j) p q ((sw_W σ cA ad i).symm.trans hi) ((sw_W σ cA ad j).symm.trans hj) hpq)
