/-! THE CLASS'S HEAP with its two shops swapped: parts 14 and 15 once more (made by gen07.py) -/
def c_s (q : Nat) (a s : Nat → Int32) : x_C := match q with
  | 0 => .inr (10, [.ref 1, .ref 23, .ref 4, .ref 42, .ref 47, .ref 50, .ref 57, .ref 62, .ref 67, .ref 76, .ref 83, .ref 85, .int (s 12), .int (s 13)])
  | 1 => .inr (6, [.ref 2, .int (s 1), .int (s 2), .int (s 3), .int (s 4)])
  | 2 => .inr (7, [.ref 3, .int (s 1)])
  | 3 => .inl (0, 240, .inl a)
  | 4 => .inr (8, [.int (s 0), .int (s 1), .ref 5, .ref 7, .ref 9, .ref 11, .ref 13, .ref 15, .ref 17, .ref 19, .ref 21])
  | 5 => .inr (7, [.ref 6, .int (s 1)])
  | 6 => .inl (0, 6, .inl a)
  | 7 => .inr (7, [.ref 8, .int (s 1)])
  | 8 => .inl (0, 8, .inl a)
  | 9 => .inr (7, [.ref 10, .int (s 1)])
  | 10 => .inl (0, 8, .inl a)
  | 11 => .inr (7, [.ref 12, .int (s 1)])
  | 12 => .inl (0, 8, .inl a)
  | 13 => .inr (7, [.ref 14, .int (s 1)])
  | 14 => .inl (0, 8, .inl a)
  | 15 => .inr (7, [.ref 16, .int (s 1)])
  | 16 => .inl (0, 6, .inl a)
  | 17 => .inr (7, [.ref 18, .int (s 1)])
  | 18 => .inl (0, 6, .inl a)
  | 19 => .inr (7, [.ref 20, .int (s 1)])
  | 20 => .inl (0, 6, .inl a)
  | 21 => .inr (7, [.ref 22, .int (s 1)])
  | 22 => .inl (0, 6, .inl a)
  | 23 => .inr (8, [.int (s 0), .int (s 1), .ref 24, .ref 26, .ref 28, .ref 30, .ref 32, .ref 34, .ref 36, .ref 38, .ref 40])
  | 24 => .inr (7, [.ref 25, .int (s 1)])
  | 25 => .inl (0, 6, .inl a)
  | 26 => .inr (7, [.ref 27, .int (s 1)])
  | 27 => .inl (0, 8, .inl a)
  | 28 => .inr (7, [.ref 29, .int (s 1)])
  | 29 => .inl (0, 8, .inl a)
  | 30 => .inr (7, [.ref 31, .int (s 1)])
  | 31 => .inl (0, 8, .inl a)
  | 32 => .inr (7, [.ref 33, .int (s 1)])
  | 33 => .inl (0, 8, .inl a)
  | 34 => .inr (7, [.ref 35, .int (s 1)])
  | 35 => .inl (0, 6, .inl a)
  | 36 => .inr (7, [.ref 37, .int (s 1)])
  | 37 => .inl (0, 6, .inl a)
  | 38 => .inr (7, [.ref 39, .int (s 1)])
  | 39 => .inl (0, 6, .inl a)
  | 40 => .inr (7, [.ref 41, .int (s 1)])
  | 41 => .inl (0, 6, .inl a)
  | 42 => .inr (1, [.ref 43, .ref 45, .int (s 2), .int (s 3)])
  | 43 => .inr (7, [.ref 44, .int (s 1)])
  | 44 => .inl (0, 6, .inl a)
  | 45 => .inr (7, [.ref 46, .int (s 1)])
  | 46 => .inl (0, 6, .inl a)
  | 47 => .inr (5, [.ref 48, .int (s 1), .int (s 2)])
  | 48 => .inr (7, [.ref 49, .int (s 1)])
  | 49 => .inl (0, 280, .inl a)
  | 50 => .inr (4, [.ref 51, .ref 53, .ref 55])
  | 51 => .inr (7, [.ref 52, .int (s 1)])
  | 52 => .inl (0, 6, .inl a)
  | 53 => .inr (7, [.ref 54, .int (s 1)])
  | 54 => .inl (0, 6, .inl a)
  | 55 => .inr (7, [.ref 56, .int (s 1)])
  | 56 => .inl (0, 6, .inl a)
  | 57 => .inr (0, [.ref 58, .ref 60])
  | 58 => .inr (7, [.ref 59, .int (s 1)])
  | 59 => .inl (0, 15, .inl a)
  | 60 => .inr (7, [.ref 61, .int (s 1)])
  | 61 => .inl (0, 15, .inl a)
  | 62 => .inr (3, [.ref 63, .ref 65])
  | 63 => .inr (7, [.ref 64, .int (s 1)])
  | 64 => .inl (0, 6, .inl a)
  | 65 => .inr (7, [.ref 66, .int (s 1)])
  | 66 => .inl (0, 6, .inl a)
  | 67 => .inr (9, [.ref 68, .int (s 1), .int (s 2), .ref 70, .ref 72, .ref 74])
  | 68 => .inr (7, [.ref 69, .int (s 1)])
  | 69 => .inl (0, 4, .inl a)
  | 70 => .inr (7, [.ref 71, .int (s 1)])
  | 71 => .inl (0, 4, .inl a)
  | 72 => .inr (7, [.ref 73, .int (s 1)])
  | 73 => .inl (0, 6, .inl a)
  | 74 => .inr (7, [.ref 75, .int (s 1)])
  | 75 => .inl (0, 6, .inl a)
  | 76 => .inr (2, [.ref 77, .int (s 1), .int (s 2), .int (s 3), .ref 79, .ref 81])
  | 77 => .inr (7, [.ref 78, .int (s 1)])
  | 78 => .inl (0, 6, .inl a)
  | 79 => .inr (7, [.ref 80, .int (s 1)])
  | 80 => .inl (0, 6, .inl a)
  | 81 => .inr (7, [.ref 82, .int (s 1)])
  | 82 => .inl (0, 6, .inl a)
  | 83 => .inr (7, [.ref 84, .int (s 1)])
  | 84 => .inl (0, 21, .inl a)
  | 85 => .inr (7, [.ref 86, .int (s 1)])
  | 86 => .inl (0, 30, .inl a)
  | _ => .inr (0, [])
def CS (σ : x_S) : x_H := (87, 948, fun q => c_s q (σ.1 q) (σ.2 q))
theorem c_row2 {q : Nat} (hq : c_isrow q = true) : q + 1 < 87 ∧ (∀ a s, c_s q a s = .inr (7, [.ref (q + 1), .int (s 1)])) ∧ (∀ a s, c_s (q + 1) a s = .inl (0, c_room q, .inl a)) := by
  have hm : q ∈ [2, 5, 7, 9, 11, 13, 15, 17, 19, 21, 24, 26, 28, 30, 32, 34, 36, 38, 40, 43, 45, 48, 51, 53, 55, 58, 60, 63, 65, 68, 70, 72, 74, 77, 79, 81, 83, 85] := List.contains_iff_mem.mp hq
  simp only [List.mem_cons, List.not_mem_nil, or_false] at hm
  rcases hm with rfl | rfl | rfl | rfl | rfl | rfl | rfl | rfl | rfl | rfl | rfl | rfl | rfl | rfl | rfl | rfl | rfl | rfl | rfl | rfl | rfl | rfl | rfl | rfl | rfl | rfl | rfl | rfl | rfl | rfl | rfl | rfl | rfl | rfl | rfl | rfl | rfl | rfl
  all_goals exact ⟨by decide, fun _ _ => rfl, fun _ _ => rfl⟩
theorem CS_get {σ : x_S} {q : Nat} (hq : q < 87) : x_get (CS σ) q = some (c_s q (σ.1 q) (σ.2 q)) := if_pos hq
theorem CS_wa {σ : x_S} {a : Nat} {f : Nat → Int32} {c : x_C} (hc : c_s a f (σ.2 a) = c) : x_set (CS σ) a c = CS (c_wa σ a f) := by
  unfold x_set CS c_wa
  congr 2
  funext j
  by_cases hj : j = a
  · subst hj; simp [hc]
  · simp [hj]
theorem CS_ws {σ : x_S} {o k : Nat} {v : Int32} {c : x_C} (hc : c_s o (σ.1 o) (fun j => if j = k then v else σ.2 o j) = c) : x_set (CS σ) o c = CS (c_ws σ o k v) := by
  unfold x_set CS c_ws
  congr 2
  funext j
  by_cases hj : j = o
  · subst hj; simp [hc]
  · simp [hj]
theorem ef_0_0 (σ : x_S) : x_fld (CS σ) 0 10 0 = some (.ref 1) := rfl
theorem ef_0_1 (σ : x_S) : x_fld (CS σ) 0 10 1 = some (.ref 23) := rfl
theorem ef_0_2 (σ : x_S) : x_fld (CS σ) 0 10 2 = some (.ref 4) := rfl
theorem ef_0_3 (σ : x_S) : x_fld (CS σ) 0 10 3 = some (.ref 42) := rfl
theorem ef_0_4 (σ : x_S) : x_fld (CS σ) 0 10 4 = some (.ref 47) := rfl
theorem ef_0_5 (σ : x_S) : x_fld (CS σ) 0 10 5 = some (.ref 50) := rfl
theorem ef_0_6 (σ : x_S) : x_fld (CS σ) 0 10 6 = some (.ref 57) := rfl
theorem ef_0_7 (σ : x_S) : x_fld (CS σ) 0 10 7 = some (.ref 62) := rfl
theorem ef_0_8 (σ : x_S) : x_fld (CS σ) 0 10 8 = some (.ref 67) := rfl
theorem ef_0_9 (σ : x_S) : x_fld (CS σ) 0 10 9 = some (.ref 76) := rfl
theorem ef_0_10 (σ : x_S) : x_fld (CS σ) 0 10 10 = some (.ref 83) := rfl
theorem ef_0_11 (σ : x_S) : x_fld (CS σ) 0 10 11 = some (.ref 85) := rfl
theorem ef_0_12 (σ : x_S) : x_fld (CS σ) 0 10 12 = some (.int (σ.2 0 12)) := rfl
theorem ep_0_12 (σ : x_S) (v : Int32) : x_pfd (CS σ) 0 10 12 (.int v) = some (CS (c_ws σ 0 12 v)) := congrArg some (CS_ws rfl)
theorem ef_0_13 (σ : x_S) : x_fld (CS σ) 0 10 13 = some (.int (σ.2 0 13)) := rfl
theorem ep_0_13 (σ : x_S) (v : Int32) : x_pfd (CS σ) 0 10 13 (.int v) = some (CS (c_ws σ 0 13 v)) := congrArg some (CS_ws rfl)
theorem ei_0 (σ : x_S) : x_isa (CS σ) 0 10 = true := rfl
theorem ef_1_0 (σ : x_S) : x_fld (CS σ) 1 6 0 = some (.ref 2) := rfl
theorem ef_1_1 (σ : x_S) : x_fld (CS σ) 1 6 1 = some (.int (σ.2 1 1)) := rfl
theorem ep_1_1 (σ : x_S) (v : Int32) : x_pfd (CS σ) 1 6 1 (.int v) = some (CS (c_ws σ 1 1 v)) := congrArg some (CS_ws rfl)
theorem ef_1_2 (σ : x_S) : x_fld (CS σ) 1 6 2 = some (.int (σ.2 1 2)) := rfl
theorem ep_1_2 (σ : x_S) (v : Int32) : x_pfd (CS σ) 1 6 2 (.int v) = some (CS (c_ws σ 1 2 v)) := congrArg some (CS_ws rfl)
theorem ef_1_3 (σ : x_S) : x_fld (CS σ) 1 6 3 = some (.int (σ.2 1 3)) := rfl
theorem ep_1_3 (σ : x_S) (v : Int32) : x_pfd (CS σ) 1 6 3 (.int v) = some (CS (c_ws σ 1 3 v)) := congrArg some (CS_ws rfl)
theorem ef_1_4 (σ : x_S) : x_fld (CS σ) 1 6 4 = some (.int (σ.2 1 4)) := rfl
theorem ep_1_4 (σ : x_S) (v : Int32) : x_pfd (CS σ) 1 6 4 (.int v) = some (CS (c_ws σ 1 4 v)) := congrArg some (CS_ws rfl)
theorem ei_1 (σ : x_S) : x_isa (CS σ) 1 6 = true := rfl
theorem ef_4_0 (σ : x_S) : x_fld (CS σ) 4 8 0 = some (.int (σ.2 4 0)) := rfl
theorem ep_4_0 (σ : x_S) (v : Int32) : x_pfd (CS σ) 4 8 0 (.int v) = some (CS (c_ws σ 4 0 v)) := congrArg some (CS_ws rfl)
theorem ef_4_1 (σ : x_S) : x_fld (CS σ) 4 8 1 = some (.int (σ.2 4 1)) := rfl
theorem ep_4_1 (σ : x_S) (v : Int32) : x_pfd (CS σ) 4 8 1 (.int v) = some (CS (c_ws σ 4 1 v)) := congrArg some (CS_ws rfl)
theorem ef_4_2 (σ : x_S) : x_fld (CS σ) 4 8 2 = some (.ref 5) := rfl
theorem ef_4_3 (σ : x_S) : x_fld (CS σ) 4 8 3 = some (.ref 7) := rfl
theorem ef_4_4 (σ : x_S) : x_fld (CS σ) 4 8 4 = some (.ref 9) := rfl
theorem ef_4_5 (σ : x_S) : x_fld (CS σ) 4 8 5 = some (.ref 11) := rfl
theorem ef_4_6 (σ : x_S) : x_fld (CS σ) 4 8 6 = some (.ref 13) := rfl
theorem ef_4_7 (σ : x_S) : x_fld (CS σ) 4 8 7 = some (.ref 15) := rfl
theorem ef_4_8 (σ : x_S) : x_fld (CS σ) 4 8 8 = some (.ref 17) := rfl
theorem ef_4_9 (σ : x_S) : x_fld (CS σ) 4 8 9 = some (.ref 19) := rfl
theorem ef_4_10 (σ : x_S) : x_fld (CS σ) 4 8 10 = some (.ref 21) := rfl
theorem ei_4 (σ : x_S) : x_isa (CS σ) 4 8 = true := rfl
theorem ef_23_0 (σ : x_S) : x_fld (CS σ) 23 8 0 = some (.int (σ.2 23 0)) := rfl
theorem ep_23_0 (σ : x_S) (v : Int32) : x_pfd (CS σ) 23 8 0 (.int v) = some (CS (c_ws σ 23 0 v)) := congrArg some (CS_ws rfl)
theorem ef_23_1 (σ : x_S) : x_fld (CS σ) 23 8 1 = some (.int (σ.2 23 1)) := rfl
theorem ep_23_1 (σ : x_S) (v : Int32) : x_pfd (CS σ) 23 8 1 (.int v) = some (CS (c_ws σ 23 1 v)) := congrArg some (CS_ws rfl)
theorem ef_23_2 (σ : x_S) : x_fld (CS σ) 23 8 2 = some (.ref 24) := rfl
theorem ef_23_3 (σ : x_S) : x_fld (CS σ) 23 8 3 = some (.ref 26) := rfl
theorem ef_23_4 (σ : x_S) : x_fld (CS σ) 23 8 4 = some (.ref 28) := rfl
theorem ef_23_5 (σ : x_S) : x_fld (CS σ) 23 8 5 = some (.ref 30) := rfl
theorem ef_23_6 (σ : x_S) : x_fld (CS σ) 23 8 6 = some (.ref 32) := rfl
theorem ef_23_7 (σ : x_S) : x_fld (CS σ) 23 8 7 = some (.ref 34) := rfl
theorem ef_23_8 (σ : x_S) : x_fld (CS σ) 23 8 8 = some (.ref 36) := rfl
theorem ef_23_9 (σ : x_S) : x_fld (CS σ) 23 8 9 = some (.ref 38) := rfl
theorem ef_23_10 (σ : x_S) : x_fld (CS σ) 23 8 10 = some (.ref 40) := rfl
theorem ei_23 (σ : x_S) : x_isa (CS σ) 23 8 = true := rfl
theorem ef_42_0 (σ : x_S) : x_fld (CS σ) 42 1 0 = some (.ref 43) := rfl
theorem ef_42_1 (σ : x_S) : x_fld (CS σ) 42 1 1 = some (.ref 45) := rfl
theorem ef_42_2 (σ : x_S) : x_fld (CS σ) 42 1 2 = some (.int (σ.2 42 2)) := rfl
theorem ep_42_2 (σ : x_S) (v : Int32) : x_pfd (CS σ) 42 1 2 (.int v) = some (CS (c_ws σ 42 2 v)) := congrArg some (CS_ws rfl)
theorem ef_42_3 (σ : x_S) : x_fld (CS σ) 42 1 3 = some (.int (σ.2 42 3)) := rfl
theorem ep_42_3 (σ : x_S) (v : Int32) : x_pfd (CS σ) 42 1 3 (.int v) = some (CS (c_ws σ 42 3 v)) := congrArg some (CS_ws rfl)
theorem ei_42 (σ : x_S) : x_isa (CS σ) 42 1 = true := rfl
theorem ef_47_0 (σ : x_S) : x_fld (CS σ) 47 5 0 = some (.ref 48) := rfl
theorem ef_47_1 (σ : x_S) : x_fld (CS σ) 47 5 1 = some (.int (σ.2 47 1)) := rfl
theorem ep_47_1 (σ : x_S) (v : Int32) : x_pfd (CS σ) 47 5 1 (.int v) = some (CS (c_ws σ 47 1 v)) := congrArg some (CS_ws rfl)
theorem ef_47_2 (σ : x_S) : x_fld (CS σ) 47 5 2 = some (.int (σ.2 47 2)) := rfl
theorem ep_47_2 (σ : x_S) (v : Int32) : x_pfd (CS σ) 47 5 2 (.int v) = some (CS (c_ws σ 47 2 v)) := congrArg some (CS_ws rfl)
theorem ei_47 (σ : x_S) : x_isa (CS σ) 47 5 = true := rfl
theorem ef_50_0 (σ : x_S) : x_fld (CS σ) 50 4 0 = some (.ref 51) := rfl
theorem ef_50_1 (σ : x_S) : x_fld (CS σ) 50 4 1 = some (.ref 53) := rfl
theorem ef_50_2 (σ : x_S) : x_fld (CS σ) 50 4 2 = some (.ref 55) := rfl
theorem ei_50 (σ : x_S) : x_isa (CS σ) 50 4 = true := rfl
theorem ef_57_0 (σ : x_S) : x_fld (CS σ) 57 0 0 = some (.ref 58) := rfl
theorem ef_57_1 (σ : x_S) : x_fld (CS σ) 57 0 1 = some (.ref 60) := rfl
theorem ei_57 (σ : x_S) : x_isa (CS σ) 57 0 = true := rfl
theorem ef_62_0 (σ : x_S) : x_fld (CS σ) 62 3 0 = some (.ref 63) := rfl
theorem ef_62_1 (σ : x_S) : x_fld (CS σ) 62 3 1 = some (.ref 65) := rfl
theorem ei_62 (σ : x_S) : x_isa (CS σ) 62 3 = true := rfl
theorem ef_67_0 (σ : x_S) : x_fld (CS σ) 67 9 0 = some (.ref 68) := rfl
theorem ef_67_1 (σ : x_S) : x_fld (CS σ) 67 9 1 = some (.int (σ.2 67 1)) := rfl
theorem ep_67_1 (σ : x_S) (v : Int32) : x_pfd (CS σ) 67 9 1 (.int v) = some (CS (c_ws σ 67 1 v)) := congrArg some (CS_ws rfl)
theorem ef_67_2 (σ : x_S) : x_fld (CS σ) 67 9 2 = some (.int (σ.2 67 2)) := rfl
theorem ep_67_2 (σ : x_S) (v : Int32) : x_pfd (CS σ) 67 9 2 (.int v) = some (CS (c_ws σ 67 2 v)) := congrArg some (CS_ws rfl)
theorem ef_67_3 (σ : x_S) : x_fld (CS σ) 67 9 3 = some (.ref 70) := rfl
theorem ef_67_4 (σ : x_S) : x_fld (CS σ) 67 9 4 = some (.ref 72) := rfl
theorem ef_67_5 (σ : x_S) : x_fld (CS σ) 67 9 5 = some (.ref 74) := rfl
theorem ei_67 (σ : x_S) : x_isa (CS σ) 67 9 = true := rfl
theorem ef_76_0 (σ : x_S) : x_fld (CS σ) 76 2 0 = some (.ref 77) := rfl
theorem ef_76_1 (σ : x_S) : x_fld (CS σ) 76 2 1 = some (.int (σ.2 76 1)) := rfl
theorem ep_76_1 (σ : x_S) (v : Int32) : x_pfd (CS σ) 76 2 1 (.int v) = some (CS (c_ws σ 76 1 v)) := congrArg some (CS_ws rfl)
theorem ef_76_2 (σ : x_S) : x_fld (CS σ) 76 2 2 = some (.int (σ.2 76 2)) := rfl
theorem ep_76_2 (σ : x_S) (v : Int32) : x_pfd (CS σ) 76 2 2 (.int v) = some (CS (c_ws σ 76 2 v)) := congrArg some (CS_ws rfl)
theorem ef_76_3 (σ : x_S) : x_fld (CS σ) 76 2 3 = some (.int (σ.2 76 3)) := rfl
theorem ep_76_3 (σ : x_S) (v : Int32) : x_pfd (CS σ) 76 2 3 (.int v) = some (CS (c_ws σ 76 3 v)) := congrArg some (CS_ws rfl)
theorem ef_76_4 (σ : x_S) : x_fld (CS σ) 76 2 4 = some (.ref 79) := rfl
theorem ef_76_5 (σ : x_S) : x_fld (CS σ) 76 2 5 = some (.ref 81) := rfl
theorem ei_76 (σ : x_S) : x_isa (CS σ) 76 2 = true := rfl
theorem er_cells (σ : x_S) {q : Nat} (hq : c_isrow q = true) : x_fld (CS σ) q 7 0 = some (.ref (q + 1)) := by
  obtain ⟨h1, h2, h3⟩ := c_row2 hq
  simp [x_fld, CS_get (show q < 87 by omega), h2]
theorem er_count (σ : x_S) {q : Nat} (hq : c_isrow q = true) : x_fld (CS σ) q 7 1 = some (.int (σ.2 q 1)) := by
  obtain ⟨h1, h2, h3⟩ := c_row2 hq
  simp [x_fld, CS_get (show q < 87 by omega), h2]
theorem er_isa (σ : x_S) {q : Nat} (hq : c_isrow q = true) : x_isa (CS σ) q 7 = true := by
  obtain ⟨h1, h2, h3⟩ := c_row2 hq
  simp [x_isa, CS_get (show q < 87 by omega), h2]
theorem er_len (σ : x_S) {q : Nat} (hq : c_isrow q = true) : x_len (CS σ) (q + 1) = some (c_room q) := by
  obtain ⟨h1, h2, h3⟩ := c_row2 hq
  simp [x_len, CS_get h1, h3]
theorem er_ild (σ : x_S) {q : Nat} (hq : c_isrow q = true) (i : Int32) (hi : x_inb i (c_room q) = true) : x_ild (CS σ) (q + 1) 0 i = some (σ.1 (q + 1) i.toNatClampNeg) := by
  obtain ⟨h1, h2, h3⟩ := c_row2 hq
  simp [x_ild, CS_get h1, h3, hi]
theorem er_ist (σ : x_S) {q : Nat} (hq : c_isrow q = true) (i v : Int32) (hi : x_inb i (c_room q) = true) : x_ist (CS σ) (q + 1) 0 i v = some (CS (c_wa σ (q + 1) (upd (σ.1 (q + 1)) i.toNatClampNeg v))) := by
  obtain ⟨h1, h2, h3⟩ := c_row2 hq
  simp only [x_ist, CS_get h1, h3, hi, and_self, if_true]
  exact congrArg some (CS_wa (by rw [h3]))
theorem er_put (σ : x_S) {q : Nat} (hq : c_isrow q = true) (v : Int32) : x_pfd (CS σ) q 7 1 (.int v) = some (CS (c_ws σ q 1 v)) := by
  obtain ⟨h1, h2, h3⟩ := c_row2 hq
  simp only [x_pfd, CS_get (show q < 87 by omega), h2]
  exact congrArg some (CS_ws (by rw [h2]; rfl))

theorem V_at (d : Nat) (σ : x_S) (q : Nat) (i : Int32) (hq : c_isrow q = true) : x_R x_P (d + 1) 55 [.ref q, .int i] (CS σ) = some (some (.int (c_at σ q i)), CS σ) := by
  rw [r_55, s_55_0]
  unfold c_at
  by_cases h1 : i < 0
  · rw [if_pos h1, s_55_22, if_neg (by rw [x_inb_iff (c_room_lt q)]; exact fun z => z.1 h1)]
  · rw [if_neg h1, s_55_4, er_cells σ hq, Option.bind_some, s_55_9, er_len σ hq, Option.bind_some, s_55_10]
    by_cases h2 : Int32.ofNat (c_room q) ≤ i
    · rw [if_pos h2, s_55_22, if_neg (by rw [x_inb_iff (c_room_lt q)]; exact fun z => z.2 h2)]
    · have hi : x_inb i (c_room q) = true := (x_inb_iff (c_room_lt q)).mpr ⟨h1, h2⟩
      rw [if_neg h2, s_55_13, er_cells σ hq, Option.bind_some, s_55_17, er_ild σ hq i hi, Option.bind_some, s_55_19, if_pos hi]
theorem V_put (d : Nat) (σ : x_S) (q : Nat) (i v : Int32) (hq : c_isrow q = true) : x_R x_P (d + 1) 56 [.ref q, .int i, .int v] (CS σ) = some (none, CS (c_pt σ q i v)) := by
  rw [r_56, s_56_0]
  unfold c_pt
  by_cases h1 : i < 0
  · rw [if_pos h1, s_56_20, if_neg (by rw [x_inb_iff (c_room_lt q)]; exact fun z => z.1 h1)]
  · rw [if_neg h1, s_56_4, er_cells σ hq, Option.bind_some, s_56_9, er_len σ hq, Option.bind_some, s_56_10]
    by_cases h2 : Int32.ofNat (c_room q) ≤ i
    · rw [if_pos h2, s_56_20, if_neg (by rw [x_inb_iff (c_room_lt q)]; exact fun z => z.2 h2)]
    · have hi : x_inb i (c_room q) = true := (x_inb_iff (c_room_lt q)).mpr ⟨h1, h2⟩
      rw [if_neg h2, s_56_13, er_cells σ hq, Option.bind_some, s_56_17, er_ist σ hq i v hi, Option.bind_some, s_56_20, if_pos hi]
theorem V_size (d : Nat) (σ : x_S) (q : Nat) (hq : c_isrow q = true) : x_R x_P (d + 1) 52 [.ref q] (CS σ) = some (some (.int (σ.2 q 1)), CS σ) := by
  rw [r_52, s_52_0, er_count σ hq, Option.bind_some, s_52_4]
theorem V_isFull (d : Nat) (σ : x_S) (q : Nat) (hq : c_isrow q = true) : x_R x_P (d + 1) 53 [.ref q] (CS σ) = some (some (.int (c_full σ q)), CS σ) := by
  unfold c_full
  rw [r_53, s_53_0, er_count σ hq, Option.bind_some, s_53_4, er_cells σ hq, Option.bind_some, s_53_8, er_len σ hq, Option.bind_some, s_53_9]
  by_cases h : Int32.ofNat (c_room q) ≤ σ.2 q 1
  · have h' : ¬ σ.2 q 1 < Int32.ofNat (c_room q) := Int32.not_lt.mpr h
    rw [if_pos h, if_neg h', s_53_12]
  · have h' : σ.2 q 1 < Int32.ofNat (c_room q) := Int32.not_le.mp h
    rw [if_neg h, if_pos h', s_53_16]
theorem V_has (d : Nat) (σ : x_S) (q : Nat) (i : Int32) (hq : c_isrow q = true) : x_R x_P (d + 1) 54 [.ref q, .int i] (CS σ) = some (some (.int (c_has σ q i)), CS σ) := by
  unfold c_has
  rw [r_54, s_54_0]
  by_cases h1 : i < 0
  · rw [if_pos h1, s_54_16, if_neg (fun z => z.1 h1)]
  · rw [if_neg h1, s_54_4, er_count σ hq, Option.bind_some, s_54_9]
    by_cases h2 : σ.2 q 1 ≤ i
    · rw [if_pos h2, s_54_16, if_neg (fun z => Int32.not_le.mpr z.2 h2)]
    · rw [if_neg h2, s_54_12, if_pos ⟨h1, Int32.not_le.mp h2⟩]
theorem V_add (d : Nat) (σ : x_S) (q : Nat) (v : Int32) (hq : c_isrow q = true) : x_R x_P (d + 2) 57 [.ref q, .int v] (CS σ) = some (none, CS (c_add σ q v)) := by
  unfold c_add
  rw [r_57, s_57_0, er_isa σ hq, if_pos rfl, V_isFull d σ q hq, Option.bind_some]
  unfold c_full
  by_cases h : Int32.ofNat (c_room q) ≤ σ.2 q 1
  · rw [if_pos h, if_pos h]
    show x_E x_P (d + 1) x_c57 4 [.ref q, .int v] [.int 1] (CS σ) = _
    rw [s_57_4, if_neg (by decide), s_57_7]
  · rw [if_neg h, if_neg h]
    show x_E x_P (d + 1) x_c57 4 [.ref q, .int v] [.int 0] (CS σ) = _
    rw [s_57_4, if_pos rfl, s_57_8, er_count σ hq, Option.bind_some, s_57_13, er_isa σ hq, if_pos rfl, V_put d σ q _ v hq, Option.bind_some]
    show x_E x_P (d + 1) x_c57 17 [.ref q, .int v] [] (CS (c_pt σ q (σ.2 q 1) v)) = _
    rw [s_57_17, er_count _ hq, Option.bind_some, c_pt_s, s_57_22, er_put _ hq, Option.bind_some, s_57_27]
theorem V_clear (d : Nat) (σ : x_S) (q : Nat) (hq : c_isrow q = true) : x_R x_P (d + 1) 58 [.ref q] (CS σ) = some (none, CS (c_ws σ q 1 0)) := by
  rw [r_58, s_58_0, er_put σ hq, Option.bind_some, s_58_5]

