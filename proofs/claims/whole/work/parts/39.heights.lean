/-! heights: the pure side -/
abbrev HS : Type := (Nat → Nat) × (Nat → Nat)
def nupd (f : Nat → Nat) (k v : Nat) : Nat → Nat := fun j => if j = k then v else f j
def rch (μ : x_U) (t : Nat) (s : HS) : HS := if s.2 (tFr μ t) ≠ 0 ∧ s.2 (tTo μ t) = 0 then (nupd s.1 (tTo μ t) (s.1 (tFr μ t) * tGv μ t), nupd s.2 (tTo μ t) (s.2 (tFr μ t) * tGt μ t)) else if s.2 (tTo μ t) ≠ 0 ∧ s.2 (tFr μ t) = 0 then (nupd s.1 (tFr μ t) (s.1 (tTo μ t) * tGt μ t), nupd s.2 (tFr μ t) (s.2 (tTo μ t) * tGv μ t)) else s
def stp (μ : x_U) (set : Int32) (t : Nat) (s : HS) : HS := if ((set >>> (nI t &&& 31)) &&& 1) = 1 then rch μ t s else s
def rnd (μ : x_U) (set : Int32) : Nat → Nat → HS → HS
  | 0, _, s => s
  | n + 1, t, s => rnd μ set n (t + 1) (stp μ set t s)
def itr (μ : x_U) (set : Int32) (T : Nat) : Nat → HS → HS
  | 0, s => s
  | n + 1, s => itr μ set T n (rnd μ set T 0 s)
def nt1 (s : HS) (u : Nat) : HS := (nupd s.1 u 1, nupd s.2 u 1)
def usl (μ : x_U) (set : Int32) (T : Nat) : Nat → Nat → HS → HS
  | 0, _, s => s
  | n + 1, u, s => usl μ set T n (u + 1) (if s.2 u = 0 then itr μ set T 6 (nt1 s u) else s)
def hok (μ : x_U) (t : Nat) (s : HS) : Prop := tGv μ t * s.1 (tFr μ t) * s.2 (tTo μ t) = tGt μ t * s.1 (tTo μ t) * s.2 (tFr μ t)
def hag (μ : x_U) (set : Int32) (U T : Nat) : Prop := ∀ t, t < T → ((set >>> (nI t &&& 31)) &&& 1) = 1 → hok μ t (usl μ set T U 0 (fun _ => 0, fun _ => 0))
/-- how many are known -/
def c1 (x : Nat) : Nat := if x = 0 then 0 else 1
def cn (b : Nat → Nat) : Nat := c1 (b 0) + c1 (b 1) + c1 (b 2) + c1 (b 3) + c1 (b 4) + c1 (b 5)
theorem c1_le (x : Nat) : c1 x ≤ 1 := by
  unfold c1
  split <;> omega
theorem cn_le (b : Nat → Nat) : cn b ≤ 6 := by
  have h0 := c1_le (b 0)
  have h1 := c1_le (b 1)
  have h2 := c1_le (b 2)
  have h3 := c1_le (b 3)
  have h4 := c1_le (b 4)
  have h5 := c1_le (b 5)
  unfold cn
  omega
theorem cn_upd {b : Nat → Nat} {q v : Nat} (hq : q < 6) (h0 : b q = 0) (hv : v ≠ 0) : cn (nupd b q v) = cn b + 1 := by
  have e0 : c1 (b q) = 0 := by unfold c1; rw [if_pos h0]
  have e1 : c1 v = 1 := by unfold c1; rw [if_neg hv]
  unfold cn nupd
  rcases (by omega : q = 0 ∨ q = 1 ∨ q = 2 ∨ q = 3 ∨ q = 4 ∨ q = 5) with rfl | rfl | rfl | rfl | rfl | rfl <;> simp <;> omega
def bd (s : HS) : Prop := ∀ j, s.2 j ≠ 0 → s.1 j ≤ 20 ^ cn s.2 ∧ s.2 j ≤ 20 ^ cn s.2
theorem bd_upd {s : HS} {q x y : Nat} (hq : q < 6) (h0 : s.2 q = 0) (hy : y ≠ 0) (hx : x ≤ 20 ^ (cn s.2 + 1)) (hy2 : y ≤ 20 ^ (cn s.2 + 1)) (h : bd s) : bd (nupd s.1 q x, nupd s.2 q y) := by
  intro j hj
  have e := cn_upd (v := y) hq h0 hy
  show nupd s.1 q x j ≤ 20 ^ cn (nupd s.2 q y) ∧ nupd s.2 q y j ≤ 20 ^ cn (nupd s.2 q y)
  rw [e]
  by_cases hjq : j = q
  · have a1 : nupd s.1 q x j = x := if_pos hjq
    have a2 : nupd s.2 q y j = y := if_pos hjq
    rw [a1, a2]; exact ⟨hx, hy2⟩
  · have a1 : nupd s.1 q x j = s.1 j := if_neg hjq
    have a2 : nupd s.2 q y j = s.2 j := if_neg hjq
    have hj2 : s.2 j ≠ 0 := by rw [← a2]; exact hj
    have := h j hj2
    have p : 20 ^ cn s.2 ≤ 20 ^ (cn s.2 + 1) := Nat.pow_le_pow_right (by omega) (by omega)
    rw [a1, a2]
    exact ⟨by omega, by omega⟩
theorem bd_le {s : HS} (h : bd s) {j : Nat} (hj : s.2 j ≠ 0) : s.1 j ≤ 64000000 ∧ s.2 j ≤ 64000000 := by
  have := h j hj
  have p : 20 ^ cn s.2 ≤ 20 ^ 6 := Nat.pow_le_pow_right (by omega) (cn_le _)
  omega
theorem bd_le2 {s : HS} (h : bd s) (j : Nat) : s.2 j ≤ 64000000 := by
  by_cases hj : s.2 j = 0
  · omega
  · exact (bd_le h hj).2
theorem bd_0 : bd (fun _ => 0, fun _ => 0) := fun j hj => absurd rfl hj
theorem bd_nt1 {s : HS} {u : Nat} (hu : u < 6) (h0 : s.2 u = 0) (h : bd s) : bd (nt1 s u) := by
  have p : 1 ≤ 20 ^ (cn s.2 + 1) := Nat.le_trans (Nat.one_le_two_pow (n := cn s.2 + 1)) (Nat.pow_le_pow_left (by omega) _)
  exact bd_upd hu h0 (by omega) p p h
theorem bd_rch {σ : x_S} {μ : x_U} {U T t : Nat} (hU : U ≤ 6) (B : TB σ μ U T t) {s : HS} (h : bd s) : bd (rch μ t s) := by
  have f := B.fU
  have o := B.tU
  have g1 := B.g1
  have h1 := B.h1
  unfold rch
  by_cases c : s.2 (tFr μ t) ≠ 0 ∧ s.2 (tTo μ t) = 0
  · rw [if_pos c]
    have := h _ c.1
    refine bd_upd (by omega) c.2 (Nat.mul_ne_zero c.1 (by omega)) ?_ ?_ h
    · rw [Nat.pow_succ]; exact Nat.mul_le_mul this.1 B.g2
    · rw [Nat.pow_succ]; exact Nat.mul_le_mul this.2 B.h2
  · rw [if_neg c]
    by_cases c2 : s.2 (tTo μ t) ≠ 0 ∧ s.2 (tFr μ t) = 0
    · rw [if_pos c2]
      have := h _ c2.1
      refine bd_upd (by omega) c2.2 (Nat.mul_ne_zero c2.1 (by omega)) ?_ ?_ h
      · rw [Nat.pow_succ]; exact Nat.mul_le_mul this.1 B.h2
      · rw [Nat.pow_succ]; exact Nat.mul_le_mul this.2 B.g2
    · rw [if_neg c2]; exact h
/-- who is known stays known -/
theorem rch_kn {σ : x_S} {μ : x_U} {U T t : Nat} (B : TB σ μ U T t) {s : HS} {j : Nat} (h : s.2 j ≠ 0) : (rch μ t s).2 j ≠ 0 := by
  have g1 := B.g1
  have h1 := B.h1
  unfold rch
  by_cases c : s.2 (tFr μ t) ≠ 0 ∧ s.2 (tTo μ t) = 0
  · rw [if_pos c]
    show (if j = tTo μ t then s.2 (tFr μ t) * tGt μ t else s.2 j) ≠ 0
    by_cases e : j = tTo μ t
    · rw [if_pos e]; exact Nat.mul_ne_zero c.1 (by omega)
    · rw [if_neg e]; exact h
  · rw [if_neg c]
    by_cases c2 : s.2 (tTo μ t) ≠ 0 ∧ s.2 (tFr μ t) = 0
    · rw [if_pos c2]
      show (if j = tFr μ t then s.2 (tTo μ t) * tGv μ t else s.2 j) ≠ 0
      by_cases e : j = tFr μ t
      · rw [if_pos e]; exact Nat.mul_ne_zero c2.1 (by omega)
      · rw [if_neg e]; exact h
    · rw [if_neg c2]; exact h
theorem stp_ok {σ : x_S} {μ : x_U} {U T t : Nat} (set : Int32) (hU : U ≤ 6) (B : TB σ μ U T t) {s : HS} (h : bd s) : bd (stp μ set t s) ∧ ∀ j, s.2 j ≠ 0 → (stp μ set t s).2 j ≠ 0 := by
  unfold stp
  split
  · exact ⟨bd_rch hU B h, fun j hj => rch_kn B hj⟩
  · exact ⟨h, fun j hj => hj⟩
theorem rnd_ok {σ : x_S} {μ : x_U} {U T : Nat} (set : Int32) (hU : U ≤ 6) (ht : S_tab σ μ U T) : ∀ n t s, t + n = T → bd s → bd (rnd μ set n t s) ∧ ∀ j, s.2 j ≠ 0 → (rnd μ set n t s).2 j ≠ 0 := by
  intro n
  induction n with
  | zero => intro t s _ h; exact ⟨h, fun j hj => hj⟩
  | succ n ih =>
    intro t s hn h
    obtain ⟨a1, a2⟩ := stp_ok set hU (TB.of hU ht (show t < T by omega)) h
    obtain ⟨b1, b2⟩ := ih (t + 1) _ (by omega) a1
    exact ⟨b1, fun j hj => b2 j (a2 j hj)⟩
theorem itr_ok {σ : x_S} {μ : x_U} {U T : Nat} (set : Int32) (hU : U ≤ 6) (ht : S_tab σ μ U T) : ∀ n s, bd s → bd (itr μ set T n s) ∧ ∀ j, s.2 j ≠ 0 → (itr μ set T n s).2 j ≠ 0 := by
  intro n
  induction n with
  | zero => intro s h; exact ⟨h, fun j hj => hj⟩
  | succ n ih =>
    intro s h
    obtain ⟨a1, a2⟩ := rnd_ok set hU ht T 0 s (by omega) h
    obtain ⟨b1, b2⟩ := ih _ a1
    exact ⟨b1, fun j hj => b2 j (a2 j hj)⟩
theorem itr_fix {μ : x_U} {T : Nat} {set : Int32} {s : HS} (h : rnd μ set T 0 s = s) : ∀ n, itr μ set T n s = s := by
  intro n
  induction n with
  | zero => rfl
  | succ n ih =>
    show itr μ set T n (rnd μ set T 0 s) = s
    rw [h]; exact ih
theorem usl_ok {σ : x_S} {μ : x_U} {U T : Nat} (set : Int32) (hU : U ≤ 6) (ht : S_tab σ μ U T) : ∀ n u s, u + n = U → bd s → (∀ j, j < u → s.2 j ≠ 0) → bd (usl μ set T n u s) ∧ ∀ j, j < U → (usl μ set T n u s).2 j ≠ 0 := by
  intro n
  induction n with
  | zero =>
    intro u s hn h h2
    obtain rfl : u = U := by omega
    exact ⟨h, h2⟩
  | succ n ih =>
    intro u s hn h h2
    show bd (usl μ set T n (u + 1) (if s.2 u = 0 then itr μ set T 6 (nt1 s u) else s)) ∧ ∀ j, j < U → (usl μ set T n (u + 1) (if s.2 u = 0 then itr μ set T 6 (nt1 s u) else s)).2 j ≠ 0
    by_cases h0 : s.2 u = 0
    · rw [if_pos h0]
      obtain ⟨a1, a2⟩ := itr_ok set hU ht 6 (nt1 s u) (bd_nt1 (by omega) h0 h)
      refine ih (u + 1) _ (by omega) a1 (fun j hj => a2 j ?_)
      show (if j = u then 1 else s.2 j) ≠ 0
      by_cases hju : j = u
      · rw [if_pos hju]; omega
      · rw [if_neg hju]; exact h2 j (by omega)
    · rw [if_neg h0]
      refine ih (u + 1) s (by omega) h (fun j hj => ?_)
      by_cases hju : j = u
      · rw [hju]; exact h0
      · exact h2 j (by omega)
/-! heights: the class -/
def HC (σ : x_S) (A B : Nat → Int32) : x_S := c_wa (c_wa σ 64 A) 66 B
theorem HC_id (σ : x_S) : HC σ (σ.1 64) (σ.1 66) = σ := by
  unfold HC
  rw [c_wa_id]
  exact c_wa_id σ 66
theorem HC_1 (σ : x_S) (F G f : Nat → Int32) : c_wa (HC σ F G) 64 f = HC σ f G := by
  unfold HC
  rw [c_wa_cm _ (by decide), c_wa_wa, c_wa_cm _ (by decide)]
theorem HC_2 (σ : x_S) (F G f : Nat → Int32) : c_wa (HC σ F G) 66 f = HC σ F f := by
  unfold HC
  rw [c_wa_wa]
theorem HC_a1 (σ : x_S) (F G : Nat → Int32) {k : Nat} (h : k < 6) : c_at (HC σ F G) 63 (nI k) = F k := by rw [c_at_n (q := 63) (by show k < 6; omega)]; rfl
theorem HC_a2 (σ : x_S) (F G : Nat → Int32) {k : Nat} (h : k < 6) : c_at (HC σ F G) 65 (nI k) = G k := by rw [c_at_n (q := 65) (by show k < 6; omega)]; rfl
theorem HC_p1 (σ : x_S) (F G : Nat → Int32) (v : Int32) {k : Nat} (h : k < 6) : c_pt (HC σ F G) 63 (nI k) v = HC σ (upd F k v) G := by rw [c_pt_n (q := 63) (by show k < 6; omega)]; exact HC_1 σ F G _
theorem HC_p2 (σ : x_S) (F G : Nat → Int32) (v : Int32) {k : Nat} (h : k < 6) : c_pt (HC σ F G) 65 (nI k) v = HC σ F (upd G k v) := by rw [c_pt_n (q := 65) (by show k < 6; omega)]; exact HC_2 σ F G _
def hr (A B : Nat → Int32) (s : HS) : Prop := ∀ j, j < 6 → B j = nI (s.2 j) ∧ (s.2 j ≠ 0 → A j = nI (s.1 j))
theorem hr_upd {A B : Nat → Int32} {s : HS} {q x y : Nat} (h : hr A B s) : hr (upd A q (nI x)) (upd B q (nI y)) (nupd s.1 q x, nupd s.2 q y) := by
  intro j hj
  show upd B q (nI y) j = nI (if j = q then y else s.2 j) ∧ ((if j = q then y else s.2 j) ≠ 0 → upd A q (nI x) j = nI (if j = q then x else s.1 j))
  unfold upd
  by_cases e : j = q
  · rw [if_pos e, if_pos e, if_pos e, if_pos e]; exact ⟨rfl, fun _ => rfl⟩
  · rw [if_neg e, if_neg e, if_neg e, if_neg e]; exact h j hj
theorem R_known (d : Nat) (σ : x_S) {A B : Nat → Int32} {s : HS} {j : Nat} (hb : bd s) (h : hr A B s) (hj : j < 6) : x_R x_P (d + 2) 24 [.ref 62, .int (nI j)] (CG (HC σ A B)) = some (some (.int (if s.2 j = 0 then 0 else 1)), CG (HC σ A B)) := by
  have a1 : c_at (HC σ A B) 65 (nI j) = nI (s.2 j) := by rw [HC_a2 _ _ _ hj]; exact (h j hj).1
  have b := bd_le2 hb j
  by_cases h0 : s.2 j = 0
  · have e : nI (s.2 j) = 0 := by rw [h0]; rfl
    simp (decide := true) only [r_24, s_24_0, s_24_4, s_24_8, s_24_11, s_24_15, Option.bind_some, x_tlv, x_tln, if_true, if_false, cr_isa, R_at, R_has, R_size, R_put, R_isFull, R_add, R_clear, c_has_eq, c_wa_1, c_wa_2, c_ws_1, c_ws_2, cf_0_0, cf_0_1, cf_0_2, cf_0_3, cf_0_4, cf_0_5, cf_0_6, cf_0_7, cf_0_8, cf_0_9, cf_0_10, cf_0_11, cf_0_12, cf_0_13, cp_0_12, cp_0_13, ci_0, cf_1_0, cf_1_1, cf_1_2, cf_1_3, cf_1_4, cp_1_1, cp_1_2, cp_1_3, cp_1_4, ci_1, cf_4_0, cf_4_1, cf_4_2, cf_4_3, cf_4_4, cf_4_5, cf_4_6, cf_4_7, cf_4_8, cf_4_9, cf_4_10, cp_4_0, cp_4_1, ci_4, cf_23_0, cf_23_1, cf_23_2, cf_23_3, cf_23_4, cf_23_5, cf_23_6, cf_23_7, cf_23_8, cf_23_9, cf_23_10, cp_23_0, cp_23_1, ci_23, cf_42_0, cf_42_1, cf_42_2, cf_42_3, cp_42_2, cp_42_3, ci_42, cf_47_0, cf_47_1, cf_47_2, cp_47_1, cp_47_2, ci_47, cf_50_0, cf_50_1, cf_50_2, ci_50, cf_57_0, cf_57_1, ci_57, cf_62_0, cf_62_1, ci_62, cf_67_0, cf_67_1, cf_67_2, cf_67_3, cf_67_4, cf_67_5, cp_67_1, cp_67_2, ci_67, cf_76_0, cf_76_1, cf_76_2, cf_76_3, cf_76_4, cf_76_5, cp_76_1, cp_76_2, cp_76_3, ci_76, a1, e, h0]
  · have e : ¬ nI (s.2 j) = 0 := nI_ne0 (by omega) (by omega)
    simp (decide := true) only [r_24, s_24_0, s_24_4, s_24_8, s_24_11, s_24_15, Option.bind_some, x_tlv, x_tln, if_true, if_false, cr_isa, R_at, R_has, R_size, R_put, R_isFull, R_add, R_clear, c_has_eq, c_wa_1, c_wa_2, c_ws_1, c_ws_2, cf_0_0, cf_0_1, cf_0_2, cf_0_3, cf_0_4, cf_0_5, cf_0_6, cf_0_7, cf_0_8, cf_0_9, cf_0_10, cf_0_11, cf_0_12, cf_0_13, cp_0_12, cp_0_13, ci_0, cf_1_0, cf_1_1, cf_1_2, cf_1_3, cf_1_4, cp_1_1, cp_1_2, cp_1_3, cp_1_4, ci_1, cf_4_0, cf_4_1, cf_4_2, cf_4_3, cf_4_4, cf_4_5, cf_4_6, cf_4_7, cf_4_8, cf_4_9, cf_4_10, cp_4_0, cp_4_1, ci_4, cf_23_0, cf_23_1, cf_23_2, cf_23_3, cf_23_4, cf_23_5, cf_23_6, cf_23_7, cf_23_8, cf_23_9, cf_23_10, cp_23_0, cp_23_1, ci_23, cf_42_0, cf_42_1, cf_42_2, cf_42_3, cp_42_2, cp_42_3, ci_42, cf_47_0, cf_47_1, cf_47_2, cp_47_1, cp_47_2, ci_47, cf_50_0, cf_50_1, cf_50_2, ci_50, cf_57_0, cf_57_1, ci_57, cf_62_0, cf_62_1, ci_62, cf_67_0, cf_67_1, cf_67_2, cf_67_3, cf_67_4, cf_67_5, cp_67_1, cp_67_2, ci_67, cf_76_0, cf_76_1, cf_76_2, cf_76_3, cf_76_4, cf_76_5, cp_76_1, cp_76_2, cp_76_3, ci_76, a1, e, h0]
theorem R_note (d : Nat) (σ : x_S) (A B : Nat → Int32) (x y : Int32) {j : Nat} (hj : j < 6) : x_R x_P (d + 2) 25 [.ref 62, .int (nI j), .int x, .int y] (CG (HC σ A B)) = some (none, CG (HC σ (upd A j x) (upd B j y))) := by
  have p1 := HC_p1 σ A B x hj
  have p2 := HC_p2 σ (upd A j x) B y hj
  simp (decide := true) only [r_25, s_25_0, s_25_4, s_25_9, s_25_13, s_25_18, Option.bind_some, x_tlv, x_tln, if_true, if_false, cr_isa, R_at, R_has, R_size, R_put, R_isFull, R_add, R_clear, c_has_eq, c_wa_1, c_wa_2, c_ws_1, c_ws_2, cf_0_0, cf_0_1, cf_0_2, cf_0_3, cf_0_4, cf_0_5, cf_0_6, cf_0_7, cf_0_8, cf_0_9, cf_0_10, cf_0_11, cf_0_12, cf_0_13, cp_0_12, cp_0_13, ci_0, cf_1_0, cf_1_1, cf_1_2, cf_1_3, cf_1_4, cp_1_1, cp_1_2, cp_1_3, cp_1_4, ci_1, cf_4_0, cf_4_1, cf_4_2, cf_4_3, cf_4_4, cf_4_5, cf_4_6, cf_4_7, cf_4_8, cf_4_9, cf_4_10, cp_4_0, cp_4_1, ci_4, cf_23_0, cf_23_1, cf_23_2, cf_23_3, cf_23_4, cf_23_5, cf_23_6, cf_23_7, cf_23_8, cf_23_9, cf_23_10, cp_23_0, cp_23_1, ci_23, cf_42_0, cf_42_1, cf_42_2, cf_42_3, cp_42_2, cp_42_3, ci_42, cf_47_0, cf_47_1, cf_47_2, cp_47_1, cp_47_2, ci_47, cf_50_0, cf_50_1, cf_50_2, ci_50, cf_57_0, cf_57_1, ci_57, cf_62_0, cf_62_1, ci_62, cf_67_0, cf_67_1, cf_67_2, cf_67_3, cf_67_4, cf_67_5, cp_67_1, cp_67_2, ci_67, cf_76_0, cf_76_1, cf_76_2, cf_76_3, cf_76_4, cf_76_5, cp_76_1, cp_76_2, cp_76_3, ci_76, p1, p2]
theorem C_reach {σ : x_S} {μ : x_U} {U T t : Nat} (d : Nat) (hU : U ≤ 6) (hT : t < 8) (B : TB σ μ U T t) {F G : Nat → Int32} {s : HS} (hb : bd s) (h : hr F G s) : ∃ F' G' r, hr F' G' (rch μ t s) ∧ (r = 0 ∨ r = 1) ∧ (r = 0 → rch μ t s = s) ∧ x_R x_P (d + 3) 22 [.ref 62, .ref 4, .int (nI t)] (CG (HC σ F G)) = some (some (.int r), CG (HC σ F' G')) := by
  have f := B.fU
  have o := B.tU
  have a1 : c_at (HC σ F G) 7 (nI t) = nI (tFr μ t) := by rw [c_at_n (q := 7) (by show t < 8; omega)]; exact B.fC
  have a2 : c_at (HC σ F G) 9 (nI t) = nI (tTo μ t) := by rw [c_at_n (q := 9) (by show t < 8; omega)]; exact B.tC
  have a3 : c_at (HC σ F G) 11 (nI t) = nI (tGv μ t) := by rw [c_at_n (q := 11) (by show t < 8; omega)]; exact B.gC
  have a4 : c_at (HC σ F G) 13 (nI t) = nI (tGt μ t) := by rw [c_at_n (q := 13) (by show t < 8; omega)]; exact B.hC
  have k1 := R_known d σ hb h (show tFr μ t < 6 by omega)
  have k2 := R_known d σ hb h (show tTo μ t < 6 by omega)
  have b1 := HC_a1 σ F G (show tFr μ t < 6 by omega)
  have b2 := HC_a2 σ F G (show tFr μ t < 6 by omega)
  have b3 := HC_a1 σ F G (show tTo μ t < 6 by omega)
  have b4 := HC_a2 σ F G (show tTo μ t < 6 by omega)
  have n1 := fun x y => R_note d σ F G x y (show tFr μ t < 6 by omega)
  have n2 := fun x y => R_note d σ F G x y (show tTo μ t < 6 by omega)
  by_cases h1 : s.2 (tFr μ t) = 0
  · by_cases h2 : s.2 (tTo μ t) = 0
    · have e : rch μ t s = s := by
        unfold rch
        rw [if_neg (fun z => z.1 h1), if_neg (fun z => z.1 h2)]
      refine ⟨F, G, 0, by rw [e]; exact h, Or.inl rfl, fun _ => e, ?_⟩
      rw [if_pos h1] at k1
      rw [if_pos h2] at k2
      simp (decide := true) only [r_22, s_22_0, s_22_4, s_22_8, s_22_13, s_22_17, s_22_24, s_22_30, s_22_33, s_22_35, s_22_40, s_22_43, s_22_50, s_22_54, s_22_58, s_22_62, s_22_67, s_22_71, s_22_75, s_22_79, s_22_83, s_22_86, s_22_92, s_22_97, s_22_101, s_22_105, s_22_110, s_22_115, s_22_119, s_22_123, s_22_127, Option.bind_some, x_tlv, x_tln, if_true, if_false, cr_isa, R_at, R_has, R_size, R_put, R_isFull, R_add, R_clear, c_has_eq, c_wa_1, c_wa_2, c_ws_1, c_ws_2, cf_0_0, cf_0_1, cf_0_2, cf_0_3, cf_0_4, cf_0_5, cf_0_6, cf_0_7, cf_0_8, cf_0_9, cf_0_10, cf_0_11, cf_0_12, cf_0_13, cp_0_12, cp_0_13, ci_0, cf_1_0, cf_1_1, cf_1_2, cf_1_3, cf_1_4, cp_1_1, cp_1_2, cp_1_3, cp_1_4, ci_1, cf_4_0, cf_4_1, cf_4_2, cf_4_3, cf_4_4, cf_4_5, cf_4_6, cf_4_7, cf_4_8, cf_4_9, cf_4_10, cp_4_0, cp_4_1, ci_4, cf_23_0, cf_23_1, cf_23_2, cf_23_3, cf_23_4, cf_23_5, cf_23_6, cf_23_7, cf_23_8, cf_23_9, cf_23_10, cp_23_0, cp_23_1, ci_23, cf_42_0, cf_42_1, cf_42_2, cf_42_3, cp_42_2, cp_42_3, ci_42, cf_47_0, cf_47_1, cf_47_2, cp_47_1, cp_47_2, ci_47, cf_50_0, cf_50_1, cf_50_2, ci_50, cf_57_0, cf_57_1, ci_57, cf_62_0, cf_62_1, ci_62, cf_67_0, cf_67_1, cf_67_2, cf_67_3, cf_67_4, cf_67_5, cp_67_1, cp_67_2, ci_67, cf_76_0, cf_76_1, cf_76_2, cf_76_3, cf_76_4, cf_76_5, cp_76_1, cp_76_2, cp_76_3, ci_76, a1, a2, k1, k2]
    · have e : rch μ t s = (nupd s.1 (tFr μ t) (s.1 (tTo μ t) * tGt μ t), nupd s.2 (tFr μ t) (s.2 (tTo μ t) * tGv μ t)) := by
        unfold rch
        rw [if_neg (fun z => z.1 h1), if_pos ⟨h2, h1⟩]
      refine ⟨_, _, 1, by rw [e]; exact hr_upd h, Or.inr rfl, fun z => absurd z (by decide), ?_⟩
      rw [if_pos h1] at k1
      rw [if_neg h2] at k2
      rw [(h _ (by omega)).2 h2] at b3
      rw [(h _ (by omega)).1] at b4
      simp (decide := true) only [r_22, s_22_0, s_22_4, s_22_8, s_22_13, s_22_17, s_22_24, s_22_30, s_22_33, s_22_35, s_22_40, s_22_43, s_22_50, s_22_54, s_22_58, s_22_62, s_22_67, s_22_71, s_22_75, s_22_79, s_22_83, s_22_86, s_22_92, s_22_97, s_22_101, s_22_105, s_22_110, s_22_115, s_22_119, s_22_123, s_22_127, Option.bind_some, x_tlv, x_tln, if_true, if_false, cr_isa, R_at, R_has, R_size, R_put, R_isFull, R_add, R_clear, c_has_eq, c_wa_1, c_wa_2, c_ws_1, c_ws_2, cf_0_0, cf_0_1, cf_0_2, cf_0_3, cf_0_4, cf_0_5, cf_0_6, cf_0_7, cf_0_8, cf_0_9, cf_0_10, cf_0_11, cf_0_12, cf_0_13, cp_0_12, cp_0_13, ci_0, cf_1_0, cf_1_1, cf_1_2, cf_1_3, cf_1_4, cp_1_1, cp_1_2, cp_1_3, cp_1_4, ci_1, cf_4_0, cf_4_1, cf_4_2, cf_4_3, cf_4_4, cf_4_5, cf_4_6, cf_4_7, cf_4_8, cf_4_9, cf_4_10, cp_4_0, cp_4_1, ci_4, cf_23_0, cf_23_1, cf_23_2, cf_23_3, cf_23_4, cf_23_5, cf_23_6, cf_23_7, cf_23_8, cf_23_9, cf_23_10, cp_23_0, cp_23_1, ci_23, cf_42_0, cf_42_1, cf_42_2, cf_42_3, cp_42_2, cp_42_3, ci_42, cf_47_0, cf_47_1, cf_47_2, cp_47_1, cp_47_2, ci_47, cf_50_0, cf_50_1, cf_50_2, ci_50, cf_57_0, cf_57_1, ci_57, cf_62_0, cf_62_1, ci_62, cf_67_0, cf_67_1, cf_67_2, cf_67_3, cf_67_4, cf_67_5, cp_67_1, cp_67_2, ci_67, cf_76_0, cf_76_1, cf_76_2, cf_76_3, cf_76_4, cf_76_5, cp_76_1, cp_76_2, cp_76_3, ci_76, a1, a2, a3, a4, k1, k2, b3, b4, pk_mul, n1]
  · by_cases h2 : s.2 (tTo μ t) = 0
    · have e : rch μ t s = (nupd s.1 (tTo μ t) (s.1 (tFr μ t) * tGv μ t), nupd s.2 (tTo μ t) (s.2 (tFr μ t) * tGt μ t)) := by
        unfold rch
        rw [if_pos ⟨h1, h2⟩]
      refine ⟨_, _, 1, by rw [e]; exact hr_upd h, Or.inr rfl, fun z => absurd z (by decide), ?_⟩
      rw [if_neg h1] at k1
      rw [if_pos h2] at k2
      rw [(h _ (by omega)).2 h1] at b1
      rw [(h _ (by omega)).1] at b2
      simp (decide := true) only [r_22, s_22_0, s_22_4, s_22_8, s_22_13, s_22_17, s_22_24, s_22_30, s_22_33, s_22_35, s_22_40, s_22_43, s_22_50, s_22_54, s_22_58, s_22_62, s_22_67, s_22_71, s_22_75, s_22_79, s_22_83, s_22_86, s_22_92, s_22_97, s_22_101, s_22_105, s_22_110, s_22_115, s_22_119, s_22_123, s_22_127, Option.bind_some, x_tlv, x_tln, if_true, if_false, cr_isa, R_at, R_has, R_size, R_put, R_isFull, R_add, R_clear, c_has_eq, c_wa_1, c_wa_2, c_ws_1, c_ws_2, cf_0_0, cf_0_1, cf_0_2, cf_0_3, cf_0_4, cf_0_5, cf_0_6, cf_0_7, cf_0_8, cf_0_9, cf_0_10, cf_0_11, cf_0_12, cf_0_13, cp_0_12, cp_0_13, ci_0, cf_1_0, cf_1_1, cf_1_2, cf_1_3, cf_1_4, cp_1_1, cp_1_2, cp_1_3, cp_1_4, ci_1, cf_4_0, cf_4_1, cf_4_2, cf_4_3, cf_4_4, cf_4_5, cf_4_6, cf_4_7, cf_4_8, cf_4_9, cf_4_10, cp_4_0, cp_4_1, ci_4, cf_23_0, cf_23_1, cf_23_2, cf_23_3, cf_23_4, cf_23_5, cf_23_6, cf_23_7, cf_23_8, cf_23_9, cf_23_10, cp_23_0, cp_23_1, ci_23, cf_42_0, cf_42_1, cf_42_2, cf_42_3, cp_42_2, cp_42_3, ci_42, cf_47_0, cf_47_1, cf_47_2, cp_47_1, cp_47_2, ci_47, cf_50_0, cf_50_1, cf_50_2, ci_50, cf_57_0, cf_57_1, ci_57, cf_62_0, cf_62_1, ci_62, cf_67_0, cf_67_1, cf_67_2, cf_67_3, cf_67_4, cf_67_5, cp_67_1, cp_67_2, ci_67, cf_76_0, cf_76_1, cf_76_2, cf_76_3, cf_76_4, cf_76_5, cp_76_1, cp_76_2, cp_76_3, ci_76, a1, a2, a3, a4, k1, k2, b1, b2, pk_mul, n2]
    · have e : rch μ t s = s := by
        unfold rch
        rw [if_neg (fun z => h2 z.2), if_neg (fun z => h1 z.2)]
      refine ⟨F, G, 0, by rw [e]; exact h, Or.inl rfl, fun _ => e, ?_⟩
      rw [if_neg h1] at k1
      rw [if_neg h2] at k2
      simp (decide := true) only [r_22, s_22_0, s_22_4, s_22_8, s_22_13, s_22_17, s_22_24, s_22_30, s_22_33, s_22_35, s_22_40, s_22_43, s_22_50, s_22_54, s_22_58, s_22_62, s_22_67, s_22_71, s_22_75, s_22_79, s_22_83, s_22_86, s_22_92, s_22_97, s_22_101, s_22_105, s_22_110, s_22_115, s_22_119, s_22_123, s_22_127, Option.bind_some, x_tlv, x_tln, if_true, if_false, cr_isa, R_at, R_has, R_size, R_put, R_isFull, R_add, R_clear, c_has_eq, c_wa_1, c_wa_2, c_ws_1, c_ws_2, cf_0_0, cf_0_1, cf_0_2, cf_0_3, cf_0_4, cf_0_5, cf_0_6, cf_0_7, cf_0_8, cf_0_9, cf_0_10, cf_0_11, cf_0_12, cf_0_13, cp_0_12, cp_0_13, ci_0, cf_1_0, cf_1_1, cf_1_2, cf_1_3, cf_1_4, cp_1_1, cp_1_2, cp_1_3, cp_1_4, ci_1, cf_4_0, cf_4_1, cf_4_2, cf_4_3, cf_4_4, cf_4_5, cf_4_6, cf_4_7, cf_4_8, cf_4_9, cf_4_10, cp_4_0, cp_4_1, ci_4, cf_23_0, cf_23_1, cf_23_2, cf_23_3, cf_23_4, cf_23_5, cf_23_6, cf_23_7, cf_23_8, cf_23_9, cf_23_10, cp_23_0, cp_23_1, ci_23, cf_42_0, cf_42_1, cf_42_2, cf_42_3, cp_42_2, cp_42_3, ci_42, cf_47_0, cf_47_1, cf_47_2, cp_47_1, cp_47_2, ci_47, cf_50_0, cf_50_1, cf_50_2, ci_50, cf_57_0, cf_57_1, ci_57, cf_62_0, cf_62_1, ci_62, cf_67_0, cf_67_1, cf_67_2, cf_67_3, cf_67_4, cf_67_5, cp_67_1, cp_67_2, ci_67, cf_76_0, cf_76_1, cf_76_2, cf_76_3, cf_76_4, cf_76_5, cp_76_1, cp_76_2, cp_76_3, ci_76, a1, a2, k1, k2]
theorem C_rnd {σ : x_S} {μ : x_U} {U T : Nat} (d : Nat) (set : Int32) (f : Int32) (hU : U ≤ 6) (hT : T ≤ 8) (c4 : σ.2 7 1 = nI T) (ht : S_tab σ μ U T) : ∀ n t (F G : Nat → Int32) (s : HS) (e : Int32), t + n = T → (e = 0 ∨ e = 1) → bd s → hr F G s → ∃ F' G' e', hr F' G' (rnd μ set n t s) ∧ (e' = 0 ∨ e' = 1) ∧ (e' = 0 → e = 0 ∧ rnd μ set n t s = s) ∧ x_E x_P (d + 3) x_c21 21 [.ref 62, .ref 4, .int set, .int e, .int f, .int (nI t)] [] (CG (HC σ F G)) = x_E x_P (d + 3) x_c21 61 [.ref 62, .ref 4, .int set, .int e', .int f, .int (nI T)] [] (CG (HC σ F' G')) := by
  have cw : ∀ F G, (HC σ F G).2 7 1 = nI T := fun _ _ => c4
  intro n
  induction n with
  | zero =>
    intro t F G s e hn he hb h
    obtain rfl : t = T := by omega
    refine ⟨F, G, e, h, he, fun z => ⟨z, rfl⟩, ?_⟩
    rw [s_21_21]; simp (decide := true) only [s_21_27, s_21_30, Option.bind_some, x_tlv, x_tln, if_true, if_false, cr_isa, R_at, R_has, R_size, R_put, R_isFull, R_add, R_clear, c_has_eq, c_wa_1, c_wa_2, c_ws_1, c_ws_2, cf_0_0, cf_0_1, cf_0_2, cf_0_3, cf_0_4, cf_0_5, cf_0_6, cf_0_7, cf_0_8, cf_0_9, cf_0_10, cf_0_11, cf_0_12, cf_0_13, cp_0_12, cp_0_13, ci_0, cf_1_0, cf_1_1, cf_1_2, cf_1_3, cf_1_4, cp_1_1, cp_1_2, cp_1_3, cp_1_4, ci_1, cf_4_0, cf_4_1, cf_4_2, cf_4_3, cf_4_4, cf_4_5, cf_4_6, cf_4_7, cf_4_8, cf_4_9, cf_4_10, cp_4_0, cp_4_1, ci_4, cf_23_0, cf_23_1, cf_23_2, cf_23_3, cf_23_4, cf_23_5, cf_23_6, cf_23_7, cf_23_8, cf_23_9, cf_23_10, cp_23_0, cp_23_1, ci_23, cf_42_0, cf_42_1, cf_42_2, cf_42_3, cp_42_2, cp_42_3, ci_42, cf_47_0, cf_47_1, cf_47_2, cp_47_1, cp_47_2, ci_47, cf_50_0, cf_50_1, cf_50_2, ci_50, cf_57_0, cf_57_1, ci_57, cf_62_0, cf_62_1, ci_62, cf_67_0, cf_67_1, cf_67_2, cf_67_3, cf_67_4, cf_67_5, cp_67_1, cp_67_2, ci_67, cf_76_0, cf_76_1, cf_76_2, cf_76_3, cf_76_4, cf_76_5, cp_76_1, cp_76_2, cp_76_3, ci_76, cw, Int32.le_refl]
  | succ n ih =>
    intro t F G s e hn he hb h
    have e0 : ¬ nI T ≤ nI t := nI_ge (by omega) (by omega)
    have B := TB.of hU ht (show t < T by omega)
    by_cases hs : ((set >>> (nI t &&& 31)) &&& 1) = 1
    · have e1 : stp μ set t s = rch μ t s := if_pos hs
      obtain ⟨F1, G1, r, i1, i2, i3, i4⟩ := C_reach d hU (by omega) B hb h
      have hb1 := bd_rch hU B hb
      rcases i2 with rfl | rfl
      · obtain ⟨F', G', e', j1, j2, j3, j4⟩ := ih (t + 1) F1 G1 (rch μ t s) e (by omega) he hb1 i1
        refine ⟨F', G', e', by show hr F' G' (rnd μ set n (t + 1) (stp μ set t s)); rw [e1]; exact j1, j2, fun z => ⟨(j3 z).1, by show rnd μ set n (t + 1) (stp μ set t s) = s; rw [e1, (j3 z).2]; exact i3 rfl⟩, ?_⟩
        rw [s_21_21]; simp (decide := true) only [s_21_27, s_21_30, s_21_33, s_21_43, Option.bind_some, x_tlv, x_tln, if_true, if_false, cr_isa, R_at, R_has, R_size, R_put, R_isFull, R_add, R_clear, c_has_eq, c_wa_1, c_wa_2, c_ws_1, c_ws_2, cf_0_0, cf_0_1, cf_0_2, cf_0_3, cf_0_4, cf_0_5, cf_0_6, cf_0_7, cf_0_8, cf_0_9, cf_0_10, cf_0_11, cf_0_12, cf_0_13, cp_0_12, cp_0_13, ci_0, cf_1_0, cf_1_1, cf_1_2, cf_1_3, cf_1_4, cp_1_1, cp_1_2, cp_1_3, cp_1_4, ci_1, cf_4_0, cf_4_1, cf_4_2, cf_4_3, cf_4_4, cf_4_5, cf_4_6, cf_4_7, cf_4_8, cf_4_9, cf_4_10, cp_4_0, cp_4_1, ci_4, cf_23_0, cf_23_1, cf_23_2, cf_23_3, cf_23_4, cf_23_5, cf_23_6, cf_23_7, cf_23_8, cf_23_9, cf_23_10, cp_23_0, cp_23_1, ci_23, cf_42_0, cf_42_1, cf_42_2, cf_42_3, cp_42_2, cp_42_3, ci_42, cf_47_0, cf_47_1, cf_47_2, cp_47_1, cp_47_2, ci_47, cf_50_0, cf_50_1, cf_50_2, ci_50, cf_57_0, cf_57_1, ci_57, cf_62_0, cf_62_1, ci_62, cf_67_0, cf_67_1, cf_67_2, cf_67_3, cf_67_4, cf_67_5, cp_67_1, cp_67_2, ci_67, cf_76_0, cf_76_1, cf_76_2, cf_76_3, cf_76_4, cf_76_5, cp_76_1, cp_76_2, cp_76_3, ci_76, cw, e0, hs]
        rw [i4]
        simp (decide := true) only [s_21_50, s_21_55, Option.bind_some, x_tlv, x_tln, if_true, if_false, cr_isa, R_at, R_has, R_size, R_put, R_isFull, R_add, R_clear, c_has_eq, c_wa_1, c_wa_2, c_ws_1, c_ws_2, cf_0_0, cf_0_1, cf_0_2, cf_0_3, cf_0_4, cf_0_5, cf_0_6, cf_0_7, cf_0_8, cf_0_9, cf_0_10, cf_0_11, cf_0_12, cf_0_13, cp_0_12, cp_0_13, ci_0, cf_1_0, cf_1_1, cf_1_2, cf_1_3, cf_1_4, cp_1_1, cp_1_2, cp_1_3, cp_1_4, ci_1, cf_4_0, cf_4_1, cf_4_2, cf_4_3, cf_4_4, cf_4_5, cf_4_6, cf_4_7, cf_4_8, cf_4_9, cf_4_10, cp_4_0, cp_4_1, ci_4, cf_23_0, cf_23_1, cf_23_2, cf_23_3, cf_23_4, cf_23_5, cf_23_6, cf_23_7, cf_23_8, cf_23_9, cf_23_10, cp_23_0, cp_23_1, ci_23, cf_42_0, cf_42_1, cf_42_2, cf_42_3, cp_42_2, cp_42_3, ci_42, cf_47_0, cf_47_1, cf_47_2, cp_47_1, cp_47_2, ci_47, cf_50_0, cf_50_1, cf_50_2, ci_50, cf_57_0, cf_57_1, ci_57, cf_62_0, cf_62_1, ci_62, cf_67_0, cf_67_1, cf_67_2, cf_67_3, cf_67_4, cf_67_5, cp_67_1, cp_67_2, ci_67, cf_76_0, cf_76_1, cf_76_2, cf_76_3, cf_76_4, cf_76_5, cp_76_1, cp_76_2, cp_76_3, ci_76, nI_1]
        exact j4
      · obtain ⟨F', G', e', j1, j2, j3, j4⟩ := ih (t + 1) F1 G1 (rch μ t s) 1 (by omega) (Or.inr rfl) hb1 i1
        refine ⟨F', G', e', by show hr F' G' (rnd μ set n (t + 1) (stp μ set t s)); rw [e1]; exact j1, j2, fun z => absurd (j3 z).1 (by decide), ?_⟩
        rw [s_21_21]; simp (decide := true) only [s_21_27, s_21_30, s_21_33, s_21_43, Option.bind_some, x_tlv, x_tln, if_true, if_false, cr_isa, R_at, R_has, R_size, R_put, R_isFull, R_add, R_clear, c_has_eq, c_wa_1, c_wa_2, c_ws_1, c_ws_2, cf_0_0, cf_0_1, cf_0_2, cf_0_3, cf_0_4, cf_0_5, cf_0_6, cf_0_7, cf_0_8, cf_0_9, cf_0_10, cf_0_11, cf_0_12, cf_0_13, cp_0_12, cp_0_13, ci_0, cf_1_0, cf_1_1, cf_1_2, cf_1_3, cf_1_4, cp_1_1, cp_1_2, cp_1_3, cp_1_4, ci_1, cf_4_0, cf_4_1, cf_4_2, cf_4_3, cf_4_4, cf_4_5, cf_4_6, cf_4_7, cf_4_8, cf_4_9, cf_4_10, cp_4_0, cp_4_1, ci_4, cf_23_0, cf_23_1, cf_23_2, cf_23_3, cf_23_4, cf_23_5, cf_23_6, cf_23_7, cf_23_8, cf_23_9, cf_23_10, cp_23_0, cp_23_1, ci_23, cf_42_0, cf_42_1, cf_42_2, cf_42_3, cp_42_2, cp_42_3, ci_42, cf_47_0, cf_47_1, cf_47_2, cp_47_1, cp_47_2, ci_47, cf_50_0, cf_50_1, cf_50_2, ci_50, cf_57_0, cf_57_1, ci_57, cf_62_0, cf_62_1, ci_62, cf_67_0, cf_67_1, cf_67_2, cf_67_3, cf_67_4, cf_67_5, cp_67_1, cp_67_2, ci_67, cf_76_0, cf_76_1, cf_76_2, cf_76_3, cf_76_4, cf_76_5, cp_76_1, cp_76_2, cp_76_3, ci_76, cw, e0, hs]
        rw [i4]
        simp (decide := true) only [s_21_50, s_21_53, Option.bind_some, x_tlv, x_tln, if_true, if_false, cr_isa, R_at, R_has, R_size, R_put, R_isFull, R_add, R_clear, c_has_eq, c_wa_1, c_wa_2, c_ws_1, c_ws_2, cf_0_0, cf_0_1, cf_0_2, cf_0_3, cf_0_4, cf_0_5, cf_0_6, cf_0_7, cf_0_8, cf_0_9, cf_0_10, cf_0_11, cf_0_12, cf_0_13, cp_0_12, cp_0_13, ci_0, cf_1_0, cf_1_1, cf_1_2, cf_1_3, cf_1_4, cp_1_1, cp_1_2, cp_1_3, cp_1_4, ci_1, cf_4_0, cf_4_1, cf_4_2, cf_4_3, cf_4_4, cf_4_5, cf_4_6, cf_4_7, cf_4_8, cf_4_9, cf_4_10, cp_4_0, cp_4_1, ci_4, cf_23_0, cf_23_1, cf_23_2, cf_23_3, cf_23_4, cf_23_5, cf_23_6, cf_23_7, cf_23_8, cf_23_9, cf_23_10, cp_23_0, cp_23_1, ci_23, cf_42_0, cf_42_1, cf_42_2, cf_42_3, cp_42_2, cp_42_3, ci_42, cf_47_0, cf_47_1, cf_47_2, cp_47_1, cp_47_2, ci_47, cf_50_0, cf_50_1, cf_50_2, ci_50, cf_57_0, cf_57_1, ci_57, cf_62_0, cf_62_1, ci_62, cf_67_0, cf_67_1, cf_67_2, cf_67_3, cf_67_4, cf_67_5, cp_67_1, cp_67_2, ci_67, cf_76_0, cf_76_1, cf_76_2, cf_76_3, cf_76_4, cf_76_5, cp_76_1, cp_76_2, cp_76_3, ci_76, nI_1]
        exact j4
    · have e1 : stp μ set t s = s := if_neg hs
      obtain ⟨F', G', e', j1, j2, j3, j4⟩ := ih (t + 1) F G s e (by omega) he hb h
      refine ⟨F', G', e', by show hr F' G' (rnd μ set n (t + 1) (stp μ set t s)); rw [e1]; exact j1, j2, fun z => ⟨(j3 z).1, by show rnd μ set n (t + 1) (stp μ set t s) = s; rw [e1, (j3 z).2]⟩, ?_⟩
      rw [s_21_21]; simp (decide := true) only [s_21_27, s_21_30, s_21_33, s_21_55, Option.bind_some, x_tlv, x_tln, if_true, if_false, cr_isa, R_at, R_has, R_size, R_put, R_isFull, R_add, R_clear, c_has_eq, c_wa_1, c_wa_2, c_ws_1, c_ws_2, cf_0_0, cf_0_1, cf_0_2, cf_0_3, cf_0_4, cf_0_5, cf_0_6, cf_0_7, cf_0_8, cf_0_9, cf_0_10, cf_0_11, cf_0_12, cf_0_13, cp_0_12, cp_0_13, ci_0, cf_1_0, cf_1_1, cf_1_2, cf_1_3, cf_1_4, cp_1_1, cp_1_2, cp_1_3, cp_1_4, ci_1, cf_4_0, cf_4_1, cf_4_2, cf_4_3, cf_4_4, cf_4_5, cf_4_6, cf_4_7, cf_4_8, cf_4_9, cf_4_10, cp_4_0, cp_4_1, ci_4, cf_23_0, cf_23_1, cf_23_2, cf_23_3, cf_23_4, cf_23_5, cf_23_6, cf_23_7, cf_23_8, cf_23_9, cf_23_10, cp_23_0, cp_23_1, ci_23, cf_42_0, cf_42_1, cf_42_2, cf_42_3, cp_42_2, cp_42_3, ci_42, cf_47_0, cf_47_1, cf_47_2, cp_47_1, cp_47_2, ci_47, cf_50_0, cf_50_1, cf_50_2, ci_50, cf_57_0, cf_57_1, ci_57, cf_62_0, cf_62_1, ci_62, cf_67_0, cf_67_1, cf_67_2, cf_67_3, cf_67_4, cf_67_5, cp_67_1, cp_67_2, ci_67, cf_76_0, cf_76_1, cf_76_2, cf_76_3, cf_76_4, cf_76_5, cp_76_1, cp_76_2, cp_76_3, ci_76, cw, e0, hs, nI_1]
      exact j4
theorem C_itr {σ : x_S} {μ : x_U} {U T : Nat} (d : Nat) (set : Int32) (hU : U ≤ 6) (hT : T ≤ 8) (c4 : σ.2 7 1 = nI T) (ht : S_tab σ μ U T) : ∀ n k (F G : Nat → Int32) (s : HS) (e : Int32) (g : Value), k + n = 6 → (e = 0 ∨ e = 1) → (e = 0 → rnd μ set T 0 s = s) → bd s → hr F G s → ∃ F' G', hr F' G' (itr μ set T n s) ∧ x_E x_P (d + 3) x_c21 5 [.ref 62, .ref 4, .int set, .int e, .int (nI k), g] [] (CG (HC σ F G)) = some (none, CG (HC σ F' G')) := by
  intro n
  induction n with
  | zero =>
    intro k F G s e g hn he hz hb h
    obtain rfl : k = 6 := by omega
    have e6 : (6 : Int32) ≤ nI 6 := by decide
    exact ⟨F, G, h, by rw [s_21_5, if_pos e6, s_21_67]⟩
  | succ n ih =>
    intro k F G s e g hn he hz hb h
    have e6 : ¬ (6 : Int32) ≤ nI k := nI_ge (b := 6) (by omega) (by omega)
    by_cases h0 : e = 0
    · refine ⟨F, G, by rw [itr_fix (hz h0)]; exact h, ?_⟩
      rw [s_21_5, if_neg e6, s_21_12, if_pos h0, s_21_67]
    · obtain ⟨F1, G1, e', i1, i2, i3, i4⟩ := C_rnd d set (nI k) hU hT c4 ht T 0 F G s 0 (by omega) (Or.inl rfl) hb h
      obtain ⟨F', G', j1, j2⟩ := ih (k + 1) F1 G1 (rnd μ set T 0 s) e' (.int (nI T)) (by omega) i2 (fun z => by rw [(i3 z).2]; exact (i3 z).2) (rnd_ok set hU ht T 0 s (by omega) hb).1 i1
      refine ⟨F', G', j1, ?_⟩
      rw [s_21_5, if_neg e6, s_21_12, if_neg h0, s_21_16]
      refine Eq.trans i4 ?_
      rw [s_21_61, nI_1]
      exact j2
theorem C_usl {σ : x_S} {μ : x_U} {U T : Nat} (d : Nat) (set : Int32) (hU : U ≤ 6) (hT : T ≤ 8) (c3 : σ.2 5 1 = nI U) (c4 : σ.2 7 1 = nI T) (ht : S_tab σ μ U T) : ∀ n u (F G : Nat → Int32) (s : HS), u + n = U → bd s → hr F G s → ∃ F' G', hr F' G' (usl μ set T n u s) ∧ x_E x_P (d + 4) x_c20 10 [.ref 62, .ref 4, .int set, .int (nI u)] [] (CG (HC σ F G)) = x_E x_P (d + 4) x_c20 50 [.ref 62, .ref 4, .int set, .int (nI 0)] [] (CG (HC σ F' G')) := by
  have cw : ∀ F G, (HC σ F G).2 5 1 = nI U := fun _ _ => c3
  intro n
  induction n with
  | zero =>
    intro u F G s hn hb h
    obtain rfl : u = U := by omega
    refine ⟨F, G, h, ?_⟩
    rw [s_20_10]; simp (decide := true) only [s_20_15, s_20_18, s_20_48, Option.bind_some, x_tlv, x_tln, if_true, if_false, cr_isa, R_at, R_has, R_size, R_put, R_isFull, R_add, R_clear, c_has_eq, c_wa_1, c_wa_2, c_ws_1, c_ws_2, cf_0_0, cf_0_1, cf_0_2, cf_0_3, cf_0_4, cf_0_5, cf_0_6, cf_0_7, cf_0_8, cf_0_9, cf_0_10, cf_0_11, cf_0_12, cf_0_13, cp_0_12, cp_0_13, ci_0, cf_1_0, cf_1_1, cf_1_2, cf_1_3, cf_1_4, cp_1_1, cp_1_2, cp_1_3, cp_1_4, ci_1, cf_4_0, cf_4_1, cf_4_2, cf_4_3, cf_4_4, cf_4_5, cf_4_6, cf_4_7, cf_4_8, cf_4_9, cf_4_10, cp_4_0, cp_4_1, ci_4, cf_23_0, cf_23_1, cf_23_2, cf_23_3, cf_23_4, cf_23_5, cf_23_6, cf_23_7, cf_23_8, cf_23_9, cf_23_10, cp_23_0, cp_23_1, ci_23, cf_42_0, cf_42_1, cf_42_2, cf_42_3, cp_42_2, cp_42_3, ci_42, cf_47_0, cf_47_1, cf_47_2, cp_47_1, cp_47_2, ci_47, cf_50_0, cf_50_1, cf_50_2, ci_50, cf_57_0, cf_57_1, ci_57, cf_62_0, cf_62_1, ci_62, cf_67_0, cf_67_1, cf_67_2, cf_67_3, cf_67_4, cf_67_5, cp_67_1, cp_67_2, ci_67, cf_76_0, cf_76_1, cf_76_2, cf_76_3, cf_76_4, cf_76_5, cp_76_1, cp_76_2, cp_76_3, ci_76, cw, Int32.le_refl]
    rfl
  | succ n ih =>
    intro u F G s hn hb h
    have e0 : ¬ nI U ≤ nI u := nI_ge (by omega) (by omega)
    have k1 := R_known (d + 2) σ hb h (show u < 6 by omega)
    by_cases h0 : s.2 u = 0
    · rw [if_pos h0] at k1
      have n1 := R_note (d + 2) σ F G 1 1 (show u < 6 by omega)
      have hb1 := bd_nt1 (by omega) h0 hb
      have h1 : hr (upd F u 1) (upd G u 1) (nt1 s u) := hr_upd (x := 1) (y := 1) h
      obtain ⟨F1, G1, i1, i2⟩ := C_itr d set hU hT c4 ht 6 0 (upd F u 1) (upd G u 1) (nt1 s u) 1 x_j (by omega) (Or.inr rfl) (fun z => absurd z (by decide)) hb1 h1
      have r1 : x_R x_P (d + 4) 21 [.ref 62, .ref 4, .int set] (CG (HC σ (upd F u 1) (upd G u 1))) = some (none, CG (HC σ F1 G1)) := by
        rw [r_21, s_21_0]; exact i2
      obtain ⟨F', G', j1, j2⟩ := ih (u + 1) F1 G1 (itr μ set T 6 (nt1 s u)) (by omega) (itr_ok set hU ht 6 _ hb1).1 i1
      refine ⟨F', G', by show hr F' G' (usl μ set T n (u + 1) (if s.2 u = 0 then itr μ set T 6 (nt1 s u) else s)); rw [if_pos h0]; exact j1, ?_⟩
      rw [s_20_10]; simp (decide := true) only [s_20_15, s_20_18, s_20_21, s_20_26, s_20_29, s_20_36, s_20_42, Option.bind_some, x_tlv, x_tln, if_true, if_false, cr_isa, R_at, R_has, R_size, R_put, R_isFull, R_add, R_clear, c_has_eq, c_wa_1, c_wa_2, c_ws_1, c_ws_2, cf_0_0, cf_0_1, cf_0_2, cf_0_3, cf_0_4, cf_0_5, cf_0_6, cf_0_7, cf_0_8, cf_0_9, cf_0_10, cf_0_11, cf_0_12, cf_0_13, cp_0_12, cp_0_13, ci_0, cf_1_0, cf_1_1, cf_1_2, cf_1_3, cf_1_4, cp_1_1, cp_1_2, cp_1_3, cp_1_4, ci_1, cf_4_0, cf_4_1, cf_4_2, cf_4_3, cf_4_4, cf_4_5, cf_4_6, cf_4_7, cf_4_8, cf_4_9, cf_4_10, cp_4_0, cp_4_1, ci_4, cf_23_0, cf_23_1, cf_23_2, cf_23_3, cf_23_4, cf_23_5, cf_23_6, cf_23_7, cf_23_8, cf_23_9, cf_23_10, cp_23_0, cp_23_1, ci_23, cf_42_0, cf_42_1, cf_42_2, cf_42_3, cp_42_2, cp_42_3, ci_42, cf_47_0, cf_47_1, cf_47_2, cp_47_1, cp_47_2, ci_47, cf_50_0, cf_50_1, cf_50_2, ci_50, cf_57_0, cf_57_1, ci_57, cf_62_0, cf_62_1, ci_62, cf_67_0, cf_67_1, cf_67_2, cf_67_3, cf_67_4, cf_67_5, cp_67_1, cp_67_2, ci_67, cf_76_0, cf_76_1, cf_76_2, cf_76_3, cf_76_4, cf_76_5, cp_76_1, cp_76_2, cp_76_3, ci_76, cw, e0, k1, n1, r1, nI_1]
      exact j2
    · rw [if_neg h0] at k1
      obtain ⟨F', G', j1, j2⟩ := ih (u + 1) F G s (by omega) hb h
      refine ⟨F', G', by show hr F' G' (usl μ set T n (u + 1) (if s.2 u = 0 then itr μ set T 6 (nt1 s u) else s)); rw [if_neg h0]; exact j1, ?_⟩
      rw [s_20_10]; simp (decide := true) only [s_20_15, s_20_18, s_20_21, s_20_26, s_20_42, Option.bind_some, x_tlv, x_tln, if_true, if_false, cr_isa, R_at, R_has, R_size, R_put, R_isFull, R_add, R_clear, c_has_eq, c_wa_1, c_wa_2, c_ws_1, c_ws_2, cf_0_0, cf_0_1, cf_0_2, cf_0_3, cf_0_4, cf_0_5, cf_0_6, cf_0_7, cf_0_8, cf_0_9, cf_0_10, cf_0_11, cf_0_12, cf_0_13, cp_0_12, cp_0_13, ci_0, cf_1_0, cf_1_1, cf_1_2, cf_1_3, cf_1_4, cp_1_1, cp_1_2, cp_1_3, cp_1_4, ci_1, cf_4_0, cf_4_1, cf_4_2, cf_4_3, cf_4_4, cf_4_5, cf_4_6, cf_4_7, cf_4_8, cf_4_9, cf_4_10, cp_4_0, cp_4_1, ci_4, cf_23_0, cf_23_1, cf_23_2, cf_23_3, cf_23_4, cf_23_5, cf_23_6, cf_23_7, cf_23_8, cf_23_9, cf_23_10, cp_23_0, cp_23_1, ci_23, cf_42_0, cf_42_1, cf_42_2, cf_42_3, cp_42_2, cp_42_3, ci_42, cf_47_0, cf_47_1, cf_47_2, cp_47_1, cp_47_2, ci_47, cf_50_0, cf_50_1, cf_50_2, ci_50, cf_57_0, cf_57_1, ci_57, cf_62_0, cf_62_1, ci_62, cf_67_0, cf_67_1, cf_67_2, cf_67_3, cf_67_4, cf_67_5, cp_67_1, cp_67_2, ci_67, cf_76_0, cf_76_1, cf_76_2, cf_76_3, cf_76_4, cf_76_5, cp_76_1, cp_76_2, cp_76_3, ci_76, cw, e0, k1, nI_1]
      exact j2
theorem hok_l {σ : x_S} {μ : x_U} {U T t : Nat} (B : TB σ μ U T t) {s : HS} (hb : bd s) (hk : ∀ j, j < U → s.2 j ≠ 0) : lN (tGv μ t) * lN (s.1 (tFr μ t)) * lN (s.2 (tTo μ t)) = lN (tGt μ t) * lN (s.1 (tTo μ t)) * lN (s.2 (tFr μ t)) ↔ hok μ t s := by
  have b1 := bd_le hb (hk _ B.fU)
  have b2 := bd_le hb (hk _ B.tU)
  have e1 : tGv μ t * s.1 (tFr μ t) * s.2 (tTo μ t) ≤ 20 * 64000000 * 64000000 := Nat.mul_le_mul (Nat.mul_le_mul B.g2 b1.1) b2.2
  have e2 : tGt μ t * s.1 (tTo μ t) * s.2 (tFr μ t) ≤ 20 * 64000000 * 64000000 := Nat.mul_le_mul (Nat.mul_le_mul B.h2 b2.1) b1.2
  rw [lN_mul, lN_mul, lN_mul, lN_mul, pk_lEQ (by omega) (by omega)]
  exact Iff.rfl
theorem C_fits {σ : x_S} {μ : x_U} {U T t : Nat} (d : Nat) (hU : U ≤ 6) (hT : t < 8) (B : TB σ μ U T t) {F G : Nat → Int32} {s : HS} (hb : bd s) (hk : ∀ j, j < U → s.2 j ≠ 0) (h : hr F G s) : (hok μ t s → x_R x_P (d + 2) 23 [.ref 62, .ref 4, .int (nI t)] (CG (HC σ F G)) = some (some (.int 1), CG (HC σ F G))) ∧ (¬ hok μ t s → x_R x_P (d + 2) 23 [.ref 62, .ref 4, .int (nI t)] (CG (HC σ F G)) = some (some (.int 0), CG (HC σ F G))) := by
  have f := B.fU
  have o := B.tU
  have g2 := B.g2
  have h2 := B.h2
  have a1 : c_at (HC σ F G) 7 (nI t) = nI (tFr μ t) := by rw [c_at_n (q := 7) (by show t < 8; omega)]; exact B.fC
  have a2 : c_at (HC σ F G) 9 (nI t) = nI (tTo μ t) := by rw [c_at_n (q := 9) (by show t < 8; omega)]; exact B.tC
  have a3 : c_at (HC σ F G) 11 (nI t) = nI (tGv μ t) := by rw [c_at_n (q := 11) (by show t < 8; omega)]; exact B.gC
  have a4 : c_at (HC σ F G) 13 (nI t) = nI (tGt μ t) := by rw [c_at_n (q := 13) (by show t < 8; omega)]; exact B.hC
  have b1 := HC_a1 σ F G (show tFr μ t < 6 by omega)
  have b2 := HC_a2 σ F G (show tFr μ t < 6 by omega)
  have b3 := HC_a1 σ F G (show tTo μ t < 6 by omega)
  have b4 := HC_a2 σ F G (show tTo μ t < 6 by omega)
  rw [(h _ (by omega)).2 (hk _ f)] at b1
  rw [(h _ (by omega)).1] at b2
  rw [(h _ (by omega)).2 (hk _ o)] at b3
  rw [(h _ (by omega)).1] at b4
  have q1 := bd_le hb (hk _ f)
  have q2 := bd_le hb (hk _ o)
  have l1 := nI_l (n := tGv μ t) (by omega)
  have l2 := nI_l (n := tGt μ t) (by omega)
  have l3 := nI_l (n := s.1 (tFr μ t)) (by omega)
  have l4 := nI_l (n := s.2 (tFr μ t)) (by omega)
  have l5 := nI_l (n := s.1 (tTo μ t)) (by omega)
  have l6 := nI_l (n := s.2 (tTo μ t)) (by omega)
  have hh := (lg_cmp_eq (lN (tGv μ t) * lN (s.1 (tFr μ t)) * lN (s.2 (tTo μ t))) (lN (tGt μ t) * lN (s.1 (tTo μ t)) * lN (s.2 (tFr μ t)))).trans (hok_l B hb hk)
  refine ⟨fun z => ?_, fun z => ?_⟩
  · have e := hh.mpr z
    simp (decide := true) only [r_23, s_23_0, s_23_4, s_23_8, s_23_13, s_23_17, s_23_23, s_23_27, s_23_32, s_23_36, s_23_42, s_23_47, s_23_55, s_23_59, s_23_64, s_23_69, s_23_75, s_23_79, s_23_91, s_23_95, Option.bind_some, x_tlv, x_tln, if_true, if_false, cr_isa, R_at, R_has, R_size, R_put, R_isFull, R_add, R_clear, c_has_eq, c_wa_1, c_wa_2, c_ws_1, c_ws_2, cf_0_0, cf_0_1, cf_0_2, cf_0_3, cf_0_4, cf_0_5, cf_0_6, cf_0_7, cf_0_8, cf_0_9, cf_0_10, cf_0_11, cf_0_12, cf_0_13, cp_0_12, cp_0_13, ci_0, cf_1_0, cf_1_1, cf_1_2, cf_1_3, cf_1_4, cp_1_1, cp_1_2, cp_1_3, cp_1_4, ci_1, cf_4_0, cf_4_1, cf_4_2, cf_4_3, cf_4_4, cf_4_5, cf_4_6, cf_4_7, cf_4_8, cf_4_9, cf_4_10, cp_4_0, cp_4_1, ci_4, cf_23_0, cf_23_1, cf_23_2, cf_23_3, cf_23_4, cf_23_5, cf_23_6, cf_23_7, cf_23_8, cf_23_9, cf_23_10, cp_23_0, cp_23_1, ci_23, cf_42_0, cf_42_1, cf_42_2, cf_42_3, cp_42_2, cp_42_3, ci_42, cf_47_0, cf_47_1, cf_47_2, cp_47_1, cp_47_2, ci_47, cf_50_0, cf_50_1, cf_50_2, ci_50, cf_57_0, cf_57_1, ci_57, cf_62_0, cf_62_1, ci_62, cf_67_0, cf_67_1, cf_67_2, cf_67_3, cf_67_4, cf_67_5, cp_67_1, cp_67_2, ci_67, cf_76_0, cf_76_1, cf_76_2, cf_76_3, cf_76_4, cf_76_5, cp_76_1, cp_76_2, cp_76_3, ci_76, a1, a2, a3, a4, b1, b2, b3, b4, l1, l2, l3, l4, l5, l6, e]
  · have e := (not_congr hh).mpr z
    simp (decide := true) only [r_23, s_23_0, s_23_4, s_23_8, s_23_13, s_23_17, s_23_23, s_23_27, s_23_32, s_23_36, s_23_42, s_23_47, s_23_55, s_23_59, s_23_64, s_23_69, s_23_75, s_23_79, s_23_91, s_23_95, Option.bind_some, x_tlv, x_tln, if_true, if_false, cr_isa, R_at, R_has, R_size, R_put, R_isFull, R_add, R_clear, c_has_eq, c_wa_1, c_wa_2, c_ws_1, c_ws_2, cf_0_0, cf_0_1, cf_0_2, cf_0_3, cf_0_4, cf_0_5, cf_0_6, cf_0_7, cf_0_8, cf_0_9, cf_0_10, cf_0_11, cf_0_12, cf_0_13, cp_0_12, cp_0_13, ci_0, cf_1_0, cf_1_1, cf_1_2, cf_1_3, cf_1_4, cp_1_1, cp_1_2, cp_1_3, cp_1_4, ci_1, cf_4_0, cf_4_1, cf_4_2, cf_4_3, cf_4_4, cf_4_5, cf_4_6, cf_4_7, cf_4_8, cf_4_9, cf_4_10, cp_4_0, cp_4_1, ci_4, cf_23_0, cf_23_1, cf_23_2, cf_23_3, cf_23_4, cf_23_5, cf_23_6, cf_23_7, cf_23_8, cf_23_9, cf_23_10, cp_23_0, cp_23_1, ci_23, cf_42_0, cf_42_1, cf_42_2, cf_42_3, cp_42_2, cp_42_3, ci_42, cf_47_0, cf_47_1, cf_47_2, cp_47_1, cp_47_2, ci_47, cf_50_0, cf_50_1, cf_50_2, ci_50, cf_57_0, cf_57_1, ci_57, cf_62_0, cf_62_1, ci_62, cf_67_0, cf_67_1, cf_67_2, cf_67_3, cf_67_4, cf_67_5, cp_67_1, cp_67_2, ci_67, cf_76_0, cf_76_1, cf_76_2, cf_76_3, cf_76_4, cf_76_5, cp_76_1, cp_76_2, cp_76_3, ci_76, a1, a2, a3, a4, b1, b2, b3, b4, l1, l2, l3, l4, l5, l6, e]
theorem C_chk {σ : x_S} {μ : x_U} {U T : Nat} (d : Nat) (set : Int32) (hU : U ≤ 6) (hT : T ≤ 8) (c4 : σ.2 7 1 = nI T) (ht : S_tab σ μ U T) {F G : Nat → Int32} {s : HS} (hb : bd s) (hk : ∀ j, j < U → s.2 j ≠ 0) (h : hr F G s) : ∀ n t, t + n = T → ∃ r : Int32, (r = 0 ∨ r = 1) ∧ (r = 1 ↔ ∀ w, t ≤ w → w < T → ((set >>> (nI w &&& 31)) &&& 1) = 1 → hok μ w s) ∧ x_E x_P (d + 2) x_c20 50 [.ref 62, .ref 4, .int set, .int (nI t)] [] (CG (HC σ F G)) = some (some (.int r), CG (HC σ F G)) := by
  have cw : ∀ F G, (HC σ F G).2 7 1 = nI T := fun _ _ => c4
  intro n
  induction n with
  | zero =>
    intro t hn
    obtain rfl : t = T := by omega
    refine ⟨1, Or.inr rfl, ⟨fun _ w h1 h2 => by omega, fun _ => rfl⟩, ?_⟩
    rw [s_20_50]; simp (decide := true) only [s_20_55, s_20_58, s_20_87, Option.bind_some, x_tlv, x_tln, if_true, if_false, cr_isa, R_at, R_has, R_size, R_put, R_isFull, R_add, R_clear, c_has_eq, c_wa_1, c_wa_2, c_ws_1, c_ws_2, cf_0_0, cf_0_1, cf_0_2, cf_0_3, cf_0_4, cf_0_5, cf_0_6, cf_0_7, cf_0_8, cf_0_9, cf_0_10, cf_0_11, cf_0_12, cf_0_13, cp_0_12, cp_0_13, ci_0, cf_1_0, cf_1_1, cf_1_2, cf_1_3, cf_1_4, cp_1_1, cp_1_2, cp_1_3, cp_1_4, ci_1, cf_4_0, cf_4_1, cf_4_2, cf_4_3, cf_4_4, cf_4_5, cf_4_6, cf_4_7, cf_4_8, cf_4_9, cf_4_10, cp_4_0, cp_4_1, ci_4, cf_23_0, cf_23_1, cf_23_2, cf_23_3, cf_23_4, cf_23_5, cf_23_6, cf_23_7, cf_23_8, cf_23_9, cf_23_10, cp_23_0, cp_23_1, ci_23, cf_42_0, cf_42_1, cf_42_2, cf_42_3, cp_42_2, cp_42_3, ci_42, cf_47_0, cf_47_1, cf_47_2, cp_47_1, cp_47_2, ci_47, cf_50_0, cf_50_1, cf_50_2, ci_50, cf_57_0, cf_57_1, ci_57, cf_62_0, cf_62_1, ci_62, cf_67_0, cf_67_1, cf_67_2, cf_67_3, cf_67_4, cf_67_5, cp_67_1, cp_67_2, ci_67, cf_76_0, cf_76_1, cf_76_2, cf_76_3, cf_76_4, cf_76_5, cp_76_1, cp_76_2, cp_76_3, ci_76, cw, Int32.le_refl]
  | succ n ih =>
    intro t hn
    have e0 : ¬ nI T ≤ nI t := nI_ge (by omega) (by omega)
    have B := TB.of hU ht (show t < T by omega)
    obtain ⟨f1, f0⟩ := C_fits d hU (by omega) B hb hk h
    obtain ⟨r, r1, r2, r3⟩ := ih (t + 1) (by omega)
    by_cases hs : ((set >>> (nI t &&& 31)) &&& 1) = 1
    · by_cases ho : hok μ t s
      · refine ⟨r, r1, r2.trans ⟨fun z w h1 h2 h3 => ?_, fun z w h1 h2 => z w (by omega) h2⟩, ?_⟩
        · by_cases hw : w = t
          · rw [hw]; exact ho
          · exact z w (by omega) h2 h3
        · rw [s_20_50]; simp (decide := true) only [s_20_55, s_20_58, s_20_61, s_20_70, Option.bind_some, x_tlv, x_tln, if_true, if_false, cr_isa, R_at, R_has, R_size, R_put, R_isFull, R_add, R_clear, c_has_eq, c_wa_1, c_wa_2, c_ws_1, c_ws_2, cf_0_0, cf_0_1, cf_0_2, cf_0_3, cf_0_4, cf_0_5, cf_0_6, cf_0_7, cf_0_8, cf_0_9, cf_0_10, cf_0_11, cf_0_12, cf_0_13, cp_0_12, cp_0_13, ci_0, cf_1_0, cf_1_1, cf_1_2, cf_1_3, cf_1_4, cp_1_1, cp_1_2, cp_1_3, cp_1_4, ci_1, cf_4_0, cf_4_1, cf_4_2, cf_4_3, cf_4_4, cf_4_5, cf_4_6, cf_4_7, cf_4_8, cf_4_9, cf_4_10, cp_4_0, cp_4_1, ci_4, cf_23_0, cf_23_1, cf_23_2, cf_23_3, cf_23_4, cf_23_5, cf_23_6, cf_23_7, cf_23_8, cf_23_9, cf_23_10, cp_23_0, cp_23_1, ci_23, cf_42_0, cf_42_1, cf_42_2, cf_42_3, cp_42_2, cp_42_3, ci_42, cf_47_0, cf_47_1, cf_47_2, cp_47_1, cp_47_2, ci_47, cf_50_0, cf_50_1, cf_50_2, ci_50, cf_57_0, cf_57_1, ci_57, cf_62_0, cf_62_1, ci_62, cf_67_0, cf_67_1, cf_67_2, cf_67_3, cf_67_4, cf_67_5, cp_67_1, cp_67_2, ci_67, cf_76_0, cf_76_1, cf_76_2, cf_76_3, cf_76_4, cf_76_5, cp_76_1, cp_76_2, cp_76_3, ci_76, cw, e0, hs]
          rw [f1 ho]
          simp (decide := true) only [s_20_76, s_20_81, Option.bind_some, x_tlv, x_tln, if_true, if_false, cr_isa, R_at, R_has, R_size, R_put, R_isFull, R_add, R_clear, c_has_eq, c_wa_1, c_wa_2, c_ws_1, c_ws_2, cf_0_0, cf_0_1, cf_0_2, cf_0_3, cf_0_4, cf_0_5, cf_0_6, cf_0_7, cf_0_8, cf_0_9, cf_0_10, cf_0_11, cf_0_12, cf_0_13, cp_0_12, cp_0_13, ci_0, cf_1_0, cf_1_1, cf_1_2, cf_1_3, cf_1_4, cp_1_1, cp_1_2, cp_1_3, cp_1_4, ci_1, cf_4_0, cf_4_1, cf_4_2, cf_4_3, cf_4_4, cf_4_5, cf_4_6, cf_4_7, cf_4_8, cf_4_9, cf_4_10, cp_4_0, cp_4_1, ci_4, cf_23_0, cf_23_1, cf_23_2, cf_23_3, cf_23_4, cf_23_5, cf_23_6, cf_23_7, cf_23_8, cf_23_9, cf_23_10, cp_23_0, cp_23_1, ci_23, cf_42_0, cf_42_1, cf_42_2, cf_42_3, cp_42_2, cp_42_3, ci_42, cf_47_0, cf_47_1, cf_47_2, cp_47_1, cp_47_2, ci_47, cf_50_0, cf_50_1, cf_50_2, ci_50, cf_57_0, cf_57_1, ci_57, cf_62_0, cf_62_1, ci_62, cf_67_0, cf_67_1, cf_67_2, cf_67_3, cf_67_4, cf_67_5, cp_67_1, cp_67_2, ci_67, cf_76_0, cf_76_1, cf_76_2, cf_76_3, cf_76_4, cf_76_5, cp_76_1, cp_76_2, cp_76_3, ci_76, nI_1]
          exact r3
      · refine ⟨0, Or.inl rfl, ⟨fun z => absurd z (by decide), fun z => absurd (z t (Nat.le_refl _) (by omega) hs) ho⟩, ?_⟩
        rw [s_20_50]; simp (decide := true) only [s_20_55, s_20_58, s_20_61, s_20_70, Option.bind_some, x_tlv, x_tln, if_true, if_false, cr_isa, R_at, R_has, R_size, R_put, R_isFull, R_add, R_clear, c_has_eq, c_wa_1, c_wa_2, c_ws_1, c_ws_2, cf_0_0, cf_0_1, cf_0_2, cf_0_3, cf_0_4, cf_0_5, cf_0_6, cf_0_7, cf_0_8, cf_0_9, cf_0_10, cf_0_11, cf_0_12, cf_0_13, cp_0_12, cp_0_13, ci_0, cf_1_0, cf_1_1, cf_1_2, cf_1_3, cf_1_4, cp_1_1, cp_1_2, cp_1_3, cp_1_4, ci_1, cf_4_0, cf_4_1, cf_4_2, cf_4_3, cf_4_4, cf_4_5, cf_4_6, cf_4_7, cf_4_8, cf_4_9, cf_4_10, cp_4_0, cp_4_1, ci_4, cf_23_0, cf_23_1, cf_23_2, cf_23_3, cf_23_4, cf_23_5, cf_23_6, cf_23_7, cf_23_8, cf_23_9, cf_23_10, cp_23_0, cp_23_1, ci_23, cf_42_0, cf_42_1, cf_42_2, cf_42_3, cp_42_2, cp_42_3, ci_42, cf_47_0, cf_47_1, cf_47_2, cp_47_1, cp_47_2, ci_47, cf_50_0, cf_50_1, cf_50_2, ci_50, cf_57_0, cf_57_1, ci_57, cf_62_0, cf_62_1, ci_62, cf_67_0, cf_67_1, cf_67_2, cf_67_3, cf_67_4, cf_67_5, cp_67_1, cp_67_2, ci_67, cf_76_0, cf_76_1, cf_76_2, cf_76_3, cf_76_4, cf_76_5, cp_76_1, cp_76_2, cp_76_3, ci_76, cw, e0, hs]
        rw [f0 ho]
        simp (decide := true) only [s_20_76, s_20_79, Option.bind_some, x_tlv, x_tln, if_true, if_false, cr_isa, R_at, R_has, R_size, R_put, R_isFull, R_add, R_clear, c_has_eq, c_wa_1, c_wa_2, c_ws_1, c_ws_2, cf_0_0, cf_0_1, cf_0_2, cf_0_3, cf_0_4, cf_0_5, cf_0_6, cf_0_7, cf_0_8, cf_0_9, cf_0_10, cf_0_11, cf_0_12, cf_0_13, cp_0_12, cp_0_13, ci_0, cf_1_0, cf_1_1, cf_1_2, cf_1_3, cf_1_4, cp_1_1, cp_1_2, cp_1_3, cp_1_4, ci_1, cf_4_0, cf_4_1, cf_4_2, cf_4_3, cf_4_4, cf_4_5, cf_4_6, cf_4_7, cf_4_8, cf_4_9, cf_4_10, cp_4_0, cp_4_1, ci_4, cf_23_0, cf_23_1, cf_23_2, cf_23_3, cf_23_4, cf_23_5, cf_23_6, cf_23_7, cf_23_8, cf_23_9, cf_23_10, cp_23_0, cp_23_1, ci_23, cf_42_0, cf_42_1, cf_42_2, cf_42_3, cp_42_2, cp_42_3, ci_42, cf_47_0, cf_47_1, cf_47_2, cp_47_1, cp_47_2, ci_47, cf_50_0, cf_50_1, cf_50_2, ci_50, cf_57_0, cf_57_1, ci_57, cf_62_0, cf_62_1, ci_62, cf_67_0, cf_67_1, cf_67_2, cf_67_3, cf_67_4, cf_67_5, cp_67_1, cp_67_2, ci_67, cf_76_0, cf_76_1, cf_76_2, cf_76_3, cf_76_4, cf_76_5, cp_76_1, cp_76_2, cp_76_3, ci_76]
    · refine ⟨r, r1, r2.trans ⟨fun z w h1 h2 h3 => ?_, fun z w h1 h2 => z w (by omega) h2⟩, ?_⟩
      · by_cases hw : w = t
        · subst hw; exact absurd h3 hs
        · exact z w (by omega) h2 h3
      · rw [s_20_50]; simp (decide := true) only [s_20_55, s_20_58, s_20_61, s_20_81, Option.bind_some, x_tlv, x_tln, if_true, if_false, cr_isa, R_at, R_has, R_size, R_put, R_isFull, R_add, R_clear, c_has_eq, c_wa_1, c_wa_2, c_ws_1, c_ws_2, cf_0_0, cf_0_1, cf_0_2, cf_0_3, cf_0_4, cf_0_5, cf_0_6, cf_0_7, cf_0_8, cf_0_9, cf_0_10, cf_0_11, cf_0_12, cf_0_13, cp_0_12, cp_0_13, ci_0, cf_1_0, cf_1_1, cf_1_2, cf_1_3, cf_1_4, cp_1_1, cp_1_2, cp_1_3, cp_1_4, ci_1, cf_4_0, cf_4_1, cf_4_2, cf_4_3, cf_4_4, cf_4_5, cf_4_6, cf_4_7, cf_4_8, cf_4_9, cf_4_10, cp_4_0, cp_4_1, ci_4, cf_23_0, cf_23_1, cf_23_2, cf_23_3, cf_23_4, cf_23_5, cf_23_6, cf_23_7, cf_23_8, cf_23_9, cf_23_10, cp_23_0, cp_23_1, ci_23, cf_42_0, cf_42_1, cf_42_2, cf_42_3, cp_42_2, cp_42_3, ci_42, cf_47_0, cf_47_1, cf_47_2, cp_47_1, cp_47_2, ci_47, cf_50_0, cf_50_1, cf_50_2, ci_50, cf_57_0, cf_57_1, ci_57, cf_62_0, cf_62_1, ci_62, cf_67_0, cf_67_1, cf_67_2, cf_67_3, cf_67_4, cf_67_5, cp_67_1, cp_67_2, ci_67, cf_76_0, cf_76_1, cf_76_2, cf_76_3, cf_76_4, cf_76_5, cp_76_1, cp_76_2, cp_76_3, ci_76, cw, e0, hs, nI_1]
        exact r3
theorem C_fit {σ : x_S} {μ : x_U} {U T : Nat} (d : Nat) (set : Int32) (hU : U ≤ 6) (hT : T ≤ 8) (c3 : σ.2 5 1 = nI U) (c4 : σ.2 7 1 = nI T) (ht : S_tab σ μ U T) (F G : Nat → Int32) : ∃ F' G' r, (r = 0 ∨ r = 1) ∧ (r = 1 ↔ hag μ set U T) ∧ x_R x_P (d + 5) 20 [.ref 62, .ref 4, .int set] (CG (HC σ F G)) = some (some (.int r), CG (HC σ F' G')) := by
  have hf := R_fill (d + 3) (HC σ F G) 65 0 (by decide)
  rw [HC_2] at hf
  have h0 : hr F (x_fl ((HC σ F G).1 66) 0 6) (fun _ => 0, fun _ => 0) := by
    intro j hj
    unfold x_fl
    rw [if_pos hj]
    exact ⟨rfl, fun z => absurd rfl z⟩
  obtain ⟨F1, G1, i1, i2⟩ := C_usl d set hU hT c3 c4 ht U 0 F _ _ (by omega) bd_0 h0
  obtain ⟨b1, b2⟩ := usl_ok set hU ht U 0 _ (by omega) bd_0 (fun j hj => absurd hj (Nat.not_lt_zero j))
  obtain ⟨r, r1, r2, r3⟩ := C_chk (d + 2) set hU hT c4 ht b1 b2 i1 T 0 (by omega)
  refine ⟨F1, G1, r, r1, r2.trans ⟨fun z t h1 h2 => z t (by omega) h1 h2, fun z t _ h1 h2 => z t h1 h2⟩, ?_⟩
  simp (decide := true) only [r_20, s_20_0, s_20_4, Option.bind_some, x_tlv, x_tln, if_true, if_false, cr_isa, R_at, R_has, R_size, R_put, R_isFull, R_add, R_clear, c_has_eq, c_wa_1, c_wa_2, c_ws_1, c_ws_2, cf_0_0, cf_0_1, cf_0_2, cf_0_3, cf_0_4, cf_0_5, cf_0_6, cf_0_7, cf_0_8, cf_0_9, cf_0_10, cf_0_11, cf_0_12, cf_0_13, cp_0_12, cp_0_13, ci_0, cf_1_0, cf_1_1, cf_1_2, cf_1_3, cf_1_4, cp_1_1, cp_1_2, cp_1_3, cp_1_4, ci_1, cf_4_0, cf_4_1, cf_4_2, cf_4_3, cf_4_4, cf_4_5, cf_4_6, cf_4_7, cf_4_8, cf_4_9, cf_4_10, cp_4_0, cp_4_1, ci_4, cf_23_0, cf_23_1, cf_23_2, cf_23_3, cf_23_4, cf_23_5, cf_23_6, cf_23_7, cf_23_8, cf_23_9, cf_23_10, cp_23_0, cp_23_1, ci_23, cf_42_0, cf_42_1, cf_42_2, cf_42_3, cp_42_2, cp_42_3, ci_42, cf_47_0, cf_47_1, cf_47_2, cp_47_1, cp_47_2, ci_47, cf_50_0, cf_50_1, cf_50_2, ci_50, cf_57_0, cf_57_1, ci_57, cf_62_0, cf_62_1, ci_62, cf_67_0, cf_67_1, cf_67_2, cf_67_3, cf_67_4, cf_67_5, cp_67_1, cp_67_2, ci_67, cf_76_0, cf_76_1, cf_76_2, cf_76_3, cf_76_4, cf_76_5, cp_76_1, cp_76_2, cp_76_3, ci_76]
  rw [hf, show c_room 65 = 6 from rfl]
  simp (decide := true) only [s_20_8, Option.bind_some, x_tlv, x_tln, if_true, if_false, cr_isa, R_at, R_has, R_size, R_put, R_isFull, R_add, R_clear, c_has_eq, c_wa_1, c_wa_2, c_ws_1, c_ws_2, cf_0_0, cf_0_1, cf_0_2, cf_0_3, cf_0_4, cf_0_5, cf_0_6, cf_0_7, cf_0_8, cf_0_9, cf_0_10, cf_0_11, cf_0_12, cf_0_13, cp_0_12, cp_0_13, ci_0, cf_1_0, cf_1_1, cf_1_2, cf_1_3, cf_1_4, cp_1_1, cp_1_2, cp_1_3, cp_1_4, ci_1, cf_4_0, cf_4_1, cf_4_2, cf_4_3, cf_4_4, cf_4_5, cf_4_6, cf_4_7, cf_4_8, cf_4_9, cf_4_10, cp_4_0, cp_4_1, ci_4, cf_23_0, cf_23_1, cf_23_2, cf_23_3, cf_23_4, cf_23_5, cf_23_6, cf_23_7, cf_23_8, cf_23_9, cf_23_10, cp_23_0, cp_23_1, ci_23, cf_42_0, cf_42_1, cf_42_2, cf_42_3, cp_42_2, cp_42_3, ci_42, cf_47_0, cf_47_1, cf_47_2, cp_47_1, cp_47_2, ci_47, cf_50_0, cf_50_1, cf_50_2, ci_50, cf_57_0, cf_57_1, ci_57, cf_62_0, cf_62_1, ci_62, cf_67_0, cf_67_1, cf_67_2, cf_67_3, cf_67_4, cf_67_5, cp_67_1, cp_67_2, ci_67, cf_76_0, cf_76_1, cf_76_2, cf_76_3, cf_76_4, cf_76_5, cp_76_1, cp_76_2, cp_76_3, ci_76]
  exact i2.trans r3
