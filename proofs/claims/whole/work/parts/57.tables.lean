/-! reading: tables -/
theorem E_wl {μ : x_U} {T : Nat} (d : Nat) (A : Nat → Int32) (a b s g v w : Int32) (hT : T < 8) : ∀ m k (c : Int32), k + m = T → (c = 0 ∨ c = 1) → ∃ c' : Int32, (c' = 0 ∨ c' = 1) ∧ (c' = 1 ↔ c = 1 ∧ ∀ j, k ≤ j → j < T → ¬ (A (12 + j) = A (12 + T) ∧ A (20 + j) = A (20 + T))) ∧ x_E x_P d x_c124 72 [.ref 0, .int (nI T), .int c, .int (nI k)] [] (MG (RM μ A a b s g v w)) = x_E x_P d x_c124 135 [.ref 0, .int (nI T), .int c', .int (nI T)] [] (MG (RM μ A a b s g v w)) := by
  intro m
  induction m with
  | zero =>
    intro k c hm hc
    obtain rfl : k = T := by omega
    refine ⟨c, hc, ⟨fun z => ⟨z, fun j h1 h2 => by omega⟩, fun z => z.1⟩, ?_⟩
    rw [s_124_72, if_pos (Int32.le_refl _)]
  | succ m ih =>
    intro k c hm hc
    have e0 : ¬ nI T ≤ nI k := nI_ge (by omega) (by omega)
    have x1 := RM_ra μ A a b s g v w (k := 12 + k) (by omega)
    have x2 := RM_ra μ A a b s g v w (k := 12 + T) (by omega)
    have x3 := RM_ra μ A a b s g v w (k := 20 + k) (by omega)
    have x4 := RM_ra μ A a b s g v w (k := 20 + T) (by omega)
    have go : ∀ c2 : Int32, (c2 = 0 ∨ c2 = 1) → (c2 = 1 ↔ c = 1 ∧ ¬ (A (12 + k) = A (12 + T) ∧ A (20 + k) = A (20 + T))) → x_E x_P d x_c124 72 [.ref 0, .int (nI T), .int c, .int (nI k)] [] (MG (RM μ A a b s g v w)) = x_E x_P d x_c124 72 [.ref 0, .int (nI T), .int c2, .int (nI (k + 1))] [] (MG (RM μ A a b s g v w)) → ∃ c' : Int32, (c' = 0 ∨ c' = 1) ∧ (c' = 1 ↔ c = 1 ∧ ∀ j, k ≤ j → j < T → ¬ (A (12 + j) = A (12 + T) ∧ A (20 + j) = A (20 + T))) ∧ x_E x_P d x_c124 72 [.ref 0, .int (nI T), .int c, .int (nI k)] [] (MG (RM μ A a b s g v w)) = x_E x_P d x_c124 135 [.ref 0, .int (nI T), .int c', .int (nI T)] [] (MG (RM μ A a b s g v w)) := by
      intro c2 h1 h2 h3
      obtain ⟨c', g1, g2, g3⟩ := ih (k + 1) c2 (by omega) h1
      refine ⟨c', g1, g2.trans ⟨fun ⟨z1, z2⟩ => ⟨(h2.mp z1).1, fun j q1 q2 => ?_⟩, fun ⟨z1, z2⟩ => ⟨h2.mpr ⟨z1, z2 k (Nat.le_refl _) (by omega)⟩, fun j q1 q2 => z2 j (by omega) q2⟩⟩, h3.trans g3⟩
      by_cases hj : j = k
      · subst hj; exact (h2.mp z1).2
      · exact z2 j (by omega) q2
    rcases hc with rfl | rfl
    · refine go 0 (Or.inl rfl) ⟨fun z => absurd z (by decide), fun z => absurd z.1 (by decide)⟩ ?_
      rw [s_124_72, if_neg e0, s_124_77, if_pos rfl, s_124_127, nI_1]
    · by_cases y1 : A (12 + k) = A (12 + T)
      · by_cases y2 : A (20 + k) = A (20 + T)
        · refine go 0 (Or.inl rfl) ⟨fun z => absurd z (by decide), fun z => absurd ⟨y1, y2⟩ z.2⟩ ?_
          rw [s_124_72, if_neg e0, s_124_77, if_neg (by decide)]
          simp (decide := true) only [s_124_81, s_124_85, s_124_90, s_124_94, s_124_99, s_124_102, s_124_106, s_124_111, s_124_115, s_124_120, s_124_127, Option.bind_some, x_tlv, x_tln, if_true, if_false, m_wa_1, m_wa_s, m_wb_1, m_wb_2, m_wb_s, m_ws_1, m_ws_b, m_ws_s, m_ws_e, m_we_1, m_we_b, m_we_s, m_we_e, mf_0, mf_1, mf_2, mf_3, mf_4, mf_5, mf_6, mf_7, mf_8, mf_9, mf_10, mf_11, mf_12, mf_13, mf_14, mf_15, mf_16, mf_17, mf_18, mf_19, mf_20, mf_21, mf_22, mf_23, mf_24, mf_25, mf_26, mf_27, mf_28, mf_29, mf_30, mp_4, mp_7, mp_9, mp_10, mp_12, mp_14, mp_15, mp_16, mp_17, mp_18, mp_19, mp_20, mi_0, x_a12, x_a20, x1, x2, x3, x4, y1, y2, nI_1]
        · refine go 1 (Or.inr rfl) ⟨fun _ => ⟨rfl, fun z => y2 z.2⟩, fun _ => rfl⟩ ?_
          rw [s_124_72, if_neg e0, s_124_77, if_neg (by decide)]
          simp (decide := true) only [s_124_81, s_124_85, s_124_90, s_124_94, s_124_99, s_124_102, s_124_106, s_124_111, s_124_115, s_124_120, s_124_123, Option.bind_some, x_tlv, x_tln, if_true, if_false, m_wa_1, m_wa_s, m_wb_1, m_wb_2, m_wb_s, m_ws_1, m_ws_b, m_ws_s, m_ws_e, m_we_1, m_we_b, m_we_s, m_we_e, mf_0, mf_1, mf_2, mf_3, mf_4, mf_5, mf_6, mf_7, mf_8, mf_9, mf_10, mf_11, mf_12, mf_13, mf_14, mf_15, mf_16, mf_17, mf_18, mf_19, mf_20, mf_21, mf_22, mf_23, mf_24, mf_25, mf_26, mf_27, mf_28, mf_29, mf_30, mp_4, mp_7, mp_9, mp_10, mp_12, mp_14, mp_15, mp_16, mp_17, mp_18, mp_19, mp_20, mi_0, x_a12, x_a20, x1, x2, x3, x4, y1, y2, nI_1]
      · refine go 1 (Or.inr rfl) ⟨fun _ => ⟨rfl, fun z => y1 z.1⟩, fun _ => rfl⟩ ?_
        rw [s_124_72, if_neg e0, s_124_77, if_neg (by decide)]
        simp (decide := true) only [s_124_81, s_124_85, s_124_90, s_124_94, s_124_99, s_124_123, Option.bind_some, x_tlv, x_tln, if_true, if_false, m_wa_1, m_wa_s, m_wb_1, m_wb_2, m_wb_s, m_ws_1, m_ws_b, m_ws_s, m_ws_e, m_we_1, m_we_b, m_we_s, m_we_e, mf_0, mf_1, mf_2, mf_3, mf_4, mf_5, mf_6, mf_7, mf_8, mf_9, mf_10, mf_11, mf_12, mf_13, mf_14, mf_15, mf_16, mf_17, mf_18, mf_19, mf_20, mf_21, mf_22, mf_23, mf_24, mf_25, mf_26, mf_27, mf_28, mf_29, mf_30, mp_4, mp_7, mp_9, mp_10, mp_12, mp_14, mp_15, mp_16, mp_17, mp_18, mp_19, mp_20, mi_0, x_a12, x1, x2, y1, nI_1]
theorem c_add_a {τ : x_S} {q n : Nat} (v : Int32) (h : τ.2 q 1 = nI n) (hn : n < c_room q) : (c_add τ q v).1 (q + 1) = upd (τ.1 (q + 1)) n v ∧ (c_add τ q v).2 q 1 = nI (n + 1) := by
  rw [c_add_n h hn]
  refine ⟨?_, ?_⟩
  · show (if q + 1 = q + 1 then _ else _) = _
    rw [if_pos rfl]
  · show (if q = q then (fun j => if j = 1 then _ else _) else _) 1 = _
    rw [if_pos rfl]
    rfl
/-- four rows of a table grow together -/
theorem add4 {σ : x_S} {T : Nat} (hT : T < 8) (h1 : σ.2 26 1 = nI T) (h2 : σ.2 28 1 = nI T) (h3 : σ.2 30 1 = nI T) (h4 : σ.2 32 1 = nI T) (a b c e : Int32) : ∃ σ', σ' = c_add (c_add (c_add (c_add σ 26 a) 28 b) 30 c) 32 e ∧ σ'.1 27 = upd (σ.1 27) T a ∧ σ'.1 29 = upd (σ.1 29) T b ∧ σ'.1 31 = upd (σ.1 31) T c ∧ σ'.1 33 = upd (σ.1 33) T e ∧ σ'.2 26 1 = nI (T + 1) ∧ σ'.2 28 1 = nI (T + 1) ∧ σ'.2 30 1 = nI (T + 1) ∧ σ'.2 32 1 = nI (T + 1) ∧ (∀ x, x ≠ 27 → x ≠ 29 → x ≠ 31 → x ≠ 33 → σ'.1 x = σ.1 x) ∧ (∀ x, x ≠ 26 → x ≠ 28 → x ≠ 30 → x ≠ 32 → σ'.2 x = σ.2 x) := by
  have g2 : (c_add σ 26 a).2 28 1 = nI T := by rw [c_add_2 _ _ _ _ (by decide)]; exact h2
  have g3 : (c_add (c_add σ 26 a) 28 b).2 30 1 = nI T := by rw [c_add_2 _ _ _ _ (by decide), c_add_2 _ _ _ _ (by decide)]; exact h3
  have g4 : (c_add (c_add (c_add σ 26 a) 28 b) 30 c).2 32 1 = nI T := by rw [c_add_2 _ _ _ _ (by decide), c_add_2 _ _ _ _ (by decide), c_add_2 _ _ _ _ (by decide)]; exact h4
  obtain ⟨x1, y1⟩ := c_add_a (q := 26) a h1 (by show T < 8; exact hT)
  obtain ⟨x2, y2⟩ := c_add_a (q := 28) b g2 (by show T < 8; exact hT)
  obtain ⟨x3, y3⟩ := c_add_a (q := 30) c g3 (by show T < 8; exact hT)
  obtain ⟨x4, y4⟩ := c_add_a (q := 32) e g4 (by show T < 8; exact hT)
  refine ⟨_, rfl, ?_, ?_, ?_, ?_, ?_, ?_, ?_, y4, fun x z1 z2 z3 z4 => ?_, fun x z1 z2 z3 z4 => ?_⟩
  · rw [c_add_1 _ _ _ _ (by decide), c_add_1 _ _ _ _ (by decide), c_add_1 _ _ _ _ (by decide)]; exact x1
  · rw [c_add_1 _ _ _ _ (by decide), c_add_1 _ _ _ _ (by decide)]
    exact x2.trans (by rw [c_add_1 _ _ _ _ (by decide)])
  · rw [c_add_1 _ _ _ _ (by decide)]
    exact x3.trans (by rw [c_add_1 _ _ _ _ (by decide), c_add_1 _ _ _ _ (by decide)])
  · exact x4.trans (by rw [c_add_1 _ _ _ _ (by decide), c_add_1 _ _ _ _ (by decide), c_add_1 _ _ _ _ (by decide)])
  · rw [c_add_2 _ _ _ _ (by decide), c_add_2 _ _ _ _ (by decide), c_add_2 _ _ _ _ (by decide)]; exact y1
  · rw [c_add_2 _ _ _ _ (by decide), c_add_2 _ _ _ _ (by decide)]; exact y2
  · rw [c_add_2 _ _ _ _ (by decide)]; exact y3
  · rw [c_add_1 _ _ _ _ z4, c_add_1 _ _ _ _ z3, c_add_1 _ _ _ _ z2, c_add_1 _ _ _ _ z1]
  · rw [c_add_2 _ _ _ _ z4, c_add_2 _ _ _ _ z3, c_add_2 _ _ _ _ z2, c_add_2 _ _ _ _ z1]
/-- the row read with a table more -/
theorem row5 (A : Nat → Int32) (T : Nat) (a b c e k : Int32) (hT : T < 8) : ∃ F, F = upd (upd (upd (upd (upd A (12 + T) a) (20 + T) b) 3 k) (28 + T) c) (36 + T) e ∧ (∀ j, j ≠ 12 + T → j ≠ 20 + T → j ≠ 3 → j ≠ 28 + T → j ≠ 36 + T → F j = A j) ∧ F 3 = k ∧ F (12 + T) = a ∧ F (20 + T) = b ∧ F (28 + T) = c ∧ F (36 + T) = e := by
  refine ⟨_, rfl, fun j z1 z2 z3 z4 z5 => ?_, ?_, ?_, ?_, ?_, upd_s _ _ _⟩
  · rw [upd_n _ _ _ _ z5, upd_n _ _ _ _ z4, upd_n _ _ _ _ z3, upd_n _ _ _ _ z2, upd_n _ _ _ _ z1]
  · rw [upd_n _ _ _ _ (by omega), upd_n _ _ _ _ (by omega), upd_s]
  · rw [upd_n _ _ _ _ (by omega), upd_n _ _ _ _ (by omega), upd_n _ _ _ _ (by omega), upd_n _ _ _ _ (by omega), upd_s]
  · rw [upd_n _ _ _ _ (by omega), upd_n _ _ _ _ (by omega), upd_n _ _ _ _ (by omega), upd_s]
  · rw [upd_n _ _ _ _ (by omega), upd_s]
theorem J_table {σ : x_S} {μ : x_U} {A : Nat → Int32} {U T P N n p : Nat} {f : Nat → Nat} (dC dM : Nat) (hx : TX σ n f) (hm : TM μ n f) (hD : DR σ A U T P N) (hK : T < 8) (hp : p ≤ n) (a e b s g v w : Int32) : Well σ μ n p a w (x_R x_P (dC + 4) 44 [.ref 1, .ref 23] (CG (RD σ a 0 (nI p) e))) (x_R x_P (dM + 5) 124 [.ref 0] (MG (RM μ A (nI p) b s g v w))) ∨ Ill σ μ (x_R x_P (dC + 4) 44 [.ref 1, .ref 23] (CG (RD σ a 0 (nI p) e))) (x_R x_P (dM + 5) 124 [.ref 0] (MG (RM μ A (nI p) b s g v w))) := by
  have h1 := hx.1
  obtain ⟨⟨hU6, hT, hP, hN⟩, d0, d1, ⟨d2, d2'⟩, ⟨c1, c2, c3, c4, c5⟩, d4, d5, d6, d7, d8, d9⟩ := hD
  have k1 := nt_le f n p
  generalize e1 : nt f n p = t1 at k1
  have k2 := nt_le f n t1
  generalize e2 : nt f n t1 = t2 at k2
  have k3 := nt_le f n t2
  generalize e3 : nt f n t2 = t3 at k3
  have k4 := nt_le f n t3
  generalize e4 : nt f n t3 = t4 at k4
  have k5 := sk_ok f n t4
  obtain ⟨r, a2, b2, a3, b3, a4, b4, a5, b5, r1, r2, E1, E2, E3, E4, E5, E6, E7, E8, hC⟩ := R_table dC hx a 0 e (hi := nI U - 1) (T := T) (by omega) (by rw [d2']) hT c2 e1 e2 e3 e4
  rw [hC]
  have bv1 := nv_le f n p
  have bv2 := nv_le f n t1
  have bv3 := nv_le f n t2
  have bv4 := nv_le f n t3
  have e6 : ¬ nI T = 8 := fun z => by have := (nI_eq (b := 8) (by omega) (by omega)).mp z; omega
  have r4 : ∀ A a b s g v w, x_ild (MG (RM μ A a b s g v w)) 2 0 3 = some (A 3) := fun A a b s g v w => RM_ra μ A a b s g v w (k := 3) (by omega)
  have p4 : ∀ A a b s g v w x, x_ist (MG (RM μ A a b s g v w)) 2 0 3 x = some (MG (RM μ (upd A 3 x) a b s g v w)) := fun A a b s g v w x => RM_rp μ A a b s g v w x (k := 3) (by omega)
  have M1 := M_use (pl := 12 + T) (U := U) dM hm A d2 b s g v w (p := p) (by omega) (by omega)
  have M2 := M_use (pl := 20 + T) (U := U) dM hm (upd A (12 + T) (nI (nv f n p))) (by rw [upd_n _ _ _ _ (by omega)]; exact d2) (nI (nq f n p)) 48 (nI (t1 - nq f n p)) (nI (nv f n p)) w (p := t1) (by omega) (by omega)
  have M3 := M_num2 (pl := 28 + T) (dM + 1) hm (upd (upd (upd A (12 + T) (nI (nv f n p))) (20 + T) (nI (nv f n t1))) 3 (nI (T + 1))) (nI (nq f n t1)) 48 (nI (t2 - nq f n t1)) (nI (nv f n t1)) w 1 20 (p := t2) (by omega) (by omega)
  have M4 := M_num2 (pl := 36 + T) (dM + 1) hm (upd (upd (upd (upd A (12 + T) (nI (nv f n p))) (20 + T) (nI (nv f n t1))) 3 (nI (T + 1))) (28 + T) (nI (nv f n t2))) (nI (nq f n t2)) 48 (nI (t3 - nq f n t2)) (nI (nv f n t2)) w 1 20 (p := t3) (by omega) (by omega)
  have M5 := M_end2 (dM + 1) hm (upd (upd (upd (upd (upd A (12 + T) (nI (nv f n p))) (20 + T) (nI (nv f n t1))) 3 (nI (T + 1))) (28 + T) (nI (nv f n t2))) (36 + T) (nI (nv f n t3))) (nI (nq f n t3)) 48 (nI (t4 - nq f n t3)) (nI (nv f n t3)) w (p := t4) (by omega)
  rw [e1] at M1
  rw [e2] at M2
  rw [e3] at M3
  rw [e4] at M4
  have ag : AG σ (c_add (c_add (c_add (c_add σ 26 (nI (nv f n p))) 28 (nI (nv f n t1))) 30 (nI (nv f n t2))) 32 (nI (nv f n t3))) := (((AG.add σ (by omega) (by omega) _).tr (AG.add _ (by omega) (by omega) _)).tr (AG.add _ (by omega) (by omega) _)).tr (AG.add _ (by omega) (by omega) _)
  have b5q : nq f n t4 + 1 ≤ 20000 := by unfold nq; omega
  -- what is at fault early stays
  have keep : b3 ≠ 0 → a5 = a3 ∧ b5 = b3 := fun z => by
    have z4 : b4 = b3 := by rw [E6, (na_keep (a := 0) z).2, (na_keep (a := 0) z).2]
    have y4 : a4 = a3 := by rw [E5, (na_keep (a := 0) z).2, (na_keep z).1, (na_keep z).1]
    have z4' : b4 ≠ 0 := by rw [z4]; exact z
    rw [E7, E8, (ea_keep z4').1, (ea_keep (a := a) z4').2]
    exact ⟨y4, z4⟩
  by_cases hw1 : wn t1 (nq f n p) (nv f n p) 0 (nI U - 1) = 0
  · have m1 := M1.1 hw1
    have v1 := wn_rl (U := U) (by omega) (by omega) hw1
    rw [(na_ok (a := a) (b := 0) hw1).2] at E1 E2
    rw [(na_ok (a := a) (b := 0) hw1).1] at E1
    by_cases hw2 : wn t2 (nq f n t1) (nv f n t1) 0 (nI U - 1) = 0
    · have m2 := M2.1 hw2
      have v2 := wn_rl (U := U) (by omega) (by omega) hw2
      rw [(na_ok (a := a) (b := 0) hw2).1] at E1
      rw [(na_ok (a := a) (b := 0) hw2).2] at E2
      subst E1 E2
      have x1 := fun a b s g v w => RM_ra μ (upd (upd A (12 + T) (nI (nv f n p))) (20 + T) (nI (nv f n t1))) a b s g v w (k := 12 + T) (by omega)
      have x2 := fun a b s g v w => RM_ra μ (upd (upd A (12 + T) (nI (nv f n p))) (20 + T) (nI (nv f n t1))) a b s g v w (k := 20 + T) (by omega)
      have y1 : upd (upd A (12 + T) (nI (nv f n p))) (20 + T) (nI (nv f n t1)) (12 + T) = nI (nv f n p) := by rw [upd_n _ _ _ _ (by omega), upd_s]
      have y2 : upd (upd A (12 + T) (nI (nv f n p))) (20 + T) (nI (nv f n t1)) (20 + T) = nI (nv f n t1) := upd_s _ _ _
      have y3 : upd (upd A (12 + T) (nI (nv f n p))) (20 + T) (nI (nv f n t1)) 3 = nI T := by rw [upd_n _ _ _ _ (by omega), upd_n _ _ _ _ (by omega)]; exact c1
      obtain ⟨c', g1, g2, g3⟩ := E_wl (μ := μ) (dM + 4) (upd (upd A (12 + T) (nI (nv f n p))) (20 + T) (nI (nv f n t1))) (nI t2) (nI (nq f n t1)) 48 (nI (t2 - nq f n t1)) (nI (nv f n t1)) w hK T 0 (if nI (nv f n p) = nI (nv f n t1) then 0 else 1) (by omega) (by split; exact Or.inl rfl; exact Or.inr rfl)
      have hcw : c' = 1 ↔ w4 (nI (nv f n p)) (nI (nv f n t1)) r = 0 := by
        rw [g2, y1, y2]
        have hA1 : ∀ j, j < T → upd (upd A (12 + T) (nI (nv f n p))) (20 + T) (nI (nv f n t1)) (12 + j) = σ.1 27 j := fun j hj => by rw [upd_n _ _ _ _ (by omega), upd_n _ _ _ _ (by omega)]; exact (d7 j hj).1.1.symm
        have hA2 : ∀ j, j < T → upd (upd A (12 + T) (nI (nv f n p))) (20 + T) (nI (nv f n t1)) (20 + j) = σ.1 29 j := fun j hj => by rw [upd_n _ _ _ _ (by omega), upd_n _ _ _ _ (by omega)]; exact (d7 j hj).2.1.1.symm
        unfold w4
        constructor
        · rintro ⟨z1, z2⟩
          refine if_neg ?_
          rintro (y | y)
          · rw [if_pos y] at z1; exact absurd z1 (by decide)
          · obtain ⟨j, j1, j2, j3⟩ := r2.mp y
            refine z2 j (Nat.zero_le _) j1 ?_
            rw [hA1 j j1, hA2 j j1]
            exact ⟨j2, j3⟩
        · intro z
          have hn : ¬ (nI (nv f n p) = nI (nv f n t1) ∨ r = 1) := fun y => absurd z (by rw [if_pos y]; decide)
          refine ⟨if_neg (fun y => hn (Or.inl y)), fun j _ j1 y => hn (Or.inr (r2.mpr ⟨j, j1, ?_⟩))⟩
          rw [hA1 j j1, hA2 j j1] at y
          exact y
      have hrun : x_R x_P (dM + 5) 124 [.ref 0] (MG (RM μ A (nI p) b s g v w)) = x_E x_P (dM + 4) x_c124 135 [.ref 0, .int (nI T), .int c', .int (nI T)] [] (MG (RM μ (upd (upd A (12 + T) (nI (nv f n p))) (20 + T) (nI (nv f n t1))) (nI t2) (nI (nq f n t1)) 48 (nI (t2 - nq f n t1)) (nI (nv f n t1)) w)) := by
        refine Eq.trans ?_ g3
        by_cases hvv : nI (nv f n p) = nI (nv f n t1)
        · rw [if_pos hvv]
          simp (decide := true) only [r_124, s_124_0, Option.bind_some, x_tlv, x_tln, if_true, if_false, m_wa_1, m_wa_s, m_wb_1, m_wb_2, m_wb_s, m_ws_1, m_ws_b, m_ws_s, m_ws_e, m_we_1, m_we_b, m_we_s, m_we_e, mf_0, mf_1, mf_2, mf_3, mf_4, mf_5, mf_6, mf_7, mf_8, mf_9, mf_10, mf_11, mf_12, mf_13, mf_14, mf_15, mf_16, mf_17, mf_18, mf_19, mf_20, mf_21, mf_22, mf_23, mf_24, mf_25, mf_26, mf_27, mf_28, mf_29, mf_30, mp_4, mp_7, mp_9, mp_10, mp_12, mp_14, mp_15, mp_16, mp_17, mp_18, mp_19, mp_20, mi_0, r4, c1, s_124_4, s_124_6, e6, s_124_19, x_a12, m1, s_124_27, s_124_30, x_a20, m2, s_124_38, s_124_43, s_124_47, x1, y1, s_124_52, s_124_56, x2, y2]
          rw [s_124_61, if_pos hvv, s_124_68]
          rfl
        · rw [if_neg hvv]
          simp (decide := true) only [r_124, s_124_0, Option.bind_some, x_tlv, x_tln, if_true, if_false, m_wa_1, m_wa_s, m_wb_1, m_wb_2, m_wb_s, m_ws_1, m_ws_b, m_ws_s, m_ws_e, m_we_1, m_we_b, m_we_s, m_we_e, mf_0, mf_1, mf_2, mf_3, mf_4, mf_5, mf_6, mf_7, mf_8, mf_9, mf_10, mf_11, mf_12, mf_13, mf_14, mf_15, mf_16, mf_17, mf_18, mf_19, mf_20, mf_21, mf_22, mf_23, mf_24, mf_25, mf_26, mf_27, mf_28, mf_29, mf_30, mp_4, mp_7, mp_9, mp_10, mp_12, mp_14, mp_15, mp_16, mp_17, mp_18, mp_19, mp_20, mi_0, r4, c1, s_124_4, s_124_6, e6, s_124_19, x_a12, m1, s_124_27, s_124_30, x_a20, m2, s_124_38, s_124_43, s_124_47, x1, y1, s_124_52, s_124_56, x2, y2]
          rw [s_124_61, if_neg hvv, s_124_64]
          rfl
      rw [hrun]
      by_cases hw4 : w4 (nI (nv f n p)) (nI (nv f n t1)) r = 0
      · have hc' := hcw.mpr hw4
        subst hc'
        rw [hw4, blp_0] at E3
        rw [hw4, bln_0] at E4
        subst E3 E4
        by_cases hw5 : wn t3 (nq f n t2) (nv f n t2) 1 20 = 0
        · have m3 := M3.1 hw5
          rw [(na_ok (a := a3) (b := 0) hw5).2] at E5 E6
          rw [(na_ok (a := a3) (b := 0) hw5).1] at E5
          by_cases hw6 : wn t4 (nq f n t3) (nv f n t3) 1 20 = 0
          · have m4 := M4.1 hw6
            rw [(na_ok (a := a3) (b := 0) hw6).1] at E5
            rw [(na_ok (a := a3) (b := 0) hw6).2] at E6
            subst E5 E6
            by_cases hw7 : w3 f n (nq f n t4) = 0
            · have m5 := M5.1 hw7
              rw [(ea_ok (a := a4) (b := 0) hw7).1] at E7
              rw [(ea_ok (a := a4) (b := 0) hw7).2] at E8
              subst E7 E8
              have hq : nq f n t4 < n := w3_lt hw7
              have hq2 : t4 ≤ nq f n t4 := k5.1
              obtain ⟨v3, v3'⟩ := wn_rg (lo := 1) (hi := 20) (by omega) (by omega) (by omega) hw5
              obtain ⟨v4, v4'⟩ := wn_rg (lo := 1) (hi := 20) (by omega) (by omega) (by omega) hw6
              obtain ⟨F, hF, fA, f3, f12, f20, f28, f36⟩ := row5 A T (nI (nv f n p)) (nI (nv f n t1)) (nI (nv f n t2)) (nI (nv f n t3)) (nI (T + 1)) hK
              obtain ⟨σ', hσ, s27, s29, s31, s33, n26, n28, n30, n32, so1, so2⟩ := add4 hK c2 c3 c4 c5 (nI (nv f n p)) (nI (nv f n t1)) (nI (nv f n t2)) (nI (nv f n t3))
              rw [← hF] at m4 m5
              rw [← hσ] at ag ⊢
              clear hσ hF
              refine Or.inl ⟨σ', F, nq f n t4 + 1, nI (nq f n t3), nI (nq f n t4), 59, 0, 0, U, T + 1, P, N, rfl, ?_, ag, ?_, by omega, by omega⟩
              · rw [s_124_135, if_neg (by decide)]
                simp (decide := true) only [s_124_145, Option.bind_some, x_tlv, x_tln, if_true, if_false, m_wa_1, m_wa_s, m_wb_1, m_wb_2, m_wb_s, m_ws_1, m_ws_b, m_ws_s, m_ws_e, m_we_1, m_we_b, m_we_s, m_we_e, mf_0, mf_1, mf_2, mf_3, mf_4, mf_5, mf_6, mf_7, mf_8, mf_9, mf_10, mf_11, mf_12, mf_13, mf_14, mf_15, mf_16, mf_17, mf_18, mf_19, mf_20, mf_21, mf_22, mf_23, mf_24, mf_25, mf_26, mf_27, mf_28, mf_29, mf_30, mp_4, mp_7, mp_9, mp_10, mp_12, mp_14, mp_15, mp_16, mp_17, mp_18, mp_19, mp_20, mi_0, r4, y3, s_124_149, s_124_152, nI_1, p4, s_124_155, x_a28, m3, s_124_166, s_124_169, x_a36, m4, s_124_180, s_124_183, m5, s_124_187, s_124_190]
              · refine ⟨⟨hU6, by omega, hP, hN⟩, ?_, ?_, ?_, ⟨f3, n26, n28, n30, n32⟩, ?_, ?_, fun u hu => ?_, fun t ht => ?_, fun p' hp' => ?_, fun m hm => ?_⟩
                · rw [fA 0 (by omega) (by omega) (by omega) (by omega) (by omega), so2 23 (by decide) (by decide) (by decide) (by decide)]; exact d0
                · rw [fA 1 (by omega) (by omega) (by omega) (by omega) (by omega), so2 23 (by decide) (by decide) (by decide) (by decide)]; exact d1
                · rw [fA 2 (by omega) (by omega) (by omega) (by omega) (by omega), so2 24 (by decide) (by decide) (by decide) (by decide)]; exact ⟨d2, d2'⟩
                · rw [fA 4 (by omega) (by omega) (by omega) (by omega) (by omega), so2 34 (by decide) (by decide) (by decide) (by decide), so2 36 (by decide) (by decide) (by decide) (by decide)]; exact d4
                · rw [fA 5 (by omega) (by omega) (by omega) (by omega) (by omega), so2 38 (by decide) (by decide) (by decide) (by decide), so2 40 (by decide) (by decide) (by decide) (by decide)]; exact d5
                · rw [fA (6 + u) (by omega) (by omega) (by omega) (by omega) (by omega), so1 25 (by decide) (by decide) (by decide) (by decide)]; exact d6 u hu
                · rw [s27, s29, s31, s33]
                  by_cases hv : t = T
                  · rw [hv, f12, f20, f28, f36, upd_s, upd_s, upd_s, upd_s]
                    exact ⟨⟨rfl, _, rfl, v1⟩, ⟨rfl, _, rfl, v2⟩, ⟨rfl, _, rfl, v3, v3'⟩, rfl, _, rfl, v4, v4'⟩
                  · rw [fA (12 + t) (by omega) (by omega) (by omega) (by omega) (by omega), fA (20 + t) (by omega) (by omega) (by omega) (by omega) (by omega), fA (28 + t) (by omega) (by omega) (by omega) (by omega) (by omega), fA (36 + t) (by omega) (by omega) (by omega) (by omega) (by omega), upd_n _ _ t _ hv, upd_n _ _ t _ hv, upd_n _ _ t _ hv, upd_n _ _ t _ hv]
                    exact d7 t (by omega)
                · rw [fA (44 + p') (by omega) (by omega) (by omega) (by omega) (by omega), fA (50 + p') (by omega) (by omega) (by omega) (by omega) (by omega), so1 35 (by decide) (by decide) (by decide) (by decide), so1 37 (by decide) (by decide) (by decide) (by decide)]; exact d8 p' hp'
                · rw [fA (56 + m) (by omega) (by omega) (by omega) (by omega) (by omega), fA (62 + m) (by omega) (by omega) (by omega) (by omega) (by omega), so1 39 (by decide) (by decide) (by decide) (by decide), so1 41 (by decide) (by decide) (by decide) (by decide)]; exact d9 m hm
            · obtain ⟨xa, xs, xg, xv, m5⟩ := M5.2 hw7
              rw [(ea_bad (a := a4) hw7).1] at E7
              rw [(ea_bad (a := a4) hw7).2] at E8
              subst E7 E8
              refine Or.inr ⟨_, upd (upd (upd (upd (upd A (12 + T) (nI (nv f n p))) (20 + T) (nI (nv f n t1))) 3 (nI (T + 1))) (28 + T) (nI (nv f n t2))) (36 + T) (nI (nv f n t3)), nq f n t4, nq f n t4 + 1, _, xa, xs, xg, xv, 1, by decide, b5q, rfl, ?_, ag⟩
              rw [s_124_135, if_neg (by decide)]
              simp (decide := true) only [s_124_145, Option.bind_some, x_tlv, x_tln, if_true, if_false, m_wa_1, m_wa_s, m_wb_1, m_wb_2, m_wb_s, m_ws_1, m_ws_b, m_ws_s, m_ws_e, m_we_1, m_we_b, m_we_s, m_we_e, mf_0, mf_1, mf_2, mf_3, mf_4, mf_5, mf_6, mf_7, mf_8, mf_9, mf_10, mf_11, mf_12, mf_13, mf_14, mf_15, mf_16, mf_17, mf_18, mf_19, mf_20, mf_21, mf_22, mf_23, mf_24, mf_25, mf_26, mf_27, mf_28, mf_29, mf_30, mp_4, mp_7, mp_9, mp_10, mp_12, mp_14, mp_15, mp_16, mp_17, mp_18, mp_19, mp_20, mi_0, r4, y3, s_124_149, s_124_152, nI_1, p4, s_124_155, x_a28, m3, s_124_166, s_124_169, x_a36, m4, s_124_180, s_124_183, m5, s_124_187, s_124_194]
          · obtain ⟨xa, xs, xg, xv, m4⟩ := M4.2 hw6
            rw [(na_bad (a := a3) hw6).1] at E5
            rw [(na_bad (a := a3) hw6).2] at E6
            subst E5 E6
            rw [(ea_keep hw6).1] at E7
            rw [(ea_keep (a := 0) hw6).2] at E8
            subst E7 E8
            refine Or.inr ⟨_, upd (upd (upd (upd A (12 + T) (nI (nv f n p))) (20 + T) (nI (nv f n t1))) 3 (nI (T + 1))) (28 + T) (nI (nv f n t2)), nq f n t3, nq f n t4 + 1, _, xa, xs, xg, xv, _, hw6, b5q, rfl, ?_, ag⟩
            rw [s_124_135, if_neg (by decide)]
            simp (decide := true) only [s_124_145, Option.bind_some, x_tlv, x_tln, if_true, if_false, m_wa_1, m_wa_s, m_wb_1, m_wb_2, m_wb_s, m_ws_1, m_ws_b, m_ws_s, m_ws_e, m_we_1, m_we_b, m_we_s, m_we_e, mf_0, mf_1, mf_2, mf_3, mf_4, mf_5, mf_6, mf_7, mf_8, mf_9, mf_10, mf_11, mf_12, mf_13, mf_14, mf_15, mf_16, mf_17, mf_18, mf_19, mf_20, mf_21, mf_22, mf_23, mf_24, mf_25, mf_26, mf_27, mf_28, mf_29, mf_30, mp_4, mp_7, mp_9, mp_10, mp_12, mp_14, mp_15, mp_16, mp_17, mp_18, mp_19, mp_20, mi_0, r4, y3, s_124_149, s_124_152, nI_1, p4, s_124_155, x_a28, m3, s_124_166, s_124_169, x_a36, m4, s_124_180, s_124_194]
        · obtain ⟨xa, xs, xg, xv, m3⟩ := M3.2 hw5
          rw [(na_bad (a := a3) hw5).1, (na_bad (a := a3) hw5).2, (na_keep hw5).1] at E5
          rw [(na_bad (a := a3) hw5).2, (na_keep (a := 0) hw5).2] at E6
          subst E5 E6
          rw [(ea_keep hw5).1] at E7
          rw [(ea_keep (a := 0) hw5).2] at E8
          subst E7 E8
          refine Or.inr ⟨_, upd (upd (upd A (12 + T) (nI (nv f n p))) (20 + T) (nI (nv f n t1))) 3 (nI (T + 1)), nq f n t2, nq f n t4 + 1, _, xa, xs, xg, xv, _, hw5, b5q, rfl, ?_, ag⟩
          rw [s_124_135, if_neg (by decide)]
          simp (decide := true) only [s_124_145, Option.bind_some, x_tlv, x_tln, if_true, if_false, m_wa_1, m_wa_s, m_wb_1, m_wb_2, m_wb_s, m_ws_1, m_ws_b, m_ws_s, m_ws_e, m_we_1, m_we_b, m_we_s, m_we_e, mf_0, mf_1, mf_2, mf_3, mf_4, mf_5, mf_6, mf_7, mf_8, mf_9, mf_10, mf_11, mf_12, mf_13, mf_14, mf_15, mf_16, mf_17, mf_18, mf_19, mf_20, mf_21, mf_22, mf_23, mf_24, mf_25, mf_26, mf_27, mf_28, mf_29, mf_30, mp_4, mp_7, mp_9, mp_10, mp_12, mp_14, mp_15, mp_16, mp_17, mp_18, mp_19, mp_20, mi_0, r4, y3, s_124_149, s_124_152, nI_1, p4, s_124_155, x_a28, m3, s_124_166, s_124_194]
      · have hc' : c' = 0 := g1.resolve_right (fun z => hw4 (hcw.mp z))
        subst hc'
        have e44 : w4 (nI (nv f n p)) (nI (nv f n t1)) r = 4 := Classical.byContradiction fun z => hw4 (by unfold w4 at z ⊢; by_cases y : nI (nv f n p) = nI (nv f n t1) ∨ r = 1; exact absurd (if_pos y) z; exact if_neg y)
        rw [e44] at E3 E4
        have x3 : a3 = nI (nq f n t1) := E3.trans (if_neg (by rintro (y | y); exact absurd y (by decide); exact y rfl))
        have x4 : b3 = 4 := E4.trans (if_neg (by rintro (y | y); exact absurd y (by decide); exact y rfl))
        obtain ⟨z1, z2⟩ := keep (by rw [x4]; decide)
        rw [x3] at z1
        rw [x4] at z2
        subst z1 z2
        refine Or.inr ⟨_, upd (upd A (12 + T) (nI (nv f n p))) (20 + T) (nI (nv f n t1)), nq f n t1, nq f n t4 + 1, _, nI t2, 48, nI (t2 - nq f n t1), nI (nv f n t1), 4, by decide, b5q, rfl, ?_, ag⟩
        have hfl := M_fails (dM + 3) μ (upd (upd A (12 + T) (nI (nv f n p))) (20 + T) (nI (nv f n t1))) (nI t2) (nI (nq f n t1)) 48 (nI (t2 - nq f n t1)) (nI (nv f n t1)) w 4
        rw [s_124_135, if_pos rfl]
        simp (decide := true) only [s_124_139, Option.bind_some, x_tlv, x_tln, if_true, if_false, m_wa_1, m_wa_s, m_wb_1, m_wb_2, m_wb_s, m_ws_1, m_ws_b, m_ws_s, m_ws_e, m_we_1, m_we_b, m_we_s, m_we_e, mf_0, mf_1, mf_2, mf_3, mf_4, mf_5, mf_6, mf_7, mf_8, mf_9, mf_10, mf_11, mf_12, mf_13, mf_14, mf_15, mf_16, mf_17, mf_18, mf_19, mf_20, mf_21, mf_22, mf_23, mf_24, mf_25, mf_26, mf_27, mf_28, mf_29, mf_30, mp_4, mp_7, mp_9, mp_10, mp_12, mp_14, mp_15, mp_16, mp_17, mp_18, mp_19, mp_20, mi_0, hfl, s_124_144]
    · obtain ⟨xa, xs, xg, xv, m2⟩ := M2.2 hw2
      rw [(na_bad (a := a) hw2).1] at E1
      rw [(na_bad (a := a) hw2).2] at E2
      subst E1 E2
      have x3 : a3 = nI (nq f n t1) := E3.trans (if_pos (Or.inr hw2))
      have x4 : b3 = wn t2 (nq f n t1) (nv f n t1) 0 (nI U - 1) := E4.trans (if_pos (Or.inr hw2))
      obtain ⟨z1, z2⟩ := keep (by rw [x4]; exact hw2)
      rw [x3] at z1
      rw [x4] at z2
      subst z1 z2
      refine Or.inr ⟨_, upd A (12 + T) (nI (nv f n p)), nq f n t1, nq f n t4 + 1, _, xa, xs, xg, xv, _, hw2, b5q, rfl, ?_, ag⟩
      simp (decide := true) only [r_124, s_124_0, Option.bind_some, x_tlv, x_tln, if_true, if_false, m_wa_1, m_wa_s, m_wb_1, m_wb_2, m_wb_s, m_ws_1, m_ws_b, m_ws_s, m_ws_e, m_we_1, m_we_b, m_we_s, m_we_e, mf_0, mf_1, mf_2, mf_3, mf_4, mf_5, mf_6, mf_7, mf_8, mf_9, mf_10, mf_11, mf_12, mf_13, mf_14, mf_15, mf_16, mf_17, mf_18, mf_19, mf_20, mf_21, mf_22, mf_23, mf_24, mf_25, mf_26, mf_27, mf_28, mf_29, mf_30, mp_4, mp_7, mp_9, mp_10, mp_12, mp_14, mp_15, mp_16, mp_17, mp_18, mp_19, mp_20, mi_0, r4, c1, s_124_4, s_124_6, e6, s_124_19, x_a12, m1, s_124_27, s_124_30, x_a20, m2, s_124_38, s_124_41]
  · obtain ⟨xa, xs, xg, xv, m1⟩ := M1.2 hw1
    rw [(na_bad (a := a) hw1).1, (na_bad (a := a) hw1).2, (na_keep hw1).1] at E1
    rw [(na_bad (a := a) hw1).2, (na_keep (a := a) hw1).2] at E2
    subst E1 E2
    have x3 : a3 = nI (nq f n p) := E3.trans (if_pos (Or.inr hw1))
    have x4 : b3 = wn t1 (nq f n p) (nv f n p) 0 (nI U - 1) := E4.trans (if_pos (Or.inr hw1))
    obtain ⟨z1, z2⟩ := keep (by rw [x4]; exact hw1)
    rw [x3] at z1
    rw [x4] at z2
    subst z1 z2
    refine Or.inr ⟨_, A, nq f n p, nq f n t4 + 1, _, xa, xs, xg, xv, _, hw1, b5q, rfl, ?_, ag⟩
    simp (decide := true) only [r_124, s_124_0, Option.bind_some, x_tlv, x_tln, if_true, if_false, m_wa_1, m_wa_s, m_wb_1, m_wb_2, m_wb_s, m_ws_1, m_ws_b, m_ws_s, m_ws_e, m_we_1, m_we_b, m_we_s, m_we_e, mf_0, mf_1, mf_2, mf_3, mf_4, mf_5, mf_6, mf_7, mf_8, mf_9, mf_10, mf_11, mf_12, mf_13, mf_14, mf_15, mf_16, mf_17, mf_18, mf_19, mf_20, mf_21, mf_22, mf_23, mf_24, mf_25, mf_26, mf_27, mf_28, mf_29, mf_30, mp_4, mp_7, mp_9, mp_10, mp_12, mp_14, mp_15, mp_16, mp_17, mp_18, mp_19, mp_20, mi_0, r4, c1, s_124_4, s_124_6, e6, s_124_19, x_a12, m1, s_124_27, s_124_41]
