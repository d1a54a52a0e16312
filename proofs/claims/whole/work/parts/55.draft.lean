/-! reading: the draft on both sides; dues and uses -/
def AG (σ σ' : x_S) : Prop := ∀ x, ¬ (23 ≤ x ∧ x ≤ 41) → σ'.1 x = σ.1 x ∧ σ'.2 x = σ.2 x
theorem AG.rf (σ : x_S) : AG σ σ := fun _ _ => ⟨rfl, rfl⟩
theorem AG.tr {σ σ' σ'' : x_S} (h1 : AG σ σ') (h2 : AG σ' σ'') : AG σ σ'' := fun x hx => ⟨(h2 x hx).1.trans (h1 x hx).1, (h2 x hx).2.trans (h1 x hx).2⟩
theorem AG.add (σ : x_S) {q : Nat} (h1 : 24 ≤ q) (h2 : q ≤ 40) (v : Int32) : AG σ (c_add σ q v) := fun x hx => ⟨c_add_1 _ _ _ _ (by omega), c_add_2 _ _ _ _ (by omega)⟩
theorem AG.ws (σ : x_S) (k : Nat) (v : Int32) : AG σ (c_ws σ 23 k v) := fun x hx => ⟨rfl, by show (if x = 23 then _ else σ.2 x) = _; rw [if_neg (by omega)]⟩
theorem AG.tx {σ σ' : x_S} {n : Nat} {f : Nat → Nat} (h : AG σ σ') (t : TX σ n f) : TX σ' n f := ⟨t.1, by rw [(h 2 (by omega)).2]; exact t.2.1, fun k hk => by rw [(h 3 (by omega)).1]; exact t.2.2 k hk⟩
def DR (σ : x_S) (A : Nat → Int32) (U T P N : Nat) : Prop := (U ≤ 6 ∧ T ≤ 8 ∧ P ≤ 6 ∧ N ≤ 6) ∧ (σ.2 23 0 = A 0 ∧ (A 0 = 0 ∨ A 0 = 1)) ∧ (σ.2 23 1 = A 1 ∧ Rg (A 1) 0 99) ∧ (A 2 = nI U ∧ σ.2 24 1 = nI U) ∧ (A 3 = nI T ∧ σ.2 26 1 = nI T ∧ σ.2 28 1 = nI T ∧ σ.2 30 1 = nI T ∧ σ.2 32 1 = nI T) ∧ (A 4 = nI P ∧ σ.2 34 1 = nI P ∧ σ.2 36 1 = nI P) ∧ (A 5 = nI N ∧ σ.2 38 1 = nI N ∧ σ.2 40 1 = nI N) ∧ (∀ u, u < U → σ.1 25 u = A (6 + u) ∧ Rg (A (6 + u)) 1 99) ∧ (∀ t, t < T → (σ.1 27 t = A (12 + t) ∧ Rl (A (12 + t)) U) ∧ (σ.1 29 t = A (20 + t) ∧ Rl (A (20 + t)) U) ∧ (σ.1 31 t = A (28 + t) ∧ Rg (A (28 + t)) 1 20) ∧ (σ.1 33 t = A (36 + t) ∧ Rg (A (36 + t)) 1 20)) ∧ (∀ p, p < P → (σ.1 35 p = A (44 + p) ∧ Rl (A (44 + p)) U) ∧ (σ.1 37 p = A (50 + p) ∧ Rg (A (50 + p)) 1 40)) ∧ (∀ n, n < N → (σ.1 39 n = A (56 + n) ∧ Rl (A (56 + n)) U) ∧ (σ.1 41 n = A (62 + n) ∧ Rg (A (62 + n)) 1 20))
/-- no fault, or the first -/
def wn (t q v : Nat) (lo hi : Int32) : Int32 := bln (w1 t q) (w2 t q v lo hi)
theorem w1_01 (t q : Nat) : w1 t q = 0 ∨ w1 t q = 1 := by
  unfold w1
  split
  · exact Or.inr rfl
  · exact Or.inl rfl
theorem wn_0 {t q v : Nat} {lo hi : Int32} : wn t q v lo hi = 0 ↔ w1 t q = 0 ∧ w2 t q v lo hi = 0 := by
  unfold wn bln
  by_cases h2 : w2 t q v lo hi = 0
  · rw [if_pos (Or.inl h2)]
    exact ⟨fun z => ⟨z, h2⟩, fun z => z.1⟩
  · by_cases h1 : w1 t q = 0
    · rw [if_neg (by rintro (z | z); exact h2 z; exact z h1)]
      exact ⟨fun z => absurd z h2, fun z => absurd z.2 h2⟩
    · rw [if_pos (Or.inr h1)]
      exact ⟨fun z => absurd z h1, fun z => absurd z.1 h1⟩
theorem na_ok {a b : Int32} {t q v : Nat} {lo hi : Int32} (h : wn t q v lo hi = 0) : na a b t q v lo hi = a ∧ nb b t q v lo hi = b := by
  obtain ⟨h1, h2⟩ := wn_0.mp h
  unfold na nb
  rw [h1, h2, blp_0, bln_0, bln_0, blp_0]
  exact ⟨rfl, rfl⟩
theorem na_bad {a : Int32} {t q v : Nat} {lo hi : Int32} (h : wn t q v lo hi ≠ 0) : na a 0 t q v lo hi = nI q ∧ nb 0 t q v lo hi = wn t q v lo hi := by
  have e : bln 0 (w1 t q) = w1 t q := by
    unfold bln
    by_cases z : w1 t q = 0
    · rw [if_pos (Or.inl z), z]
    · rw [if_neg (by rintro (y | y); exact z y; exact y rfl)]
  refine ⟨?_, ?_⟩
  · unfold na
    rw [e]
    unfold blp
    by_cases z : w1 t q = 0
    · have z2 : w2 t q v lo hi ≠ 0 := fun y => h (wn_0.mpr ⟨z, y⟩)
      rw [if_neg (by rintro (y | y); exact z2 y; exact y z)]
    · rw [if_pos (Or.inr z), if_neg (by rintro (y | y); exact z y; exact y rfl)]
  · unfold nb
    rw [e]
    rfl
theorem na_keep {a b : Int32} {t q v : Nat} {lo hi : Int32} (h : b ≠ 0) : na a b t q v lo hi = a ∧ nb b t q v lo hi = b := by
  have e : bln b (w1 t q) = b := if_pos (Or.inr h)
  unfold na nb
  rw [e]
  unfold blp bln
  rw [if_pos (Or.inr h), if_pos (Or.inr h), if_pos (Or.inr h)]
  exact ⟨rfl, rfl⟩
theorem w3_01 (f : Nat → Nat) (n q : Nat) : w3 f n q = 0 ∨ w3 f n q = 1 := by
  unfold w3
  split
  · exact Or.inl rfl
  · exact Or.inr rfl
theorem ea_ok {a b : Int32} {f : Nat → Nat} {n q : Nat} (h : w3 f n q = 0) : ea a b f n q = a ∧ eb b f n q = b := by
  unfold ea eb
  rw [h, blp_0, bln_0]
  exact ⟨rfl, rfl⟩
theorem ea_bad {a : Int32} {f : Nat → Nat} {n q : Nat} (h : w3 f n q ≠ 0) : ea a 0 f n q = nI q ∧ eb 0 f n q = 1 := by
  have e : w3 f n q = 1 := (w3_01 f n q).resolve_left h
  unfold ea eb
  rw [e]
  exact ⟨if_neg (by rintro (y | y); exact absurd y (by decide); exact y rfl), if_neg (by rintro (y | y); exact absurd y (by decide); exact y rfl)⟩
theorem ea_keep {a b : Int32} {f : Nat → Nat} {n q : Nat} (h : b ≠ 0) : ea a b f n q = a ∧ eb b f n q = b := ⟨if_pos (Or.inr h), if_pos (Or.inr h)⟩
/-- a number that is well within its bounds -/
theorem wn_rg {t q v : Nat} {lo hi : Nat} (hh : hi < 2 ^ 31) (hl : lo < 2 ^ 31) (hv : v < 2 ^ 31) (h : wn t q v (nI lo) (nI hi) = 0) : lo ≤ v ∧ v ≤ hi := by
  obtain ⟨-, h2⟩ := wn_0.mp h
  have hb : ¬ bad t q v (nI lo) (nI hi) := fun y => absurd h2 (by unfold w2; rw [if_pos y]; decide)
  have c2 : ¬ nI v < nI lo := fun z => hb (Or.inr (Or.inl z))
  have c3 : nI v ≤ nI hi := Classical.byContradiction fun z => hb (Or.inr (Or.inr z))
  exact ⟨Nat.not_lt.mp fun z => c2 (nI_lt z hl), (nI_leI hv hh).mp c3⟩
theorem wn_rl {t q v U : Nat} (hU : U < 1000) (hv : v < 2 ^ 30) (h : wn t q v 0 (nI U - 1) = 0) : v < U := by
  obtain ⟨-, h2⟩ := wn_0.mp h
  have hb : ¬ bad t q v 0 (nI U - 1) := fun y => absurd h2 (by unfold w2; rw [if_pos y]; decide)
  have c3 : nI v ≤ nI U - 1 := Classical.byContradiction fun z => hb (Or.inr (Or.inr z))
  rw [Int32.le_iff_toInt_le, nI_toInt (by omega), show (nI U - 1).toInt = (U : Int) - 1 from pk_sub_toInt (a := U) (b := 1) (by omega) (by omega)] at c3
  omega
theorem nv_le (f : Nat → Nat) (n p : Nat) : nv f n p ≤ 999 := (num_ok f n (sk f n p)).2.2
/-- what a clause leaves: well read -/
def Well (σ : x_S) (μ : x_U) (n p : Nat) (a w : Int32) (rC : Option (Option Value × x_H)) (rM : Option (Option Value × x_H)) : Prop := ∃ σ' A' p' e' b' s' g' v' U T P N, rC = some (none, CG (RD σ' a 0 (nI p') e')) ∧ rM = some (some (.int 1), MG (RM μ A' (nI p') b' s' g' v' w)) ∧ AG σ σ' ∧ DR σ' A' U T P N ∧ p < p' ∧ p' ≤ n
/-- or at fault, at the same place for the same reason -/
def Ill (σ : x_S) (μ : x_U) (rC : Option (Option Value × x_H)) (rM : Option (Option Value × x_H)) : Prop := ∃ σ' A' q p' e' a' s' g' v' W, W ≠ 0 ∧ p' ≤ 20000 ∧ rC = some (none, CG (RD σ' (nI q) W (nI p') e')) ∧ rM = some (some (.int 0), MG (RM μ A' a' (nI q) s' g' v' W)) ∧ AG σ σ'
theorem M_num2 {μ : x_U} {n p pl : Nat} {f : Nat → Nat} (d : Nat) (h : TM μ n f) (A : Nat → Int32) (b s g v0 w lo hi : Int32) (hp : p < 2 ^ 27) (hpl : pl < 68) : (wn (nt f n p) (nq f n p) (nv f n p) lo hi = 0 → x_R x_P (d + 3) 119 [.ref 0, .int (nI pl), .int lo, .int hi] (MG (RM μ A (nI p) b s g v0 w)) = some (some (.int 1), MG (RM μ (upd A pl (nI (nv f n p))) (nI (nt f n p)) (nI (nq f n p)) 48 (nI (nt f n p - nq f n p)) (nI (nv f n p)) w))) ∧ (wn (nt f n p) (nq f n p) (nv f n p) lo hi ≠ 0 → ∃ a s' g' v', x_R x_P (d + 3) 119 [.ref 0, .int (nI pl), .int lo, .int hi] (MG (RM μ A (nI p) b s g v0 w)) = some (some (.int 0), MG (RM μ A a (nI (nq f n p)) s' g' v' (wn (nt f n p) (nq f n p) (nv f n p) lo hi)))) := by
  obtain ⟨h1, h2⟩ := M_num (pl := pl) d h A b s g v0 w lo hi hp hpl (show sk f n p = nq f n p from rfl) (show num f n (nq f n p) = (nt f n p, nv f n p) from rfl)
  exact ⟨fun z => h1 (wn_0.mp z).1 (wn_0.mp z).2, h2⟩
theorem M_end2 {μ : x_U} {n p : Nat} {f : Nat → Nat} (d : Nat) (h : TM μ n f) (A : Nat → Int32) (b s g v0 w : Int32) (hp : p < 2 ^ 27) : (w3 f n (nq f n p) = 0 → x_R x_P (d + 3) 120 [.ref 0] (MG (RM μ A (nI p) b s g v0 w)) = some (some (.int 1), MG (RM μ A (nI (nq f n p + 1)) (nI (nq f n p)) 59 0 0 w))) ∧ (w3 f n (nq f n p) ≠ 0 → ∃ a s' g' v', x_R x_P (d + 3) 120 [.ref 0] (MG (RM μ A (nI p) b s g v0 w)) = some (some (.int 0), MG (RM μ A a (nI (nq f n p)) s' g' v' 1))) := M_end d h A b s g v0 w hp rfl
theorem w3_lt {f : Nat → Nat} {n q : Nat} (h : w3 f n q = 0) : q < n := (Classical.byContradiction fun y => absurd h (by unfold w3; rw [if_neg y]; decide) : q < n ∧ f q = 59).1
theorem J_use {σ : x_S} {μ : x_U} {A : Nat → Int32} {U T P N n p : Nat} {f : Nat → Nat} (dC dM : Nat) (hx : TX σ n f) (hm : TM μ n f) (hD : DR σ A U T P N) (hU : U < 6) (hp : p ≤ n) (a e b s g v w : Int32) : Well σ μ n p a w (x_R x_P (dC + 4) 43 [.ref 1, .ref 23] (CG (RD σ a 0 (nI p) e))) (x_R x_P (dM + 4) 122 [.ref 0] (MG (RM μ A (nI p) b s g v w))) ∨ Ill σ μ (x_R x_P (dC + 4) 43 [.ref 1, .ref 23] (CG (RD σ a 0 (nI p) e))) (x_R x_P (dM + 4) 122 [.ref 0] (MG (RM μ A (nI p) b s g v w))) := by
  have h1 := hx.1
  obtain ⟨a2, b2, hC, ea2, eb2⟩ := R_use dC hx a 0 e (p := p) (by omega)
  rw [hC]
  obtain ⟨⟨hU6, hT, hP, hN⟩, d0, d1, ⟨d2, d2'⟩, d3, d4, d5, d6, d7, d8, d9⟩ := hD
  have k := nt_le f n p
  have k2 := sk_ok f n (nt f n p)
  have bv := nv_le f n p
  have e6 : ¬ nI U = 6 := fun z => by have := (nI_eq (b := 6) (by omega) (by omega)).mp z; omega
  have r2 := fun A a b s g v w => RM_ra μ A a b s g v w (k := 2) (by omega)
  have r2 : ∀ A a b s g v w, x_ild (MG (RM μ A a b s g v w)) 2 0 2 = some (A 2) := r2
  have p2 : ∀ A a b s g v w x, x_ist (MG (RM μ A a b s g v w)) 2 0 2 x = some (MG (RM μ (upd A 2 x) a b s g v w)) := fun A a b s g v w x => RM_rp μ A a b s g v w x (k := 2) (by omega)
  obtain ⟨m1, m2⟩ := M_num2 (pl := 6 + U) dM hm A b s g v w 1 99 (p := p) (by omega) (by omega)
  obtain ⟨m3, m4⟩ := M_end2 dM hm (upd A (6 + U) (nI (nv f n p))) (nI (nq f n p)) 48 (nI (nt f n p - nq f n p)) (nI (nv f n p)) w (p := nt f n p) (by omega)
  have ag := AG.add σ (q := 24) (by omega) (by omega) (nI (nv f n p))
  by_cases hw : wn (nt f n p) (nq f n p) (nv f n p) 1 99 = 0
  · obtain ⟨n1, n2⟩ := na_ok (a := a) (b := 0) hw
    rw [n1, n2] at ea2
    rw [n2] at eb2
    have m1 := m1 hw
    by_cases hw3 : w3 f n (nq f n (nt f n p)) = 0
    · obtain ⟨n3, n4⟩ := ea_ok (a := a) (b := 0) hw3
      rw [n3] at ea2
      rw [n4] at eb2
      subst ea2 eb2
      have m3 := m3 hw3
      have hq := w3_lt hw3
      have hq : nq f n (nt f n p) < n := hq
      have hq2 : nt f n p ≤ nq f n (nt f n p) := k2.1
      obtain ⟨v1, v2⟩ := wn_rg (lo := 1) (hi := 99) (by omega) (by omega) (by omega) hw
      refine Or.inl ⟨c_add σ 24 (nI (nv f n p)), upd (upd A (6 + U) (nI (nv f n p))) 2 (nI (U + 1)), nq f n (nt f n p) + 1, nI (nq f n p), nI (nq f n (nt f n p)), 59, 0, 0, U + 1, T, P, N, rfl, ?_, ag, ?_, by omega, by omega⟩
      · have eA : upd A (6 + U) (nI (nv f n p)) 2 = nI U := by rw [upd_n _ _ _ _ (by omega)]; exact d2
        simp (decide := true) only [r_122, s_122_0, Option.bind_some, x_tlv, x_tln, if_true, if_false, m_wa_1, m_wa_s, m_wb_1, m_wb_2, m_wb_s, m_ws_1, m_ws_b, m_ws_s, m_ws_e, m_we_1, m_we_b, m_we_s, m_we_e, mf_0, mf_1, mf_2, mf_3, mf_4, mf_5, mf_6, mf_7, mf_8, mf_9, mf_10, mf_11, mf_12, mf_13, mf_14, mf_15, mf_16, mf_17, mf_18, mf_19, mf_20, mf_21, mf_22, mf_23, mf_24, mf_25, mf_26, mf_27, mf_28, mf_29, mf_30, mp_4, mp_7, mp_9, mp_10, mp_12, mp_14, mp_15, mp_16, mp_17, mp_18, mp_19, mp_20, mi_0, r2, d2, s_122_4, s_122_6, e6, s_122_19, x_a6, m1, s_122_30, s_122_33, m3, s_122_37, s_122_40, s_122_50, eA, s_122_53, nI_1, p2, s_122_56]
      · rw [c_add_n d2' (by show U < 6; omega)]
        have uA : ∀ j, j ≠ 2 → j ≠ 6 + U → upd (upd A (6 + U) (nI (nv f n p))) 2 (nI (U + 1)) j = A j := fun j z1 z2 => by rw [upd_n _ _ _ _ z1, upd_n _ _ _ _ z2]
        refine ⟨⟨by omega, hT, hP, hN⟩, ?_, ?_, ⟨upd_s _ _ _, rfl⟩, ?_, ?_, ?_, fun u hu => ?_, fun t ht => ?_, fun p hp => ?_, fun m hm => ?_⟩
        · rw [uA 0 (by omega) (by omega)]; exact d0
        · rw [uA 1 (by omega) (by omega)]; exact d1
        · rw [uA 3 (by omega) (by omega)]; exact d3
        · rw [uA 4 (by omega) (by omega)]; exact d4
        · rw [uA 5 (by omega) (by omega)]; exact d5
        · show upd (σ.1 25) U (nI (nv f n p)) u = upd (upd A (6 + U) (nI (nv f n p))) 2 (nI (U + 1)) (6 + u) ∧ Rg (upd (upd A (6 + U) (nI (nv f n p))) 2 (nI (U + 1)) (6 + u)) 1 99
          by_cases huU : u = U
          · subst huU
            rw [upd_s, upd_n _ _ _ _ (by omega), upd_s]
            exact ⟨rfl, _, rfl, v1, v2⟩
          · rw [upd_n _ _ _ _ huU, uA _ (by omega) (by omega)]
            exact d6 u (by omega)
        · have := d7 t ht
          rw [uA _ (by omega) (by omega), uA _ (by omega) (by omega), uA _ (by omega) (by omega), uA _ (by omega) (by omega)]
          obtain ⟨⟨x1, y, x2, x3⟩, ⟨x4, z, x5, x6⟩, x7, x8⟩ := this
          exact ⟨⟨x1, y, x2, by omega⟩, ⟨x4, z, x5, by omega⟩, x7, x8⟩
        · have := d8 p hp
          rw [uA _ (by omega) (by omega), uA _ (by omega) (by omega)]
          obtain ⟨⟨x1, y, x2, x3⟩, x4⟩ := this
          exact ⟨⟨x1, y, x2, by omega⟩, x4⟩
        · have := d9 m hm
          rw [uA _ (by omega) (by omega), uA _ (by omega) (by omega)]
          obtain ⟨⟨x1, y, x2, x3⟩, x4⟩ := this
          exact ⟨⟨x1, y, x2, by omega⟩, x4⟩
    · obtain ⟨n3, n4⟩ := ea_bad (a := a) hw3
      rw [n3] at ea2
      rw [n4] at eb2
      subst ea2 eb2
      obtain ⟨xa, xs, xg, xv, m4⟩ := m4 hw3
      have eA : upd A (6 + U) (nI (nv f n p)) 2 = nI U := by rw [upd_n _ _ _ _ (by omega)]; exact d2
      refine Or.inr ⟨_, upd (upd A (6 + U) (nI (nv f n p))) 2 (nI (U + 1)), nq f n (nt f n p), nq f n (nt f n p) + 1, _, xa, xs, xg, xv, 1, by decide, by unfold nq; omega, rfl, ?_, ag⟩
      simp (decide := true) only [r_122, s_122_0, Option.bind_some, x_tlv, x_tln, if_true, if_false, m_wa_1, m_wa_s, m_wb_1, m_wb_2, m_wb_s, m_ws_1, m_ws_b, m_ws_s, m_ws_e, m_we_1, m_we_b, m_we_s, m_we_e, mf_0, mf_1, mf_2, mf_3, mf_4, mf_5, mf_6, mf_7, mf_8, mf_9, mf_10, mf_11, mf_12, mf_13, mf_14, mf_15, mf_16, mf_17, mf_18, mf_19, mf_20, mf_21, mf_22, mf_23, mf_24, mf_25, mf_26, mf_27, mf_28, mf_29, mf_30, mp_4, mp_7, mp_9, mp_10, mp_12, mp_14, mp_15, mp_16, mp_17, mp_18, mp_19, mp_20, mi_0, r2, d2, s_122_4, s_122_6, e6, s_122_19, x_a6, m1, s_122_30, s_122_33, m4, s_122_37, s_122_44, s_122_50, eA, s_122_53, nI_1, p2, s_122_56]
  · obtain ⟨n1, n2⟩ := na_bad (a := a) hw
    rw [n1, n2, (ea_keep hw).1] at ea2
    rw [n2, (ea_keep (a := a) hw).2] at eb2
    subst ea2 eb2
    obtain ⟨xa, xs, xg, xv, m2⟩ := m2 hw
    refine Or.inr ⟨_, upd A 2 (nI (U + 1)), nq f n p, nq f n (nt f n p) + 1, _, xa, xs, xg, xv, _, hw, by unfold nq; omega, rfl, ?_, ag⟩
    simp (decide := true) only [r_122, s_122_0, Option.bind_some, x_tlv, x_tln, if_true, if_false, m_wa_1, m_wa_s, m_wb_1, m_wb_2, m_wb_s, m_ws_1, m_ws_b, m_ws_s, m_ws_e, m_we_1, m_we_b, m_we_s, m_we_e, mf_0, mf_1, mf_2, mf_3, mf_4, mf_5, mf_6, mf_7, mf_8, mf_9, mf_10, mf_11, mf_12, mf_13, mf_14, mf_15, mf_16, mf_17, mf_18, mf_19, mf_20, mf_21, mf_22, mf_23, mf_24, mf_25, mf_26, mf_27, mf_28, mf_29, mf_30, mp_4, mp_7, mp_9, mp_10, mp_12, mp_14, mp_15, mp_16, mp_17, mp_18, mp_19, mp_20, mi_0, r2, d2, s_122_4, s_122_6, e6, s_122_19, x_a6, m2, s_122_30, s_122_44, s_122_50, s_122_53, nI_1, p2, s_122_56]
