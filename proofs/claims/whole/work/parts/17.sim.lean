/-! WHAT IS SO ON BOTH SIDES -/
/-- the class's pieces, paid and waste, as a block of 14 -/
def n14 (σ : x_S) : Nat → Int32 := fun k => if k < 6 then σ.1 44 k else if k < 12 then σ.1 46 (k - 6) else if k = 12 then σ.2 42 2 else σ.2 42 3
def blk (P U : Nat) (f g : Nat → Int32) : Prop := (∀ p, p < P → f p = g p ∧ Rg (g p) 0 9999 ∧ f (6 + p) = g (6 + p) ∧ Rl (g (6 + p)) U) ∧ (f 12 = g 12 ∧ Rg (g 12) 0 999999) ∧ (f 13 = g 13 ∧ Rg (g 13) 0 999999) ∧ ∀ p, P ≤ p → p < 6 → g p = 0
def S_cnt (σ : x_S) (μ : x_U) (U T P N : Nat) : Prop := (U ≤ 6 ∧ T ≤ 8 ∧ P ≤ 6 ∧ N ≤ 6) ∧ (σ.2 4 0 = μ.1 1 0 ∧ (μ.1 1 0 = 0 ∨ μ.1 1 0 = 1)) ∧ (σ.2 4 1 = μ.1 1 1 ∧ Rg (μ.1 1 1) 0 99) ∧ (μ.1 1 2 = nI U ∧ σ.2 5 1 = nI U) ∧ (μ.1 1 3 = nI T ∧ σ.2 7 1 = nI T) ∧ (μ.1 1 4 = nI P ∧ σ.2 15 1 = nI P) ∧ (μ.1 1 5 = nI N ∧ σ.2 19 1 = nI N)
def S_use (σ : x_S) (μ : x_U) (U : Nat) : Prop := ∀ u, u < U → σ.1 6 u = μ.1 1 (6 + u) ∧ Rg (μ.1 1 (6 + u)) 1 99
def S_tab (σ : x_S) (μ : x_U) (U T : Nat) : Prop := ∀ t, t < T → (σ.1 8 t = μ.1 1 (12 + t) ∧ Rl (μ.1 1 (12 + t)) U) ∧ (σ.1 10 t = μ.1 1 (20 + t) ∧ Rl (μ.1 1 (20 + t)) U) ∧ (σ.1 12 t = μ.1 1 (28 + t) ∧ Rg (μ.1 1 (28 + t)) 1 20) ∧ (σ.1 14 t = μ.1 1 (36 + t) ∧ Rg (μ.1 1 (36 + t)) 1 20)
def S_pie (σ : x_S) (μ : x_U) (U P : Nat) : Prop := ∀ p, p < P → (σ.1 16 p = μ.1 1 (44 + p) ∧ Rl (μ.1 1 (44 + p)) U) ∧ (σ.1 18 p = μ.1 1 (50 + p) ∧ Rg (μ.1 1 (50 + p)) 1 40)
def S_wan (σ : x_S) (μ : x_U) (U N : Nat) : Prop := ∀ n, n < N → (σ.1 20 n = μ.1 1 (56 + n) ∧ Rl (μ.1 1 (56 + n)) U) ∧ (σ.1 22 n = μ.1 1 (62 + n) ∧ Rg (μ.1 1 (62 + n)) 1 20)
def S_now (σ : x_S) (μ : x_U) (U P : Nat) : Prop := σ.2 43 1 = nI P ∧ σ.2 45 1 = nI P ∧ blk P U (n14 σ) (μ.1 3)
def S_past (σ : x_S) (μ : x_U) (U P : Nat) : Prop := ∃ n x, n ≤ 20 ∧ x < 20 ∧ μ.2.2.1 4 = nI n ∧ σ.2 47 2 = nI n ∧ σ.2 47 1 = nI x ∧ ∀ k, k < n → blk P U (fun j => σ.1 49 (14 * ((x + 19 - k) % 20) + j)) (fun j => μ.1 4 (14 * (n - 1 - k) + j))
def S_img (σ : x_S) (μ : x_U) (U P : Nat) : Prop := (∃ m, m < 4 ∧ σ.2 0 12 = nI m ∧ ∀ i, i < 2 → (μ.1 6 i = 0 ∨ μ.1 6 i = 1) ∧ (m / 2 ^ i % 2 = 1 ↔ μ.1 6 i = 1)) ∧ ∀ i, i < 2 → μ.1 6 i = 1 → blk P U (fun j => σ.1 86 (15 * i + j)) (fun j => μ.1 5 (15 * i + j)) ∧ σ.1 86 (15 * i + 14) = μ.1 5 (15 * i + 14) ∧ Rg (μ.1 5 (15 * i + 14)) 0 2147483647
def S_left (σ : x_S) (μ : x_U) : Prop := ∃ n, n ≤ 6 ∧ μ.2.2.1 12 = nI n ∧ σ.2 51 1 = nI n ∧ σ.2 53 1 = nI n ∧ σ.2 55 1 = nI n ∧ ∀ k, k < n → σ.1 52 k = μ.1 8 (3 * k) ∧ σ.1 54 k = μ.1 8 (3 * k + 1) ∧ σ.1 56 k = μ.1 8 (3 * k + 2)
def S_book (σ : x_S) (μ : x_U) (P : Nat) : Prop := ∃ n, n ≤ 15 ∧ μ.2.2.1 14 = nI n ∧ σ.2 58 1 = nI n ∧ σ.2 60 1 = nI n ∧ ∀ k, k < n → (σ.1 59 k = μ.1 9 (2 * k) ∧ Rl (μ.1 9 (2 * k)) P) ∧ σ.1 61 k = μ.1 9 (2 * k + 1)
def S_text (σ : x_S) (μ : x_U) : Prop := ∃ n, n ≤ 240 ∧ μ.2.2.1 9 = nI n ∧ σ.2 2 1 = nI n ∧ ∀ k, k < n → σ.1 3 k = μ.1 7 k ∧ Rg (μ.1 7 k) 0 255
def S_misc (σ : x_S) (μ : x_U) : Prop := σ.2 1 1 = μ.2.2.1 10 ∧ ∃ s, s < 2 ^ 31 ∧ σ.2 0 13 = nI s ∧ μ.2.2.2 = lN s
def SIM (σ : x_S) (μ : x_U) : Prop := ∃ U T P N, S_cnt σ μ U T P N ∧ S_use σ μ U ∧ S_tab σ μ U T ∧ S_pie σ μ U P ∧ S_wan σ μ U N ∧ S_now σ μ U P ∧ S_past σ μ U P ∧ S_img σ μ U P ∧ S_left σ μ ∧ S_book σ μ P ∧ S_text σ μ ∧ S_misc σ μ
/-- the class's heap behind a call: as the cells are named again, it is that of a state -/
def x_eqv (h h2 : x_H) : Prop := (h.1 = h2.1 ∧ h.2.1 = h2.2.1) ∧ ∀ (D : va_G) (cA : Nat → ClassId) (ad : Nat → Nat) (H : Heap) (A : Nat → Prop), va_P D x_cl (x_W cA ad h) H → va_D A (x_W cA ad h) → ∃ ad', ad' 0 = ad 0 ∧ va_P D x_cl (x_W cA ad' h2) H ∧ va_D A (x_W cA ad' h2)
theorem x_eqv.rf (h : x_H) : x_eqv h h := ⟨⟨rfl, rfl⟩, fun _ _ ad _ _ hP hD => ⟨ad, rfl, hP, hD⟩⟩
/-- both sides answer alike, and stay alike -/
def Sim (mC mM : Nat) (as : List Value) : Prop := ∀ (σ : x_S) (μ : x_U), SIM σ μ → ∃ (v : Int32) (h' : x_H) (σ' : x_S) (μ' : x_U), x_R x_P 30 mC (.ref 0 :: as) (CG σ) = some (some (.int v), h') ∧ x_eqv h' (CG σ') ∧ x_R x_P 30 mM (.ref 0 :: as) (MG μ) = some (some (.int v), MG μ') ∧ SIM σ' μ'
/-- nothing changes -/
theorem Sim.same {mC mM : Nat} {as : List Value} (h : ∀ (σ : x_S) (μ : x_U), SIM σ μ → ∃ v, x_R x_P 30 mC (.ref 0 :: as) (CG σ) = some (some (.int v), CG σ) ∧ x_R x_P 30 mM (.ref 0 :: as) (MG μ) = some (some (.int v), MG μ)) : Sim mC mM as := fun σ μ hS => by
  obtain ⟨v, h1, h2⟩ := h σ μ hS
  exact ⟨v, _, σ, μ, h1, x_eqv.rf _, h2, hS⟩
theorem Sim.of {mC mM : Nat} {as : List Value} (h : ∀ (σ : x_S) (μ : x_U), SIM σ μ → ∃ v σ' μ', x_R x_P 30 mC (.ref 0 :: as) (CG σ) = some (some (.int v), CG σ') ∧ x_R x_P 30 mM (.ref 0 :: as) (MG μ) = some (some (.int v), MG μ') ∧ SIM σ' μ') : Sim mC mM as := fun σ μ hS => by
  obtain ⟨v, σ', μ', h1, h2, h3⟩ := h σ μ hS
  exact ⟨v, _, σ', μ', h1, x_eqv.rf _, h2, h3⟩
