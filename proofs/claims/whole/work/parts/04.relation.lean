/-! THE SMALL MACHINE'S CELLS IN THE REAL HEAP -/
def x_v (ad : Nat → Nat) (v : Value) : Value := match v with
  | .ref q => .ref (ad q)
  | v => v
def x_e (cA : Nat → ClassId) (ad : Nat → Nat) (c : x_C) : va_E := match c with
  | .inl (t, a) => .inl (cA t, a)
  | .inr (ci, fs) => .inr (ci, fs.map (x_v ad))
def x_W (cA : Nat → ClassId) (ad : Nat → Nat) (h : x_H) : va_W := (List.range h.1).map (fun i => (ad i, x_e cA ad (h.2.2 i)))
def x_tys (cA : Nat → ClassId) : List (ClassId × FieldType) := [(cA 0, .int), (cA 1, .long), (cA 2, .boolean)]
def x_real (v : Value) : Bool := match v with
  | .retAddr _ => false
  | _ => true
def x_lv (ad : Nat → Nat) (ls : List Value) : List (Nat × Value) := (List.range ls.length).filterMap (fun i => (ls[i]?).bind (fun v => if x_real v = true then some (i, x_v ad v) else none))
def x_wv (n : Nat) (v : Value) : Prop := ∀ q, v = .ref q → q < n
def x_wl (n : Nat) (vs : List Value) : Prop := ∀ v ∈ vs, x_wv n v
def x_wh (h : x_H) : Prop := ∀ i, i < h.1 → ∀ ci fs, h.2.2 i = .inr (ci, fs) → x_wl h.1 fs
theorem x_v_int (ad : Nat → Nat) (x : Int32) : x_v ad (.int x) = .int x := rfl
theorem x_v_long (ad : Nat → Nat) (x : Int64) : x_v ad (.long x) = .long x := rfl
theorem x_v_ref (ad : Nat → Nat) (q : Nat) : x_v ad (.ref q) = .ref (ad q) := rfl
theorem x_wv_int (n : Nat) (x : Int32) : x_wv n (.int x) := fun q h => by cases h
theorem x_wv_long (n : Nat) (x : Int64) : x_wv n (.long x) := fun q h => by cases h
theorem x_wv_j (n : Nat) : x_wv n x_j := fun q h => by cases h
theorem x_wl_cons {n : Nat} {v : Value} {vs : List Value} : x_wl n (v :: vs) ↔ x_wv n v ∧ x_wl n vs := by simp [x_wl]
theorem x_wl_nil {n : Nat} : x_wl n [] := by simp [x_wl]
theorem x_wl_app {n : Nat} {a b : List Value} (ha : x_wl n a) (hb : x_wl n b) : x_wl n (a ++ b) := fun v hv => (List.mem_append.mp hv).elim (ha v) (hb v)
theorem x_wv_le {n m : Nat} (h : n ≤ m) {v : Value} (hv : x_wv n v) : x_wv m v := fun q e => Nat.lt_of_lt_of_le (hv q e) h
theorem x_wl_le {n m : Nat} (h : n ≤ m) {vs : List Value} (hv : x_wl n vs) : x_wl m vs := fun v hm => x_wv_le h (hv v hm)
theorem x_wl_set {n : Nat} {vs : List Value} {i : Nat} {v : Value} (h : x_wl n vs) (hv : x_wv n v) : x_wl n (vs.set i v) := fun w hw => by
  rcases List.mem_or_eq_of_mem_set hw with h1 | h1
  · exact h w h1
  · rw [h1]; exact hv
theorem x_wl_kill {n : Nat} {vs : List Value} {i : Nat} (h : x_wl n vs) : x_wl n (x_kill vs i) := by
  unfold x_kill
  split
  · exact h
  · split
    · exact x_wl_set h (x_wv_j n)
    · exact x_wl_set h (x_wv_j n)
    · exact h
theorem x_wl_get {n : Nat} {vs : List Value} {i : Nat} {v : Value} (h : x_wl n vs) (hi : vs[i]? = some v) : x_wv n v := h v (List.mem_of_getElem? hi)
theorem x_v_ext {ad ad' : Nat → Nat} {n : Nat} {v : Value} (hv : x_wv n v) (he : ∀ i, i < n → ad' i = ad i) : x_v ad' v = x_v ad v := by
  cases v <;> try rfl
  show Value.ref _ = Value.ref _
  rw [he _ (hv _ rfl)]
theorem x_vl_ext {ad ad' : Nat → Nat} {n : Nat} {vs : List Value} (hv : x_wl n vs) (he : ∀ i, i < n → ad' i = ad i) : vs.map (x_v ad') = vs.map (x_v ad) := List.map_congr_left fun v hm => x_v_ext (hv v hm) he
theorem x_kill_len (vs : List Value) (i : Nat) : (x_kill vs i).length = vs.length := by
  unfold x_kill
  split
  · rfl
  · split <;> simp
theorem x_st1_len (vs : List Value) (i : Nat) (v : Value) : (x_st1 vs i v).length = vs.length := by simp [x_st1, x_kill_len]
theorem x_st2_len (vs : List Value) (i : Nat) (v : Value) : (x_st2 vs i v).length = vs.length := by simp [x_st2, x_kill_len]
theorem x_wl_st1 {n : Nat} {vs : List Value} {i : Nat} {v : Value} (h : x_wl n vs) (hv : x_wv n v) : x_wl n (x_st1 vs i v) := x_wl_set (x_wl_kill h) hv
theorem x_wl_st2 {n : Nat} {vs : List Value} {i : Nat} {v : Value} (h : x_wl n vs) (hv : x_wv n v) : x_wl n (x_st2 vs i v) := x_wl_set (x_wl_set (x_wl_kill h) hv) (x_wv_j n)
theorem x_v_cat (ad : Nat → Nat) (v : Value) : (x_v ad v).category = v.category := by cases v <;> rfl
/-! the heap as a world of cells -/
theorem x_get_lt {h : x_H} {q : Nat} {c : x_C} (hg : x_get h q = some c) : q < h.1 ∧ h.2.2 q = c := by
  unfold x_get at hg
  split at hg
  · exact ⟨by assumption, Option.some.inj hg⟩
  · cases hg
theorem x_W_at {cA : Nat → ClassId} {ad : Nat → Nat} {h : x_H} {q : Nat} (hq : q < h.1) : (x_W cA ad h)[q]? = some (ad q, x_e cA ad (h.2.2 q)) := by simp [x_W, hq]
theorem x_W_get {cA : Nat → ClassId} {ad : Nat → Nat} {h : x_H} {q : Nat} {c : x_C} (hg : x_get h q = some c) : (x_W cA ad h)[q]? = some (ad q, x_e cA ad c) := by
  obtain ⟨h1, h2⟩ := x_get_lt hg
  rw [x_W_at h1, h2]
theorem x_W_len (cA : Nat → ClassId) (ad : Nat → Nat) (h : x_H) : (x_W cA ad h).length = h.1 := by simp [x_W]
theorem x_W_set {cA : Nat → ClassId} {ad : Nat → Nat} {h : x_H} {q : Nat} {c : x_C} : (x_W cA ad h).set q (ad q, x_e cA ad c) = x_W cA ad (x_set h q c) := by
  apply List.ext_getElem?
  intro i
  rw [List.getElem?_set]
  by_cases hi : q = i
  · subst hi
    rw [if_pos rfl]
    by_cases hl : q < h.1
    · rw [x_W_len, if_pos hl, x_W_at (h := x_set h q c) hl]
      simp [x_set]
    · rw [x_W_len, if_neg hl]
      exact (List.getElem?_eq_none (by rw [x_W_len]; exact Nat.not_lt.mp hl)).symm
  · rw [if_neg hi]
    by_cases hl : i < h.1
    · rw [x_W_at hl, x_W_at (h := x_set h q c) hl]
      simp [x_set, show i ≠ q from fun z => hi z.symm]
    · rw [List.getElem?_eq_none (by rw [x_W_len]; exact Nat.not_lt.mp hl), List.getElem?_eq_none (by rw [x_W_len]; exact Nat.not_lt.mp hl)]
theorem x_e_ext {cA : Nat → ClassId} {ad ad' : Nat → Nat} {n : Nat} {c : x_C} (hw : ∀ ci fs, c = .inr (ci, fs) → x_wl n fs) (he : ∀ i, i < n → ad' i = ad i) : x_e cA ad' c = x_e cA ad c := by
  match c, hw with
  | .inl _, _ => rfl
  | .inr (ci, fs), hw =>
    show Sum.inr _ = Sum.inr _
    rw [x_vl_ext (hw ci fs rfl) he]
theorem x_W_ext {cA : Nat → ClassId} {ad ad' : Nat → Nat} {h : x_H} (hw : x_wh h) (he : ∀ i, i < h.1 → ad' i = ad i) : x_W cA ad' h = x_W cA ad h := by
  unfold x_W
  apply List.map_congr_left
  intro i hi
  have hl := List.mem_range.mp hi
  show (_, _) = (_, _)
  rw [he i hl, x_e_ext (fun ci fs e => hw i hl ci fs e) he]
theorem x_W_push {cA : Nat → ClassId} {ad : Nat → Nat} {h : x_H} {w q : Nat} {c : x_C} (hw : x_wh h) : x_W cA (va_up ad h.1 q) (x_new h w c) = x_W cA ad h ++ [(q, x_e cA (va_up ad h.1 q) c)] := by
  have he : ∀ i, i < h.1 → va_up ad h.1 q i = ad i := fun i hi => if_neg (Nat.ne_of_lt hi)
  rw [← x_W_ext hw he]
  unfold x_W
  show (List.range (h.1 + 1)).map _ = _
  rw [List.range_succ, List.map_append]
  congr 1
  · apply List.map_congr_left
    intro i hi
    have hl := List.mem_range.mp hi
    show (_, _) = (_, _)
    simp [x_new, Nat.ne_of_lt hl]
  · simp [x_new, va_up]
theorem x_wh_set {h : x_H} {q : Nat} {c : x_C} (hw : x_wh h) (hc : ∀ ci fs, c = .inr (ci, fs) → x_wl h.1 fs) : x_wh (x_set h q c) := by
  intro i hi ci fs e
  show x_wl h.1 fs
  by_cases hq : i = q
  · exact hc ci fs (by simpa [x_set, hq] using e)
  · exact hw i hi ci fs (by simpa [x_set, hq] using e)
theorem x_wh_new {h : x_H} {w : Nat} {c : x_C} (hw : x_wh h) (hc : ∀ ci fs, c = .inr (ci, fs) → x_wl (h.1 + 1) fs) : x_wh (x_new h w c) := by
  intro i hi ci fs e
  show x_wl (h.1 + 1) fs
  by_cases hq : i = h.1
  · exact hc ci fs (by simpa [x_new, hq] using e)
  · exact x_wl_le (Nat.le_succ _) (hw i (by have : i < h.1 + 1 := hi; omega) ci fs (by simpa [x_new, hq] using e))
/-! the locals -/
theorem x_lv_mem {ad : Nat → Nat} {ls : List Value} {j : Nat} {u : Value} : (j, u) ∈ x_lv ad ls ↔ ∃ v, ls[j]? = some v ∧ x_real v = true ∧ u = x_v ad v := by
  unfold x_lv
  rw [List.mem_filterMap]
  constructor
  · rintro ⟨i, -, hi⟩
    obtain ⟨v, h1, h2⟩ := Option.bind_eq_some_iff.mp hi
    split at h2
    · cases h2; exact ⟨v, h1, by assumption, rfl⟩
    · cases h2
  · rintro ⟨v, h1, h2, rfl⟩
    exact ⟨j, List.mem_range.mpr (List.getElem?_eq_some_iff.mp h1).1, by simp [h1, h2]⟩
theorem x_lv_at {ad : Nat → Nat} {ls : List Value} {LS : Array Slot} {nL i : Nat} {v : Value} (h : lv_has LS nL (x_lv ad ls)) (hi : ls[i]? = some v) (hr : x_real v = true) : LS[i]? = some (.val (x_v ad v)) := h.2.2 _ (x_lv_mem.mpr ⟨v, hi, hr, rfl⟩)
theorem x_lv_sub {LS : Array Slot} {nL : Nat} {l l' : List (Nat × Value)} (h : lv_has LS nL l) (hs : ∀ q ∈ l', q ∈ l) : lv_has LS nL l' := ⟨h.1, h.2.1, fun q hq => h.2.2 q (hs q hq)⟩
theorem x_kill_at {ls : List Value} {i j : Nat} {v : Value} (h : (x_kill ls i)[j]? = some v) (hr : x_real v = true) : ls[j]? = some v ∧ (j + 1 = i → v.category ≠ 2) := by
  unfold x_kill at h
  split at h
  · exact ⟨h, fun z => by omega⟩
  · rename_i i'
    split at h
    · rw [List.getElem?_set] at h
      split at h
      · split at h
        · cases h; cases hr
        · cases h
      · rename_i hn _
        exact ⟨h, fun z => by omega⟩
    · rw [List.getElem?_set] at h
      split at h
      · split at h
        · cases h; cases hr
        · cases h
      · rename_i hn _
        exact ⟨h, fun z => by omega⟩
    · rename_i h1 h2
      refine ⟨h, fun z hc => ?_⟩
      have hj : j = i' := by omega
      subst hj
      cases v with
      | long x => exact h1 _ h
      | double x => exact h2 _ h
      | _ => cases hc
theorem x_lv_st1 {ad : Nat → Nat} {ls : List Value} {i : Nat} {w : Value} : ∀ q ∈ x_lv ad (x_st1 ls i w), q ∈ (i, x_v ad w) :: (x_lv ad ls).filter (fun q => !(q.1 == i) && !(q.1 + 1 == i && q.2.category == 2)) := by
  intro ⟨j, u⟩ hq
  obtain ⟨v, h1, h2, rfl⟩ := x_lv_mem.mp hq
  unfold x_st1 at h1
  rw [List.getElem?_set] at h1
  split at h1
  · rename_i hij
    subst hij
    split at h1
    · cases h1; exact List.mem_cons_self
    · cases h1
  · rename_i hij
    obtain ⟨g1, g2⟩ := x_kill_at h1 h2
    refine List.mem_cons_of_mem _ (List.mem_filter.mpr ⟨x_lv_mem.mpr ⟨v, g1, h2, rfl⟩, ?_⟩)
    simp only [Bool.and_eq_true, Bool.not_eq_true', beq_eq_false_iff_ne, ne_eq, Bool.and_eq_false_iff, x_v_cat]
    refine ⟨fun z => hij z.symm, ?_⟩
    by_cases hz : j + 1 = i
    · exact Or.inr (g2 hz)
    · exact Or.inl hz
theorem x_lv_st2 {ad : Nat → Nat} {ls : List Value} {i : Nat} {w : Value} : ∀ q ∈ x_lv ad (x_st2 ls i w), q ∈ (i, x_v ad w) :: (x_lv ad ls).filter (fun q => !(q.1 == i) && (!(q.1 == i + 1) && !(q.1 + 1 == i && q.2.category == 2))) := by
  intro ⟨j, u⟩ hq
  obtain ⟨v, h1, h2, rfl⟩ := x_lv_mem.mp hq
  unfold x_st2 at h1
  rw [List.getElem?_set] at h1
  split at h1
  · split at h1
    · cases h1; cases h2
    · cases h1
  · rename_i hij1
    rw [List.getElem?_set] at h1
    split at h1
    · rename_i hij
      subst hij
      split at h1
      · cases h1; exact List.mem_cons_self
      · cases h1
    · rename_i hij
      obtain ⟨g1, g2⟩ := x_kill_at h1 h2
      refine List.mem_cons_of_mem _ (List.mem_filter.mpr ⟨x_lv_mem.mpr ⟨v, g1, h2, rfl⟩, ?_⟩)
      simp only [Bool.and_eq_true, Bool.not_eq_true', beq_eq_false_iff_ne, ne_eq, Bool.and_eq_false_iff, x_v_cat]
      refine ⟨fun z => hij z.symm, fun z => hij1 z.symm, ?_⟩
      by_cases hz : j + 1 = i
      · exact Or.inr (g2 hz)
      · exact Or.inl hz
theorem x_ex_len (ad : Nat → Nat) (as : List Value) : (lg_sl (as.map (x_v ad))).length = (x_ex as).length := by
  induction as with
  | nil => rfl
  | cons v vs ih =>
    by_cases hc : v.category = 2
    · simp [lg_sl, x_ex, x_v_cat, hc] at ih ⊢
      omega
    · simp [lg_sl, x_ex, x_v_cat, hc] at ih ⊢
      omega
theorem x_ex_at (ad : Nat → Nat) (as : List Value) : ∀ (o j : Nat) (v : Value), (x_ex as)[j]? = some v → x_real v = true → (o + j, x_v ad v) ∈ lv_args o (as.map (x_v ad)) := by
  induction as with
  | nil => intro o j v h; simp [x_ex] at h
  | cons a vs ih =>
    intro o j v h hr
    simp only [x_ex] at h
    by_cases hc : a.category = 2
    · rw [if_pos hc] at h
      simp only [List.map_cons, lv_args, x_v_cat, hc, if_true]
      match j, h with
      | 0, h => cases h; exact List.mem_cons_self
      | 1, h => cases h; cases hr
      | j + 2, h =>
        have := ih (o + 2) j v h hr
        rw [show o + (j + 2) = o + 2 + j by omega]
        exact List.mem_cons_of_mem _ this
    · rw [if_neg hc] at h
      simp only [List.map_cons, lv_args, x_v_cat, hc, if_false]
      match j, h with
      | 0, h => cases h; exact List.mem_cons_self
      | j + 1, h =>
        have := ih (o + 1) j v h hr
        rw [show o + (j + 1) = o + 1 + j by omega]
        exact List.mem_cons_of_mem _ this
theorem x_ent_at (ad : Nat → Nat) (as : List Value) (n : Nat) : ∀ q ∈ x_lv ad (x_ent as n), q ∈ lv_args 0 (as.map (x_v ad)) := by
  intro ⟨j, u⟩ hq
  obtain ⟨v, h1, h2, rfl⟩ := x_lv_mem.mp hq
  unfold x_ent at h1
  by_cases hj : j < (x_ex as).length
  · rw [List.getElem?_append_left hj] at h1
    have := x_ex_at ad as 0 j v h1 h2
    rwa [Nat.zero_add] at this
  · rw [List.getElem?_append_right (by omega)] at h1
    have := List.eq_of_mem_replicate (List.mem_of_getElem? h1)
    subst this
    cases h2
theorem x_ent_len (as : List Value) {n : Nat} (h : (x_ex as).length ≤ n) : (x_ent as n).length = n := by
  simp [x_ent]; omega
theorem x_wl_ex {n : Nat} {as : List Value} (h : x_wl n as) : x_wl n (x_ex as) := by
  induction as with
  | nil => exact x_wl_nil
  | cons v vs ih =>
    have h' := x_wl_cons.mp h
    simp only [x_ex]
    split
    · exact x_wl_cons.mpr ⟨h'.1, x_wl_cons.mpr ⟨x_wv_j n, ih h'.2⟩⟩
    · exact x_wl_cons.mpr ⟨h'.1, ih h'.2⟩
theorem x_wl_ent {n : Nat} {as : List Value} (h : x_wl n as) (m : Nat) : x_wl n (x_ent as m) := x_wl_app (x_wl_ex h) (fun v hv => by rw [List.eq_of_mem_replicate hv]; exact x_wv_j n)
