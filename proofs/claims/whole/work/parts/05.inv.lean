/-! what an action says of what was there -/
section XINV
variable {i len pc : Nat} {ls st : List Value} {h : x_H} {k : x_K}
theorem x_go_inv (ha : x_go pc ls st h = some (.inl k)) : k = (pc, ls, st, h) := by cases ha; rfl
theorem x_ldi_inv (ha : x_ldi i len pc ls st h = some (.inl k)) : ∃ x, ls[i]? = some (.int x) ∧ k = (pc + len, ls, .int x :: st, h) := by
  unfold x_ldi at ha
  split at ha
  · exact ⟨_, by assumption, x_go_inv ha⟩
  · cases ha
theorem x_lda_inv (ha : x_lda i len pc ls st h = some (.inl k)) : ∃ x, ls[i]? = some (.ref x) ∧ k = (pc + len, ls, .ref x :: st, h) := by
  unfold x_lda at ha
  split at ha
  · exact ⟨_, by assumption, x_go_inv ha⟩
  · cases ha
theorem x_ldl_inv (ha : x_ldl i len pc ls st h = some (.inl k)) : ∃ x, ls[i]? = some (.long x) ∧ k = (pc + len, ls, .long x :: st, h) := by
  unfold x_ldl at ha
  split at ha
  · exact ⟨_, by assumption, x_go_inv ha⟩
  · cases ha
theorem x_sti_inv (ha : x_sti i len pc ls st h = some (.inl k)) : ∃ x st', st = .int x :: st' ∧ i < ls.length ∧ k = (pc + len, x_st1 ls i (.int x), st', h) := by
  unfold x_sti at ha
  split at ha
  · split at ha
    · exact ⟨_, _, rfl, by assumption, x_go_inv ha⟩
    · cases ha
  · cases ha
theorem x_sta_inv (ha : x_sta i len pc ls st h = some (.inl k)) : ∃ x st', st = .ref x :: st' ∧ i < ls.length ∧ k = (pc + len, x_st1 ls i (.ref x), st', h) := by
  unfold x_sta at ha
  split at ha
  · split at ha
    · exact ⟨_, _, rfl, by assumption, x_go_inv ha⟩
    · cases ha
  · cases ha
theorem x_stl_inv (ha : x_stl i len pc ls st h = some (.inl k)) : ∃ x st', st = .long x :: st' ∧ i + 1 < ls.length ∧ k = (pc + len, x_st2 ls i (.long x), st', h) := by
  unfold x_stl at ha
  split at ha
  · split at ha
    · exact ⟨_, _, rfl, by assumption, x_go_inv ha⟩
    · cases ha
  · cases ha
theorem x_ii_inv {f : Int32 → Int32 → Int32} (ha : x_ii f len pc ls st h = some (.inl k)) : ∃ x y st', st = .int y :: .int x :: st' ∧ k = (pc + len, ls, .int (f x y) :: st', h) := by
  unfold x_ii at ha
  split at ha
  · exact ⟨_, _, _, rfl, x_go_inv ha⟩
  · cases ha
theorem x_ll_inv {f : Int64 → Int64 → Int64} (ha : x_ll f len pc ls st h = some (.inl k)) : ∃ x y st', st = .long y :: .long x :: st' ∧ k = (pc + len, ls, .long (f x y) :: st', h) := by
  unfold x_ll at ha
  split at ha
  · exact ⟨_, _, _, rfl, x_go_inv ha⟩
  · cases ha
theorem x_grd_inv {c : Prop} [Decidable c] {a : Option x_A} (ha : (if c then a else none) = some (.inl k)) : c ∧ a = some (.inl k) := by
  split at ha
  · exact ⟨by assumption, ha⟩
  · cases ha
theorem x_map_inv {α : Type} {o : Option α} {f : α → x_A} (ha : o.map f = some (.inl k)) : ∃ x, o = some x ∧ f x = .inl k := Option.map_eq_some_iff.mp ha
theorem x_st_inv {f : Int32 → Int32 → List Value → Option x_A} (ha : (match st with | .int y :: .int x :: st => f x y st | _ => none) = some (.inl k)) : ∃ x y st', st = .int y :: .int x :: st' ∧ f x y st' = some (.inl k) := by
  split at ha
  · exact ⟨_, _, _, rfl, ha⟩
  · cases ha
theorem x_stl_inv2 {f : Int64 → Int64 → List Value → Option x_A} (ha : (match st with | .long y :: .long x :: st => f x y st | _ => none) = some (.inl k)) : ∃ x y st', st = .long y :: .long x :: st' ∧ f x y st' = some (.inl k) := by
  split at ha
  · exact ⟨_, _, _, rfl, ha⟩
  · cases ha
theorem x_i_inv {f : Int32 → List Value → Option x_A} (ha : (match st with | .int x :: st => f x st | _ => none) = some (.inl k)) : ∃ x st', st = .int x :: st' ∧ f x st' = some (.inl k) := by
  split at ha
  · exact ⟨_, _, rfl, ha⟩
  · cases ha
theorem x_l_inv {f : Int64 → List Value → Option x_A} (ha : (match st with | .long x :: st => f x st | _ => none) = some (.inl k)) : ∃ x st', st = .long x :: st' ∧ f x st' = some (.inl k) := by
  split at ha
  · exact ⟨_, _, rfl, ha⟩
  · cases ha
theorem x_a_inv {f : Nat → List Value → Option x_A} (ha : (match st with | .ref x :: st => f x st | _ => none) = some (.inl k)) : ∃ x st', st = .ref x :: st' ∧ f x st' = some (.inl k) := by
  split at ha
  · exact ⟨_, _, rfl, ha⟩
  · cases ha
theorem x_va_inv {f : Value → Nat → List Value → Option x_A} (ha : (match st with | v :: .ref q :: st => f v q st | _ => none) = some (.inl k)) : ∃ v q st', st = v :: .ref q :: st' ∧ f v q st' = some (.inl k) := by
  split at ha
  · exact ⟨_, _, _, rfl, ha⟩
  · cases ha
theorem x_ia_inv {f : Int32 → Nat → List Value → Option x_A} (ha : (match st with | .int v :: .ref q :: st => f v q st | _ => none) = some (.inl k)) : ∃ v q st', st = .int v :: .ref q :: st' ∧ f v q st' = some (.inl k) := by
  split at ha
  · exact ⟨_, _, _, rfl, ha⟩
  · cases ha
theorem x_iia_inv {f : Int32 → Int32 → Nat → List Value → Option x_A} (ha : (match st with | .int x :: .int i :: .ref q :: st => f x i q st | _ => none) = some (.inl k)) : ∃ x i q st', st = .int x :: .int i :: .ref q :: st' ∧ f x i q st' = some (.inl k) := by
  split at ha
  · exact ⟨_, _, _, _, rfl, ha⟩
  · cases ha
theorem x_lia_inv {f : Int64 → Int32 → Nat → List Value → Option x_A} (ha : (match st with | .long x :: .int i :: .ref q :: st => f x i q st | _ => none) = some (.inl k)) : ∃ x i q st', st = .long x :: .int i :: .ref q :: st' ∧ f x i q st' = some (.inl k) := by
  split at ha
  · exact ⟨_, _, _, _, rfl, ha⟩
  · cases ha
end XINV
theorem x_fld_inv {h : x_H} {q ci k : Nat} {v : Value} (e : x_fld h q ci k = some v) : ∃ fs, x_get h q = some (.inr (ci, fs)) ∧ fs[k]? = some v := by
  unfold x_fld at e
  split at e
  · split at e
    · rename_i hc; subst hc; exact ⟨_, by assumption, e⟩
    · cases e
  · cases e
theorem x_pfd_inv {h h' : x_H} {q ci k : Nat} {v : Value} (e : x_pfd h q ci k v = some h') : ∃ fs, x_get h q = some (.inr (ci, fs)) ∧ k < fs.length ∧ h' = x_set h q (.inr (ci, fs.set k v)) := by
  unfold x_pfd at e
  split at e
  · split at e
    · rename_i hc; obtain ⟨hc, hk⟩ := hc; subst hc; cases e; exact ⟨_, by assumption, hk, rfl⟩
    · cases e
  · cases e
theorem x_inb_in {i : Int32} {n : Nat} (e : x_inb i n = true) : vp_in i n := by
  simp only [x_inb, Bool.and_eq_true, decide_eq_true_eq] at e
  rintro (h | h)
  · exact e.1 h
  · omega
theorem x_ild_inv {h : x_H} {q t : Nat} {i v : Int32} (e : x_ild h q t i = some v) : ∃ n f, x_get h q = some (.inl (t, n, .inl f)) ∧ vp_in i n ∧ v = f i.toNatClampNeg := by
  unfold x_ild at e
  split at e
  · split at e
    · rename_i hc; obtain ⟨hc, hk⟩ := hc; subst hc; cases e; exact ⟨_, _, by assumption, x_inb_in hk, rfl⟩
    · cases e
  · cases e
theorem x_ist_inv {h h' : x_H} {q t : Nat} {i v : Int32} (e : x_ist h q t i v = some h') : ∃ n f, x_get h q = some (.inl (t, n, .inl f)) ∧ vp_in i n ∧ h' = x_set h q (.inl (t, n, .inl (upd f i.toNatClampNeg v))) := by
  unfold x_ist at e
  split at e
  · split at e
    · rename_i hc; obtain ⟨hc, hk⟩ := hc; subst hc; cases e; exact ⟨_, _, by assumption, x_inb_in hk, rfl⟩
    · cases e
  · cases e
theorem x_lld_inv {h : x_H} {q : Nat} {i : Int32} {v : Int64} (e : x_lld h q i = some v) : ∃ n f, x_get h q = some (.inl (1, n, .inr (.inl f))) ∧ vp_in i n ∧ v = f i.toNatClampNeg := by
  unfold x_lld at e
  split at e
  · split at e
    · rename_i hc; obtain ⟨hc, hk⟩ := hc; subst hc; cases e; exact ⟨_, _, by assumption, x_inb_in hk, rfl⟩
    · cases e
  · cases e
theorem x_lst_inv {h h' : x_H} {q : Nat} {i : Int32} {v : Int64} (e : x_lst h q i v = some h') : ∃ n f, x_get h q = some (.inl (1, n, .inr (.inl f))) ∧ vp_in i n ∧ h' = x_set h q (.inl (1, n, .inr (.inl (vp_updL f i.toNatClampNeg v)))) := by
  unfold x_lst at e
  split at e
  · split at e
    · rename_i hc; obtain ⟨hc, hk⟩ := hc; subst hc; cases e; exact ⟨_, _, by assumption, x_inb_in hk, rfl⟩
    · cases e
  · cases e
theorem x_len_inv {h : x_H} {q n : Nat} (e : x_len h q = some n) : ∃ t f, t < 3 ∧ x_get h q = some (.inl (t, n, f)) := by
  unfold x_len at e
  split at e
  · split at e
    · cases e; exact ⟨_, _, by assumption, by assumption⟩
    · cases e
  · cases e
theorem x_isa_inv {h : x_H} {q ci : Nat} (e : x_isa h q ci = true) : ∃ fs, x_get h q = some (.inr (ci, fs)) := by
  unfold x_isa at e
  split at e
  · have := Nat.eq_of_beq_eq_true e; subst this; exact ⟨_, by assumption⟩
  · cases e
/-- what stays behind an action: no dangling reference, no cell lost -/
def x_Kp (h : x_H) (ls : List Value) (k : x_K) : Prop := x_wl k.2.2.2.1 k.2.1 ∧ x_wl k.2.2.2.1 k.2.2.1 ∧ x_wh k.2.2.2 ∧ h.1 ≤ k.2.2.2.1 ∧ h.2.1 ≤ k.2.2.2.2.1 ∧ k.2.1.length = ls.length
theorem x_Kp.of {h : x_H} {ls st : List Value} {pc : Nat} (hl : x_wl h.1 ls) (hs : x_wl h.1 st) (hw : x_wh h) : x_Kp h ls (pc, ls, st, h) := ⟨hl, hs, hw, Nat.le_refl _, Nat.le_refl _, rfl⟩
theorem x_Kp.loc {h : x_H} {ls ls' st : List Value} {pc : Nat} (hl : x_wl h.1 ls') (hs : x_wl h.1 st) (hw : x_wh h) (e : ls'.length = ls.length) : x_Kp h ls (pc, ls', st, h) := ⟨hl, hs, hw, Nat.le_refl _, Nat.le_refl _, e⟩
theorem x_Kp.set {h : x_H} {ls st : List Value} {pc q : Nat} {c : x_C} (hl : x_wl h.1 ls) (hs : x_wl h.1 st) (hw : x_wh h) (hc : ∀ ci fs, c = .inr (ci, fs) → x_wl h.1 fs) : x_Kp h ls (pc, ls, st, x_set h q c) := ⟨hl, hs, x_wh_set hw hc, Nat.le_refl _, Nat.le_refl _, rfl⟩
theorem x_Kp.new {h : x_H} {ls st : List Value} {pc w : Nat} {c : x_C} (hl : x_wl h.1 ls) (hs : x_wl h.1 st) (hw : x_wh h) (hc : ∀ ci fs, c = .inr (ci, fs) → x_wl (h.1 + 1) fs) : x_Kp h ls (pc, ls, .ref h.1 :: st, x_new h w c) :=
  ⟨x_wl_le (Nat.le_succ _) hl, x_wl_cons.mpr ⟨fun q e => by cases e; exact Nat.lt_succ_self _, x_wl_le (Nat.le_succ _) hs⟩, x_wh_new hw hc, Nat.le_succ _, Nat.le_add_right _ _, rfl⟩
theorem x_wl_def (n ci N : Nat) : x_wl n ((List.range N).map (fun k => defaultValue (x_ty ci k))) := by
  intro v hv q e
  obtain ⟨k, -, hk⟩ := List.mem_map.mp hv
  subst e
  cases hz : x_ty ci k <;> rw [hz] at hk <;> cases hk
theorem x_act_kp {i : Instr} {len pc : Nat} {ls st : List Value} {h : x_H} {k : x_K} (ha : x_act i len pc ls st h = some (.inl k)) (hl : x_wl h.1 ls) (hs : x_wl h.1 st) (hw : x_wh h) : x_Kp h ls k := by
  have pi : ∀ x : Int32, x_wv h.1 (.int x) := x_wv_int _
  have pl : ∀ x : Int64, x_wv h.1 (.long x) := x_wv_long _
  cases i with
  | iconst n => cases x_go_inv ha; exact x_Kp.of hl (x_wl_cons.mpr ⟨pi _, hs⟩) hw
  | bipush n => cases x_go_inv ha; exact x_Kp.of hl (x_wl_cons.mpr ⟨pi _, hs⟩) hw
  | sipush n => cases x_go_inv ha; exact x_Kp.of hl (x_wl_cons.mpr ⟨pi _, hs⟩) hw
  | jsr n => cases x_go_inv ha; exact x_Kp.of hl (x_wl_cons.mpr ⟨pi _, hs⟩) hw
  | jsr_w n => cases x_go_inv ha; exact x_Kp.of hl (x_wl_cons.mpr ⟨pi _, hs⟩) hw
  | lconst n => cases x_go_inv ha; exact x_Kp.of hl (x_wl_cons.mpr ⟨pl _, hs⟩) hw
  | goto_w n => cases x_go_inv ha; exact x_Kp.of hl (x_wl_cons.mpr ⟨pl _, hs⟩) hw
  | iload_n n => obtain ⟨x, e, rfl⟩ := x_ldi_inv ha; exact x_Kp.of hl (x_wl_cons.mpr ⟨pi _, hs⟩) hw
  | iload n => obtain ⟨x, e, rfl⟩ := x_ldi_inv ha; exact x_Kp.of hl (x_wl_cons.mpr ⟨pi _, hs⟩) hw
  | aload_n n => obtain ⟨x, e, rfl⟩ := x_lda_inv ha; exact x_Kp.of hl (x_wl_cons.mpr ⟨x_wl_get hl e, hs⟩) hw
  | aload n => obtain ⟨x, e, rfl⟩ := x_lda_inv ha; exact x_Kp.of hl (x_wl_cons.mpr ⟨x_wl_get hl e, hs⟩) hw
  | lload_n n => obtain ⟨x, e, rfl⟩ := x_ldl_inv ha; exact x_Kp.of hl (x_wl_cons.mpr ⟨pl _, hs⟩) hw
  | lload n => obtain ⟨x, e, rfl⟩ := x_ldl_inv ha; exact x_Kp.of hl (x_wl_cons.mpr ⟨pl _, hs⟩) hw
  | istore_n n => obtain ⟨x, st', rfl, e, rfl⟩ := x_sti_inv ha; exact x_Kp.loc (x_wl_st1 hl (pi _)) (x_wl_cons.mp hs).2 hw (x_st1_len _ _ _)
  | istore n => obtain ⟨x, st', rfl, e, rfl⟩ := x_sti_inv ha; exact x_Kp.loc (x_wl_st1 hl (pi _)) (x_wl_cons.mp hs).2 hw (x_st1_len _ _ _)
  | astore_n n => obtain ⟨x, st', rfl, e, rfl⟩ := x_sta_inv ha; exact x_Kp.loc (x_wl_st1 hl (x_wl_cons.mp hs).1) (x_wl_cons.mp hs).2 hw (x_st1_len _ _ _)
  | astore n => obtain ⟨x, st', rfl, e, rfl⟩ := x_sta_inv ha; exact x_Kp.loc (x_wl_st1 hl (x_wl_cons.mp hs).1) (x_wl_cons.mp hs).2 hw (x_st1_len _ _ _)
  | lstore n => obtain ⟨x, st', rfl, e, rfl⟩ := x_stl_inv ha; exact x_Kp.loc (x_wl_st2 hl (pl _)) (x_wl_cons.mp hs).2 hw (x_st2_len _ _ _)
  | lstore_n n => obtain ⟨x, st', rfl, e, rfl⟩ := x_stl_inv ha; exact x_Kp.loc (x_wl_st2 hl (pl _)) (x_wl_cons.mp hs).2 hw (x_st2_len _ _ _)
  | iinc n c =>
    replace ha : (match ls[n]? with | some (.int x) => x_go (pc + len) (x_st1 ls n (.int (x + Int32.ofInt c))) st h | _ => none) = some (.inl k) := ha
    split at ha
    · cases x_go_inv ha; exact x_Kp.loc (x_wl_st1 hl (pi _)) hs hw (x_st1_len _ _ _)
    · cases ha
  | dup =>
    replace ha : (match st with | .ref q :: st => x_go (pc + len) ls (.ref q :: .ref q :: st) h | .int x :: st => x_go (pc + len) ls (.int x :: .int x :: st) h | _ => none) = some (.inl k) := ha
    split at ha
    · cases x_go_inv ha; exact x_Kp.of hl (x_wl_cons.mpr ⟨(x_wl_cons.mp hs).1, hs⟩) hw
    · cases x_go_inv ha; exact x_Kp.of hl (x_wl_cons.mpr ⟨pi _, hs⟩) hw
    · cases ha
  | dup2 =>
    obtain ⟨v, q, st', rfl, e⟩ := x_ia_inv (f := fun v q st => x_go (pc + len) ls (.int v :: .ref q :: .int v :: .ref q :: st) h) ha
    cases x_go_inv e
    have h1 := x_wl_cons.mp hs
    exact x_Kp.of hl (x_wl_cons.mpr ⟨h1.1, x_wl_cons.mpr ⟨(x_wl_cons.mp h1.2).1, hs⟩⟩) hw
  | iadd => obtain ⟨x, y, st', rfl, rfl⟩ := x_ii_inv ha; exact x_Kp.of hl (x_wl_cons.mpr ⟨pi _, (x_wl_cons.mp (x_wl_cons.mp hs).2).2⟩) hw
  | isub => obtain ⟨x, y, st', rfl, rfl⟩ := x_ii_inv ha; exact x_Kp.of hl (x_wl_cons.mpr ⟨pi _, (x_wl_cons.mp (x_wl_cons.mp hs).2).2⟩) hw
  | imul => obtain ⟨x, y, st', rfl, rfl⟩ := x_ii_inv ha; exact x_Kp.of hl (x_wl_cons.mpr ⟨pi _, (x_wl_cons.mp (x_wl_cons.mp hs).2).2⟩) hw
  | iand => obtain ⟨x, y, st', rfl, rfl⟩ := x_ii_inv ha; exact x_Kp.of hl (x_wl_cons.mpr ⟨pi _, (x_wl_cons.mp (x_wl_cons.mp hs).2).2⟩) hw
  | ior => obtain ⟨x, y, st', rfl, rfl⟩ := x_ii_inv ha; exact x_Kp.of hl (x_wl_cons.mpr ⟨pi _, (x_wl_cons.mp (x_wl_cons.mp hs).2).2⟩) hw
  | ixor => obtain ⟨x, y, st', rfl, rfl⟩ := x_ii_inv ha; exact x_Kp.of hl (x_wl_cons.mpr ⟨pi _, (x_wl_cons.mp (x_wl_cons.mp hs).2).2⟩) hw
  | ishl => obtain ⟨x, y, st', rfl, rfl⟩ := x_ii_inv ha; exact x_Kp.of hl (x_wl_cons.mpr ⟨pi _, (x_wl_cons.mp (x_wl_cons.mp hs).2).2⟩) hw
  | ishr => obtain ⟨x, y, st', rfl, rfl⟩ := x_ii_inv ha; exact x_Kp.of hl (x_wl_cons.mpr ⟨pi _, (x_wl_cons.mp (x_wl_cons.mp hs).2).2⟩) hw
  | iushr => obtain ⟨x, y, st', rfl, rfl⟩ := x_ii_inv ha; exact x_Kp.of hl (x_wl_cons.mpr ⟨pi _, (x_wl_cons.mp (x_wl_cons.mp hs).2).2⟩) hw
  | pop =>
    obtain ⟨x, y, st', rfl, e⟩ := x_st_inv (f := fun x y st => if Nat.ble st.length 4 = true then x_go (pc + len) ls (.int (if x < y then y else x) :: st) h else none) ha
    cases x_go_inv (x_grd_inv e).2
    exact x_Kp.of hl (x_wl_cons.mpr ⟨pi _, (x_wl_cons.mp (x_wl_cons.mp hs).2).2⟩) hw
  | pop2 =>
    obtain ⟨x, y, st', rfl, e⟩ := x_st_inv (f := fun x y st => if Nat.ble st.length 4 = true then x_go (pc + len) ls (.int (if y < x then y else x) :: st) h else none) ha
    cases x_go_inv (x_grd_inv e).2
    exact x_Kp.of hl (x_wl_cons.mpr ⟨pi _, (x_wl_cons.mp (x_wl_cons.mp hs).2).2⟩) hw
  | idiv =>
    obtain ⟨x, y, st', rfl, e⟩ := x_st_inv (f := fun x y st => if ¬ y = 0 then x_go (pc + len) ls (.int (x / y) :: st) h else none) ha
    cases x_go_inv (x_grd_inv e).2
    exact x_Kp.of hl (x_wl_cons.mpr ⟨pi _, (x_wl_cons.mp (x_wl_cons.mp hs).2).2⟩) hw
  | irem =>
    obtain ⟨x, y, st', rfl, e⟩ := x_st_inv (f := fun x y st => if ¬ y = 0 then x_go (pc + len) ls (.int (x - x / y * y) :: st) h else none) ha
    cases x_go_inv (x_grd_inv e).2
    exact x_Kp.of hl (x_wl_cons.mpr ⟨pi _, (x_wl_cons.mp (x_wl_cons.mp hs).2).2⟩) hw
  | ladd => obtain ⟨x, y, st', rfl, rfl⟩ := x_ll_inv ha; exact x_Kp.of hl (x_wl_cons.mpr ⟨pl _, (x_wl_cons.mp (x_wl_cons.mp hs).2).2⟩) hw
  | lmul => obtain ⟨x, y, st', rfl, rfl⟩ := x_ll_inv ha; exact x_Kp.of hl (x_wl_cons.mpr ⟨pl _, (x_wl_cons.mp (x_wl_cons.mp hs).2).2⟩) hw
  | land => obtain ⟨x, y, st', rfl, rfl⟩ := x_ll_inv ha; exact x_Kp.of hl (x_wl_cons.mpr ⟨pl _, (x_wl_cons.mp (x_wl_cons.mp hs).2).2⟩) hw
  | ldiv =>
    obtain ⟨x, y, st', rfl, e⟩ := x_stl_inv2 (f := fun x y st => if ¬ y = 0 then x_go (pc + len) ls (.long (x / y) :: st) h else none) ha
    cases x_go_inv (x_grd_inv e).2
    exact x_Kp.of hl (x_wl_cons.mpr ⟨pl _, (x_wl_cons.mp (x_wl_cons.mp hs).2).2⟩) hw
  | lrem =>
    obtain ⟨x, y, st', rfl, e⟩ := x_stl_inv2 (f := fun x y st => if ¬ y = 0 then x_go (pc + len) ls (.long (x - x / y * y) :: st) h else none) ha
    cases x_go_inv (x_grd_inv e).2
    exact x_Kp.of hl (x_wl_cons.mpr ⟨pl _, (x_wl_cons.mp (x_wl_cons.mp hs).2).2⟩) hw
  | i2l =>
    obtain ⟨x, st', rfl, e⟩ := x_i_inv (f := fun x st => x_go (pc + len) ls (.long x.toInt64 :: st) h) ha
    cases x_go_inv e
    exact x_Kp.of hl (x_wl_cons.mpr ⟨pl _, (x_wl_cons.mp hs).2⟩) hw
  | l2i =>
    obtain ⟨x, st', rfl, e⟩ := x_l_inv (f := fun x st => x_go (pc + len) ls (.int x.toInt32 :: st) h) ha
    cases x_go_inv e
    exact x_Kp.of hl (x_wl_cons.mpr ⟨pi _, (x_wl_cons.mp hs).2⟩) hw
  | lcmp =>
    obtain ⟨x, y, st', rfl, e⟩ := x_stl_inv2 (f := fun x y st => x_go (pc + len) ls (.int (lg_cmp x y) :: st) h) ha
    cases x_go_inv e
    exact x_Kp.of hl (x_wl_cons.mpr ⟨pi _, (x_wl_cons.mp (x_wl_cons.mp hs).2).2⟩) hw
  | goto off => cases x_go_inv ha; exact x_Kp.of hl hs hw
  | ifCond c off =>
    match st, c, ha with
    | .int x :: st, .eq, ha => cases x_go_inv ha; exact x_Kp.of hl (x_wl_cons.mp hs).2 hw
    | .int x :: st, .ne, ha => cases x_go_inv ha; exact x_Kp.of hl (x_wl_cons.mp hs).2 hw
    | .int x :: st, .lt, ha => cases x_go_inv ha; exact x_Kp.of hl (x_wl_cons.mp hs).2 hw
    | .int x :: st, .ge, ha => cases x_go_inv ha; exact x_Kp.of hl (x_wl_cons.mp hs).2 hw
    | .int x :: st, .gt, ha => cases x_go_inv ha; exact x_Kp.of hl (x_wl_cons.mp hs).2 hw
    | .int x :: st, .le, ha => cases x_go_inv ha; exact x_Kp.of hl (x_wl_cons.mp hs).2 hw
  | if_icmp c off =>
    match st, c, ha with
    | .int y :: .int x :: st, .eq, ha => cases x_go_inv ha; exact x_Kp.of hl (x_wl_cons.mp (x_wl_cons.mp hs).2).2 hw
    | .int y :: .int x :: st, .ne, ha => cases x_go_inv ha; exact x_Kp.of hl (x_wl_cons.mp (x_wl_cons.mp hs).2).2 hw
    | .int y :: .int x :: st, .lt, ha => cases x_go_inv ha; exact x_Kp.of hl (x_wl_cons.mp (x_wl_cons.mp hs).2).2 hw
    | .int y :: .int x :: st, .ge, ha => cases x_go_inv ha; exact x_Kp.of hl (x_wl_cons.mp (x_wl_cons.mp hs).2).2 hw
    | .int y :: .int x :: st, .gt, ha => cases x_go_inv ha; exact x_Kp.of hl (x_wl_cons.mp (x_wl_cons.mp hs).2).2 hw
    | .int y :: .int x :: st, .le, ha => cases x_go_inv ha; exact x_Kp.of hl (x_wl_cons.mp (x_wl_cons.mp hs).2).2 hw
  | tableswitch dflt lo hi offs =>
    obtain ⟨x, st', rfl, e⟩ := x_i_inv (f := fun x st => if x.toInt < lo ∨ hi < x.toInt then x_go (x_tg pc dflt) ls st h else match offs[(x.toInt - lo).toNat]? with
      | some off => x_go (x_tg pc off) ls st h
      | none => none) ha
    split at e
    · cases x_go_inv e; exact x_Kp.of hl (x_wl_cons.mp hs).2 hw
    · split at e
      · cases x_go_inv e; exact x_Kp.of hl (x_wl_cons.mp hs).2 hw
      · cases e
  | lookupswitch dflt ps =>
    obtain ⟨x, st', rfl, e⟩ := x_i_inv (f := fun x st => x_go (x_tg pc (Op.lookupswitch.offset ps.toList dflt x.toInt)) ls st h) ha
    cases x_go_inv e; exact x_Kp.of hl (x_wl_cons.mp hs).2 hw
  | ireturn =>
    unfold x_act at ha
    dsimp only at ha
    split at ha <;> cases ha
  | areturn =>
    unfold x_act at ha
    dsimp only at ha
    split at ha
    · split at ha <;> cases ha
    · cases ha
  | return_ =>
    unfold x_act at ha
    dsimp only at ha
    split at ha <;> cases ha
  | getfield z =>
    obtain ⟨q, st', rfl, e⟩ := x_a_inv (f := fun q st => (x_fld h q (z / 64) (z % 64)).map (fun v => .inl (pc + len, ls, v :: st, h))) ha
    obtain ⟨v, e1, e2⟩ := x_map_inv e
    cases e2
    obtain ⟨fs, g1, g2⟩ := x_fld_inv e1
    obtain ⟨l1, l2⟩ := x_get_lt g1
    exact x_Kp.of hl (x_wl_cons.mpr ⟨x_wl_get (hw q l1 _ _ l2) g2, (x_wl_cons.mp hs).2⟩) hw
  | putfield z =>
    obtain ⟨v, q, st', rfl, e⟩ := x_va_inv (f := fun v q st => if x_fok (x_ty (z / 64) (z % 64)) v = true then (x_pfd h q (z / 64) (z % 64) v).map (fun h' => .inl (pc + len, ls, st, h')) else none) ha
    obtain ⟨h', e1, e2⟩ := x_map_inv (x_grd_inv e).2
    cases e2
    obtain ⟨fs, g1, g2, rfl⟩ := x_pfd_inv e1
    obtain ⟨l1, l2⟩ := x_get_lt g1
    have h1 := x_wl_cons.mp hs
    exact x_Kp.set hl (x_wl_cons.mp h1.2).2 hw (fun ci fs' e => by cases e; exact x_wl_set (hw q l1 _ _ l2) h1.1)
  | putstatic z =>
    obtain ⟨v, q, st', rfl, e⟩ := x_va_inv (f := fun v q st => if x_fok (x_ty (z / 64) (z % 64)) v = true then (x_pfd h q (z / 64) (z % 64) v).map (fun h' => .inl (pc + len, ls, st, h')) else none) ha
    obtain ⟨h', e1, e2⟩ := x_map_inv (x_grd_inv e).2
    cases e2
    obtain ⟨fs, g1, g2, rfl⟩ := x_pfd_inv e1
    obtain ⟨l1, l2⟩ := x_get_lt g1
    have h1 := x_wl_cons.mp hs
    exact x_Kp.set hl (x_wl_cons.mp h1.2).2 hw (fun ci fs' e => by cases e; exact x_wl_set (hw q l1 _ _ l2) h1.1)
  | iaload =>
    obtain ⟨v, q, st', rfl, e⟩ := x_ia_inv (f := fun i q st => (x_ild h q 0 i).map (fun x => .inl (pc + len, ls, .int x :: st, h))) ha
    obtain ⟨x, e1, e2⟩ := x_map_inv e
    cases e2
    exact x_Kp.of hl (x_wl_cons.mpr ⟨pi _, (x_wl_cons.mp (x_wl_cons.mp hs).2).2⟩) hw
  | baload =>
    obtain ⟨v, q, st', rfl, e⟩ := x_ia_inv (f := fun i q st => (x_ild h q 2 i).map (fun x => .inl (pc + len, ls, .int x :: st, h))) ha
    obtain ⟨x, e1, e2⟩ := x_map_inv e
    cases e2
    exact x_Kp.of hl (x_wl_cons.mpr ⟨pi _, (x_wl_cons.mp (x_wl_cons.mp hs).2).2⟩) hw
  | laload =>
    obtain ⟨v, q, st', rfl, e⟩ := x_ia_inv (f := fun i q st => (x_lld h q i).map (fun x => .inl (pc + len, ls, .long x :: st, h))) ha
    obtain ⟨x, e1, e2⟩ := x_map_inv e
    cases e2
    exact x_Kp.of hl (x_wl_cons.mpr ⟨pl _, (x_wl_cons.mp (x_wl_cons.mp hs).2).2⟩) hw
  | iastore =>
    obtain ⟨x, j, q, st', rfl, e⟩ := x_iia_inv (f := fun x i q st => (x_ist h q 0 i x).map (fun h' => .inl (pc + len, ls, st, h'))) ha
    obtain ⟨h', e1, e2⟩ := x_map_inv e
    cases e2
    obtain ⟨n, f, g1, g2, rfl⟩ := x_ist_inv e1
    exact x_Kp.set hl (x_wl_cons.mp (x_wl_cons.mp (x_wl_cons.mp hs).2).2).2 hw (fun ci fs' e => by cases e)
  | bastore =>
    obtain ⟨x, j, q, st', rfl, e⟩ := x_iia_inv (f := fun x i q st => (x_ist h q 2 i (vp_nar .boolean x)).map (fun h' => .inl (pc + len, ls, st, h'))) ha
    obtain ⟨h', e1, e2⟩ := x_map_inv e
    cases e2
    obtain ⟨n, f, g1, g2, rfl⟩ := x_ist_inv e1
    exact x_Kp.set hl (x_wl_cons.mp (x_wl_cons.mp (x_wl_cons.mp hs).2).2).2 hw (fun ci fs' e => by cases e)
  | lastore =>
    obtain ⟨x, j, q, st', rfl, e⟩ := x_lia_inv (f := fun x i q st => (x_lst h q i x).map (fun h' => .inl (pc + len, ls, st, h'))) ha
    obtain ⟨h', e1, e2⟩ := x_map_inv e
    cases e2
    obtain ⟨n, f, g1, g2, rfl⟩ := x_lst_inv e1
    exact x_Kp.set hl (x_wl_cons.mp (x_wl_cons.mp (x_wl_cons.mp hs).2).2).2 hw (fun ci fs' e => by cases e)
  | arraylength =>
    obtain ⟨q, st', rfl, e⟩ := x_a_inv (f := fun q st => (x_len h q).map (fun n => .inl (pc + len, ls, .int (Int32.ofNat n) :: st, h))) ha
    obtain ⟨n, e1, e2⟩ := x_map_inv e
    cases e2
    exact x_Kp.of hl (x_wl_cons.mpr ⟨pi _, (x_wl_cons.mp hs).2⟩) hw
  | newarray t =>
    match st, t, ha with
    | .int n :: st, .int, ha => cases x_go_inv (x_grd_inv ha).2; exact x_Kp.new hl (x_wl_cons.mp hs).2 hw (fun ci fs e => by cases e)
    | .int n :: st, .long, ha => cases x_go_inv (x_grd_inv ha).2; exact x_Kp.new hl (x_wl_cons.mp hs).2 hw (fun ci fs e => by cases e)
    | .int n :: st, .boolean, ha => cases x_go_inv (x_grd_inv ha).2; exact x_Kp.new hl (x_wl_cons.mp hs).2 hw (fun ci fs e => by cases e)
    | .int n :: st, .char, ha => cases (x_grd_inv ha).2
    | .int n :: st, .float, ha => cases (x_grd_inv ha).2
    | .int n :: st, .double, ha => cases (x_grd_inv ha).2
    | .int n :: st, .byte, ha => cases (x_grd_inv ha).2
    | .int n :: st, .short, ha => cases (x_grd_inv ha).2
  | new ci =>
    replace ha : (match x_cl[ci]? with | some (_, _, N) => x_go (pc + len) ls (.ref h.1 :: st) (x_new h N (.inr (ci, (List.range N).map (fun k => defaultValue (x_ty ci k))))) | none => none) = some (.inl k) := ha
    split at ha
    · cases x_go_inv ha; exact x_Kp.new hl hs hw (fun ci fs e => by cases e; exact x_wl_def _ _ _)
    · cases ha
  | invokespecial z =>
    obtain ⟨q, st', rfl, e⟩ := x_a_inv (f := fun q st => if Nat.ble st.length 4 = true then x_go (pc + len) ls st h else none) ha
    cases x_go_inv (x_grd_inv e).2
    exact x_Kp.of hl (x_wl_cons.mp hs).2 hw
  | invokeinterface mi z =>
    have := (x_grd_inv (c := x_cok z st h = true) (a := some (.inr (.inl (mi, (st.take (x_cn z)).reverse, pc + len, ls, st.drop (x_cn z))))) ha).2
    cases this
  | _ => cases (show (none : Option x_A) = some (.inl k) from ha)
theorem x_act_call {i : Instr} {len pc : Nat} {ls st : List Value} {h : x_H} {mi pc' : Nat} {as ls' st' : List Value} (ha : x_act i len pc ls st h = some (.inr (.inl (mi, as, pc', ls', st')))) : ∃ z, i = .invokeinterface mi z ∧ x_cok z st h = true ∧ as = (st.take (x_cn z)).reverse ∧ pc' = pc + len ∧ ls' = ls ∧ st' = st.drop (x_cn z) := by
  unfold x_act at ha
  split at ha
  all_goals first
    | (unfold x_go at ha; cases ha; done)
    | ((try simp only [x_go, x_ldi, x_lda, x_ldl, x_sti, x_sta, x_stl, x_ii, x_ll] at ha); repeat' split at ha)
  all_goals first
    | (cases ha; done)
    | (obtain ⟨y, -, hy⟩ := Option.map_eq_some_iff.mp ha; cases hy; done)
    | (cases ha; exact ⟨_, rfl, by assumption, rfl, rfl, rfl, rfl⟩)
theorem x_act_ret {i : Instr} {len pc : Nat} {ls st : List Value} {h : x_H} {v : Option Value} (ha : x_act i len pc ls st h = some (.inr (.inr v))) : (i = .return_ ∧ st = [] ∧ v = none) ∨ ∃ x, (i = .ireturn ∨ (i = .areturn ∧ x &&& 1 = x)) ∧ st = [.int x] ∧ v = some (.int x) := by
  unfold x_act at ha
  split at ha
  all_goals first
    | (unfold x_go at ha; cases ha; done)
    | ((try simp only [x_go, x_ldi, x_lda, x_ldl, x_sti, x_sta, x_stl, x_ii, x_ll] at ha); repeat' split at ha)
  all_goals first
    | (cases ha; done)
    | (obtain ⟨y, -, hy⟩ := Option.map_eq_some_iff.mp ha; cases hy; done)
    | (cases ha; exact Or.inl ⟨rfl, rfl, rfl⟩)
    | (cases ha; exact Or.inr ⟨_, Or.inl rfl, rfl, rfl⟩)
    | (cases ha; exact Or.inr ⟨_, Or.inr ⟨rfl, by assumption⟩, rfl, rfl⟩)
