/-! ONE STEP: an instruction of the small machine is the real machine's -/
theorem x_oi1 : Cond.instanceMethod objectInit ∈ x_tb := x_at_in 73 (by decide +kernel) (by decide +kernel)
theorem x_oi2 : Cond.code objectInit ⟨#[0xb1]⟩ 1 none ∈ x_tb := x_at_in 74 (by decide +kernel) (by decide +kernel)
def x_pln (i : Instr) (pc len : Nat) : Bool := match i with
  | .iconst _ | .lconst _ | .iload_n _ | .aload_n _ | .lload_n _ | .istore_n _ | .astore_n _ | .lstore_n _ | .dup | .dup2 => Nat.beq len 1
  | .iadd | .isub | .imul | .iand | .ior | .ixor | .ishl | .ishr | .iushr | .idiv | .irem | .ladd | .lmul | .land | .ldiv | .lrem | .i2l | .l2i | .lcmp => Nat.beq len 1
  | .iaload | .baload | .laload | .iastore | .bastore | .lastore | .arraylength => Nat.beq len 1
  | .bipush _ | .iload _ | .lload _ | .aload _ | .istore _ | .astore _ | .lstore _ | .newarray _ => Nat.beq len 2
  | .sipush _ | .iinc _ _ => Nat.beq len 3
  | .goto off | .ifCond _ off | .if_icmp _ off => Nat.beq len 3 && decide (0 ≤ (pc : Int) + off)
  | .tableswitch d _ _ offs => decide (0 ≤ (pc : Int) + d) && offs.toList.all (fun o => decide (0 ≤ (pc : Int) + o))
  | .lookupswitch d ps => decide (0 ≤ (pc : Int) + d) && (ps.toList.all (fun q => decide (0 ≤ (pc : Int) + q.2)) && (ps.toList.zip (ps.toList.drop 1)).all (fun (a, next) => a.1 < next.1))
  | _ => false
def x_okc (P : Nat → x_M) (M : x_M) (pc mi z len : Nat) : Prop := ∃ (idx n : Nat), len = 3 ∧ ((P mi).1.cls ≠ "java/lang/invoke/MethodHandle" ∧ (P mi).1.cls ≠ "java/lang/invoke/VarHandle" ∧ (parseMethodDescriptor (P mi).1.desc).map (fun d => d.parameters.length) = some n) ∧ z / 100000 ≤ (P mi).2.2.1 ∧ match z % 10 with
  | 0 => decode M.2.1 pc = .ok (.invokevirtual idx, 3) ∧ x_cn z = n + 1 ∧ (∃ T N, x_cl[z / 10 % 100]? = some ((P mi).1.cls, T, N)) ∧ Cond.methodLink M.1.cls idx (P mi).1 ∈ x_tb ∧ Cond.instanceMethod (P mi).1 ∈ x_tb ∧ Cond.selects (P mi).1.cls (P mi).1 (P mi).1 ∈ x_tb
  | 1 => decode M.2.1 pc = .ok (.invokestatic idx, 3) ∧ x_cn z = n ∧ Cond.methodLink M.1.cls idx (P mi).1 ∈ x_tb ∧ Cond.static (P mi).1 ∈ x_tb
  | 2 => decode M.2.1 pc = .ok (.invokestatic idx, 3) ∧ x_cn z = n ∧ (∃ host, (M.1.cls, idx, (P mi).1, host) ∈ x_nl) ∧ Cond.static (P mi).1 ∈ x_tb
  | 3 => decode M.2.1 pc = .ok (.invokespecial idx, 3) ∧ x_cn z = n + 1 ∧ Cond.methodLink M.1.cls idx (P mi).1 ∈ x_tb ∧ Cond.instanceMethod (P mi).1 ∈ x_tb ∧ (P mi).1.name = "<init>" ∧ (P mi).2.2.2.1 = none
  | 4 => decode M.2.1 pc = .ok (.invokespecial idx, 3) ∧ x_cn z = n + 1 ∧ (∃ host, (M.1.cls, idx, (P mi).1, host) ∈ x_nl) ∧ Cond.instanceMethod (P mi).1 ∈ x_tb ∧ (P mi).1.name = "<init>" ∧ (P mi).2.2.2.1 = none
  | _ => False
def x_okf (M : x_M) (idx ci k : Nat) (C : String) (T : u_T) (N : Nat) : Prop := x_cl[ci]? = some (C, T, N) ∧ k < N ∧ Cond.fieldLink M.1.cls idx (T k).1 (T k).2.1 (T k).2.2.1 ∈ x_tb
/-- the code's row stands in the bytes, and its words in the tables -/
def x_ok (P : Nat → x_M) (M : x_M) (pc : Nat) (i : Instr) (len : Nat) : Prop := match i with
  | .jsr n => ∃ idx, decode M.2.1 pc = .ok (.ldc idx, 2) ∧ len = 2 ∧ Cond.constant M.1.cls idx (Int32.ofInt n) ∈ x_tb
  | .jsr_w n => ∃ idx, decode M.2.1 pc = .ok (.ldc_w idx, 3) ∧ len = 3 ∧ Cond.constant M.1.cls idx (Int32.ofInt n) ∈ x_tb
  | .goto_w n => ∃ idx, decode M.2.1 pc = .ok (.ldc2_w idx, 3) ∧ len = 3 ∧ Cond.constantLong M.1.cls idx (Int64.ofInt n) ∈ x_tb
  | .getfield z => ∃ idx C T N, decode M.2.1 pc = .ok (.getfield idx, 3) ∧ len = 3 ∧ x_okf M idx (z / 64) (z % 64) C T N
  | .putfield z => ∃ idx C T N, decode M.2.1 pc = .ok (.putfield idx, 3) ∧ len = 3 ∧ x_okf M idx (z / 64) (z % 64) C T N ∧ (T (z % 64)).2.2.2 = false
  | .putstatic z => ∃ idx C T N, decode M.2.1 pc = .ok (.putfield idx, 3) ∧ len = 3 ∧ x_okf M idx (z / 64) (z % 64) C T N ∧ (T (z % 64)).2.2.2 = true ∧ M.1.name = "<init>" ∧ (T (z % 64)).1 = M.1.cls
  | .ireturn => decode M.2.1 pc = .ok (.ireturn, 1) ∧ M.2.2.2.1 = some .int
  | .areturn => decode M.2.1 pc = .ok (.ireturn, 1) ∧ M.2.2.2.1 = some .boolean
  | .return_ => decode M.2.1 pc = .ok (.return_, 1) ∧ M.2.2.2.1 = none
  | .new ci => ∃ idx C T N, decode M.2.1 pc = .ok (.new idx, 3) ∧ len = 3 ∧ x_cl[ci]? = some (C, T, N) ∧ Cond.classLink M.1.cls idx C ∈ x_tb
  | .invokespecial _ => ∃ idx, decode M.2.1 pc = .ok (.invokespecial idx, 3) ∧ len = 3 ∧ Cond.methodLink M.1.cls idx objectInit ∈ x_tb
  | .invokeinterface mi z => x_okc P M pc mi z len
  | .pop => ∃ idx, decode M.2.1 pc = .ok (.invokestatic idx, 3) ∧ len = 3 ∧ Cond.methodLink M.1.cls idx Lib.Math.max.name ∈ x_tb ∧ Cond.static Lib.Math.max.name ∈ x_tb ∧ Cond.initialized "java/lang/Math" ∈ x_tb ∧ Cond.code Lib.Math.max.name Lib.Math.max.code 2 (some .int) ∈ x_tb
  | .pop2 => ∃ idx, decode M.2.1 pc = .ok (.invokestatic idx, 3) ∧ len = 3 ∧ Cond.methodLink M.1.cls idx Lib.Math.min.name ∈ x_tb ∧ Cond.static Lib.Math.min.name ∈ x_tb ∧ Cond.initialized "java/lang/Math" ∈ x_tb ∧ Cond.code Lib.Math.min.name Lib.Math.min.code 2 (some .int) ∈ x_tb
  | i => decode M.2.1 pc = .ok (i, len) ∧ x_pln i pc len = true
def x_Fx (M : x_M) (p : Program) (s : State) (m : MethodId) (meth : Method) (c : Code) (args : Array Value) (D : va_G) (cA : Nat → ClassId) : Prop :=
  p.tables.exec = Jvm.exec ∧ c.code = M.2.1 ∧ c.maxLocals = M.2.2.1 ∧ s.vm.findClass M.1.cls = some m.cls ∧ (∀ w ∈ x_tb, w.before args s = true) ∧ va_K D x_cl (x_tys cA) s ∧ x_NW s ∧ meth.name = M.1.name
def x_Rel (D : va_G) (cA : Nat → ClassId) (A : Nat → Prop) (n0 w0 : Nat) (ad0 : Nat → Nat) (H0 : Heap) (nL : Nat) (ad : Nat → Nat) (H : Heap) (LS : Array Slot) (locs : List Loc) (ls st : List Value) (h : x_H) : Prop :=
  (∀ i, i < n0 → ad i = ad0 i) ∧ n0 ≤ h.1 ∧ w0 ≤ h.2.1 ∧ va_P D x_cl (x_W cA ad h) H ∧ va_D A (x_W cA ad h) ∧ va_S A H0 H locs ∧ lv_has LS nL (x_lv ad ls) ∧ ls.length = nL ∧ x_wl h.1 ls ∧ x_wl h.1 st ∧ x_wh h
theorem x_Rel.to {D : va_G} {cA : Nat → ClassId} {A : Nat → Prop} {n0 w0 : Nat} {ad0 : Nat → Nat} {H0 : Heap} {nL pc' : Nat} {ad : Nat → Nat} {H H' : Heap} {LS LS' : Array Slot} {locs locs' : List Loc} {ls st ls' st' : List Value} {h h' : x_H} (hr : x_Rel D cA A n0 w0 ad0 H0 nL ad H LS locs ls st h) (kp : x_Kp h ls (pc', ls', st', h')) (hP : va_P D x_cl (x_W cA ad h') H') (hD : va_D A (x_W cA ad h')) (hS : va_S A H0 H' locs') (hL : lv_has LS' nL (x_lv ad ls')) : x_Rel D cA A n0 w0 ad0 H0 nL ad H' LS' locs' ls' st' h' := by
  obtain ⟨r1, r2, r3, r4, r5, r6, r7, r8, r9, r10, r11⟩ := hr
  obtain ⟨k1, k2, k3, k4, k5, k6⟩ := kp
  exact ⟨r1, Nat.le_trans r2 k4, Nat.le_trans r3 k5, hP, hD, hS, hL, k6.trans r8, k1, k2, k3⟩
theorem x_Rel.st {D : va_G} {cA : Nat → ClassId} {A : Nat → Prop} {n0 w0 : Nat} {ad0 : Nat → Nat} {H0 : Heap} {nL pc' : Nat} {ad : Nat → Nat} {H : Heap} {LS : Array Slot} {locs : List Loc} {ls st st' : List Value} {h : x_H} (hr : x_Rel D cA A n0 w0 ad0 H0 nL ad H LS locs ls st h) (kp : x_Kp h ls (pc', ls, st', h)) : x_Rel D cA A n0 w0 ad0 H0 nL ad H LS locs ls st' h :=
  hr.to kp hr.2.2.2.1 hr.2.2.2.2.1 hr.2.2.2.2.2.1 hr.2.2.2.2.2.2.1
theorem x_tg_eq {pc : Nat} {off : Int} (h : 0 ≤ (pc : Int) + off) : (pc : Int) + off = (x_tg pc off : Int) := (Int.toNat_of_nonneg h).symm
theorem x_fok_ok {t : FieldType} {v : Value} (ad : Nat → Nat) (h : x_fok t v = true) : narrow t (x_v ad v) = x_v ad v ∧ fits t (x_v ad v) = true := by
  unfold x_fok at h
  split at h
  · exact ⟨rfl, rfl⟩
  · rcases Bool.or_eq_true_iff.mp h with h | h
    · cases of_decide_eq_true h; exact ⟨rfl, rfl⟩
    · cases of_decide_eq_true h; exact ⟨rfl, rfl⟩
  · exact ⟨rfl, rfl⟩
  · exact ⟨rfl, rfl⟩
  · exact ⟨rfl, rfl⟩
  · cases h
theorem x_v_def (ad : Nat → Nat) (t : FieldType) : x_v ad (defaultValue t) = defaultValue t := by cases t <;> rfl
theorem x_short {rest : List Value} (ad : Nat → Nat) (h : Nat.ble rest.length 4 = true) : ((rest.map (x_v ad)).map fun v => v.category).sum ≤ 8 := by
  have h1 := Nat.le_of_ble_eq_true h
  have h2 : ∀ l : List Value, ((l.map (x_v ad)).map fun v => v.category).sum ≤ 2 * l.length := by
    intro l
    induction l with
    | nil => simp
    | cons a l ih =>
      simp only [List.map_cons, List.sum_cons, List.length_cons, x_v_cat]
      have : a.category ≤ 2 := by cases a <;> simp [Value.category]
      omega
  have := h2 rest
  omega
theorem x_off_in : ∀ (l : List (Int × Int)) (d k : Int) (P : Int → Prop), P d → (∀ q ∈ l, P q.2) → P (Op.lookupswitch.offset l d k)
  | [], d, k, P, hd, _ => hd
  | (a, o) :: r, d, k, P, hd, hl => by
    rw [Op.lookupswitch.offset_cons]
    split
    · exact hl _ List.mem_cons_self
    · exact x_off_in r d k P hd (fun q hq => hl q (List.mem_cons_of_mem _ hq))

section XSTEP
variable {P : Nat → x_M} {M : x_M} {p : Program} {l : Launch} {e : Env} {R : Room} {s : State} {m : MethodId} {args : Array Value} {below : List Frame} {meth : Method} {c : Code} {D : va_G} {cA : Nat → ClassId} {A : Nat → Prop} {Q : State → Prop} {n0 w0 : Nat} {ad0 : Nat → Nat}
theorem x_same_ty {cA : Nat → ClassId} {q : ClassId} {ty : FieldType} (hK' : va_K D x_cl (x_tys cA ++ [(q, ty)]) s) (k : Nat) (hk : (x_tys cA)[k]? = some (cA k, ty)) (hty : ty = .int ∨ ty = .long ∨ ty = .boolean) : q = cA k := by
  have h1 := (hK'.2 3 (q, ty) (by rfl)).2
  have h2 := (hK'.2 k (cA k, ty) (by
    have hl := (List.getElem?_eq_some_iff.mp hk).1
    rw [List.getElem?_append_left hl]; exact hk)).2
  rcases hty with rfl | rfl | rfl
  · exact Option.some.inj (Eq.trans (Eq.symm h1) h2)
  · exact Option.some.inj (Eq.trans (Eq.symm h1) h2)
  · exact Option.some.inj (Eq.trans (Eq.symm h1) h2)
theorem x_new_rel {nL : Nat} {ad : Nat → Nat} {H H1 : Heap} {LS : Array Slot} {locs : List Loc} {ls st st' : List Value} {h : x_H} {pc' w q : Nat} {cc : x_C} {ee : va_E} (hr : x_Rel D cA A n0 w0 ad0 s.heap nL ad H LS locs ls st h) (kp : x_Kp h ls (pc', ls, .ref h.1 :: st', x_new h w cc)) (hP : va_P D x_cl (x_W cA ad h ++ [(q, ee)]) H1) (hD : va_D A (x_W cA ad h ++ [(q, ee)])) (hS : va_S A s.heap H1 locs) (he : x_e cA (va_up ad h.1 q) cc = ee) : x_Rel D cA A n0 w0 ad0 s.heap nL (va_up ad h.1 q) H1 LS locs ls (.ref h.1 :: st') (x_new h w cc) := by
  obtain ⟨r1, r2, r3, r4, r5, r6, r7, r8, r9, r10, r11⟩ := hr
  obtain ⟨k1, k2, k3, k4, k5, k6⟩ := kp
  have hx : x_W cA (va_up ad h.1 q) (x_new h w cc) = x_W cA ad h ++ [(q, ee)] := by rw [x_W_push r11, he]
  have hu : ∀ i, i < h.1 → va_up ad h.1 q i = ad i := fun i hi => if_neg (Nat.ne_of_lt hi)
  refine ⟨fun i hi => (hu i (Nat.lt_of_lt_of_le hi r2)).trans (r1 i hi), Nat.le_trans r2 k4, Nat.le_trans r3 k5, by rw [hx]; exact hP, by rw [hx]; exact hD, hS, x_lv_sub r7 ?_, r8, k1, k2, k3⟩
  intro ⟨j, u⟩ hq
  obtain ⟨v, g1, g2, g3⟩ := x_lv_mem.mp hq
  exact x_lv_mem.mpr ⟨v, g1, g2, g3.trans (x_v_ext (x_wl_get r9 g1) hu)⟩
set_option maxHeartbeats 4000000 in
theorem x_step {i : Instr} {len pc nL : Nat} {ls st : List Value} {h : x_H} {k : x_K} {ad : Nat → Nat} {H : Heap} {LS : Array Slot} {locs : List Loc} (F : x_Fx M p s m meth c args D cA) (hnL : nL = M.2.2.1) (hA : ∀ q, s.heap.size ≤ q → A q) (hR1 : 1 ≤ R.frames) (hR2 : 64 ≤ R.locals)
    (hok : x_ok P M pc i len) (ha : x_act i len pc ls st h = some (.inl k)) (hr : x_Rel D cA A n0 w0 ad0 s.heap nL ad H LS locs ls st h) (hc : k.2.2.2.1 - n0 ≤ R.cells) (hs : k.2.2.2.2.1 - w0 ≤ R.slots)
    (kk : ∀ (ad' : Nat → Nat) (H' : Heap) (LS' : Array Slot) (locs' : List Loc), x_Rel D cA A n0 w0 ad0 s.heap nL ad' H' LS' locs' k.2.1 k.2.2.1 k.2.2.2 → W p l e R s m args below meth c H' locs' (k.2.2.2.1 - n0) (k.2.2.2.2.1 - w0) Q (F0 m k.1 LS' (k.2.2.1.map (x_v ad')))) :
    W p l e R s m args below meth c H locs (h.1 - n0) (h.2.1 - w0) Q (F0 m pc LS (st.map (x_v ad))) := by
  obtain ⟨hx, hb, hml, hown, hts, hK, hN, hnm⟩ := F
  have hr' := hr
  obtain ⟨r1, r2, r3, hP, hD, hS, hL, r8, r9, r10, r11⟩ := hr
  have kp := x_act_kp ha r9 r10 r11
  have one : ∀ {n : Nat}, Nat.beq len n = true → len = n := fun h => Nat.eq_of_beq_eq_true h
  cases i with
  | iconst n => obtain ⟨hd, hl⟩ := hok; cases one hl; cases x_go_inv ha; exact lv_iconst hx hb hd rfl (kk ad H LS locs (hr'.st kp))
  | bipush n => obtain ⟨hd, hl⟩ := hok; cases one hl; cases x_go_inv ha; exact lv_bipush hx hb hd rfl (kk ad H LS locs (hr'.st kp))
  | sipush n => obtain ⟨hd, hl⟩ := hok; cases one hl; cases x_go_inv ha; exact lv_sipush hx hb hd rfl (kk ad H LS locs (hr'.st kp))
  | jsr n => obtain ⟨idx, hd, rfl, hw⟩ := hok; cases x_go_inv ha; exact lv_ldc hx hb hown (hts _ hw) hd (kk ad H LS locs (hr'.st kp))
  | jsr_w n => obtain ⟨idx, hd, rfl, hw⟩ := hok; cases x_go_inv ha; exact lv_ldcw hx hb hown (hts _ hw) hd (kk ad H LS locs (hr'.st kp))
  | goto_w n => obtain ⟨idx, hd, rfl, hw⟩ := hok; cases x_go_inv ha; exact lv_ldc2 hx hb hown (hts _ hw) hd (kk ad H LS locs (hr'.st kp))
  | lconst n => obtain ⟨hd, hl⟩ := hok; cases one hl; cases x_go_inv ha; exact lv_lconst hx hb hd rfl (kk ad H LS locs (hr'.st kp))
  | iload_n n => obtain ⟨hd, hl⟩ := hok; cases one hl; obtain ⟨x, g, rfl⟩ := x_ldi_inv ha; exact lv_iload_n hx hb hd rfl (x_lv_at hL g rfl) (kk ad H LS locs (hr'.st kp))
  | iload n => obtain ⟨hd, hl⟩ := hok; cases one hl; obtain ⟨x, g, rfl⟩ := x_ldi_inv ha; exact lv_iload hx hb hd (x_lv_at hL g rfl) (kk ad H LS locs (hr'.st kp))
  | aload_n n => obtain ⟨hd, hl⟩ := hok; cases one hl; obtain ⟨x, g, rfl⟩ := x_lda_inv ha; exact lv_aload_n hx hb hd rfl (x_lv_at hL g rfl) (kk ad H LS locs (hr'.st kp))
  | aload n => obtain ⟨hd, hl⟩ := hok; cases one hl; obtain ⟨x, g, rfl⟩ := x_lda_inv ha; exact lv_aload hx hb hd (x_lv_at hL g rfl) (kk ad H LS locs (hr'.st kp))
  | lload_n n => obtain ⟨hd, hl⟩ := hok; cases one hl; obtain ⟨x, g, rfl⟩ := x_ldl_inv ha; exact lv_lload_n hx hb hd rfl (x_lv_at hL g rfl) (kk ad H LS locs (hr'.st kp))
  | lload n => obtain ⟨hd, hl⟩ := hok; cases one hl; obtain ⟨x, g, rfl⟩ := x_ldl_inv ha; exact lv_lload hx hb hd (x_lv_at hL g rfl) (kk ad H LS locs (hr'.st kp))
  | istore_n n => obtain ⟨hd, hl⟩ := hok; cases one hl; obtain ⟨x, st', rfl, g, rfl⟩ := x_sti_inv ha; exact lv_istore_n hx hb hd rfl hL (r8 ▸ g) rfl (fun LS' hL' => kk ad H LS' locs (hr'.to kp hP hD hS (x_lv_sub hL' x_lv_st1)))
  | istore n => obtain ⟨hd, hl⟩ := hok; cases one hl; obtain ⟨x, st', rfl, g, rfl⟩ := x_sti_inv ha; exact lv_istore hx hb hd hL (r8 ▸ g) rfl (fun LS' hL' => kk ad H LS' locs (hr'.to kp hP hD hS (x_lv_sub hL' x_lv_st1)))
  | astore_n n => obtain ⟨hd, hl⟩ := hok; cases one hl; obtain ⟨x, st', rfl, g, rfl⟩ := x_sta_inv ha; exact lv_astore_n hx hb hd rfl hL (r8 ▸ g) rfl (fun LS' hL' => kk ad H LS' locs (hr'.to kp hP hD hS (x_lv_sub hL' x_lv_st1)))
  | astore n => obtain ⟨hd, hl⟩ := hok; cases one hl; obtain ⟨x, st', rfl, g, rfl⟩ := x_sta_inv ha; exact lv_astore hx hb hd hL (r8 ▸ g) rfl (fun LS' hL' => kk ad H LS' locs (hr'.to kp hP hD hS (x_lv_sub hL' x_lv_st1)))
  | lstore n => obtain ⟨hd, hl⟩ := hok; cases one hl; obtain ⟨x, st', rfl, g, rfl⟩ := x_stl_inv ha; exact lv_lstore hx hb hd hL (r8 ▸ g) rfl (fun LS' hL' => kk ad H LS' locs (hr'.to kp hP hD hS (x_lv_sub hL' x_lv_st2)))
  | lstore_n n => obtain ⟨hd, hl⟩ := hok; cases one hl; obtain ⟨x, st', rfl, g, rfl⟩ := x_stl_inv ha; exact lv_lstore_n hx hb hd rfl hL (r8 ▸ g) rfl (fun LS' hL' => kk ad H LS' locs (hr'.to kp hP hD hS (x_lv_sub hL' x_lv_st2)))
  | iinc n cc =>
    obtain ⟨hd, hl⟩ := hok
    cases one hl
    unfold x_act at ha
    dsimp only at ha
    split at ha
    · rename_i x g
      cases x_go_inv ha
      obtain ⟨j, hj⟩ := List.getElem?_of_mem (x_lv_mem.mpr ⟨_, g, rfl, rfl⟩ : (n, x_v ad (.int x)) ∈ x_lv ad ls)
      exact lv_iinc hx hb hd hL hj rfl (r8 ▸ (List.getElem?_eq_some_iff.mp g).1) rfl (fun LS' hL' => kk ad H LS' locs (hr'.to kp hP hD hS (x_lv_sub hL' x_lv_st1)))
    · cases ha
  | dup =>
    obtain ⟨hd, hl⟩ := hok
    cases one hl
    unfold x_act at ha
    dsimp only at ha
    split at ha
    · cases x_go_inv ha; exact lv_dup hx hb hd rfl (kk ad H LS locs (hr'.st kp))
    · cases x_go_inv ha; exact lv_dup hx hb hd rfl (kk ad H LS locs (hr'.st kp))
    · cases ha
  | dup2 =>
    obtain ⟨hd, hl⟩ := hok
    cases one hl
    obtain ⟨v, q, st', rfl, e⟩ := x_ia_inv (f := fun v q st => x_go (pc + 1) ls (.int v :: .ref q :: .int v :: .ref q :: st) h) ha
    cases x_go_inv e
    exact lv_dup2_11 hx hb hd rfl rfl (kk ad H LS locs (hr'.st kp))
  | iadd => obtain ⟨hd, hl⟩ := hok; cases one hl; obtain ⟨x, y, st', rfl, rfl⟩ := x_ii_inv ha; exact lv_iadd hx hb hd (kk ad H LS locs (hr'.st kp))
  | isub => obtain ⟨hd, hl⟩ := hok; cases one hl; obtain ⟨x, y, st', rfl, rfl⟩ := x_ii_inv ha; exact lv_isub hx hb hd (kk ad H LS locs (hr'.st kp))
  | imul => obtain ⟨hd, hl⟩ := hok; cases one hl; obtain ⟨x, y, st', rfl, rfl⟩ := x_ii_inv ha; exact lv_imul hx hb hd (kk ad H LS locs (hr'.st kp))
  | iand => obtain ⟨hd, hl⟩ := hok; cases one hl; obtain ⟨x, y, st', rfl, rfl⟩ := x_ii_inv ha; exact lv_iand hx hb hd (kk ad H LS locs (hr'.st kp))
  | ior => obtain ⟨hd, hl⟩ := hok; cases one hl; obtain ⟨x, y, st', rfl, rfl⟩ := x_ii_inv ha; exact lv_ior hx hb hd (kk ad H LS locs (hr'.st kp))
  | ixor => obtain ⟨hd, hl⟩ := hok; cases one hl; obtain ⟨x, y, st', rfl, rfl⟩ := x_ii_inv ha; exact lv_ixor hx hb hd (kk ad H LS locs (hr'.st kp))
  | ishl => obtain ⟨hd, hl⟩ := hok; cases one hl; obtain ⟨x, y, st', rfl, rfl⟩ := x_ii_inv ha; exact lv_ishl hx hb hd (kk ad H LS locs (hr'.st kp))
  | ishr => obtain ⟨hd, hl⟩ := hok; cases one hl; obtain ⟨x, y, st', rfl, rfl⟩ := x_ii_inv ha; exact lv_ishr hx hb hd (kk ad H LS locs (hr'.st kp))
  | iushr => obtain ⟨hd, hl⟩ := hok; cases one hl; obtain ⟨x, y, st', rfl, rfl⟩ := x_ii_inv ha; exact lv_iushr hx hb hd rfl (kk ad H LS locs (hr'.st kp))
  | pop =>
    obtain ⟨idx, hd, rfl, w1, w2, w3, w4⟩ := hok
    obtain ⟨x, y, st', rfl, e⟩ := x_st_inv (f := fun x y st => if Nat.ble st.length 4 = true then x_go (pc + 3) ls (.int (if x < y then y else x) :: st) h else none) ha
    obtain ⟨g, e⟩ := x_grd_inv e
    cases x_go_inv e
    exact va_mmax hx hb (hml.trans (hnL.symm.trans hL.1.symm)) hown (hts _ w1) (hts _ w2) (hts _ w3) (hts _ w4) hR1 (by have := x_short ad g; omega) hc hs hd (kk ad H LS locs (hr'.st kp))
  | pop2 =>
    obtain ⟨idx, hd, rfl, w1, w2, w3, w4⟩ := hok
    obtain ⟨x, y, st', rfl, e⟩ := x_st_inv (f := fun x y st => if Nat.ble st.length 4 = true then x_go (pc + 3) ls (.int (if y < x then y else x) :: st) h else none) ha
    obtain ⟨g, e⟩ := x_grd_inv e
    cases x_go_inv e
    exact va_mmin hx hb (hml.trans (hnL.symm.trans hL.1.symm)) hown (hts _ w1) (hts _ w2) (hts _ w3) (hts _ w4) hR1 (by have := x_short ad g; omega) hc hs hd (kk ad H LS locs (hr'.st kp))
  | idiv =>
    obtain ⟨hd, hl⟩ := hok
    cases one hl
    obtain ⟨x, y, st', rfl, e⟩ := x_st_inv (f := fun x y st => if ¬ y = 0 then x_go (pc + 1) ls (.int (x / y) :: st) h else none) ha
    obtain ⟨g, e⟩ := x_grd_inv e
    cases x_go_inv e
    exact lv_idiv hx hb hd g (kk ad H LS locs (hr'.st kp))
  | irem =>
    obtain ⟨hd, hl⟩ := hok
    cases one hl
    obtain ⟨x, y, st', rfl, e⟩ := x_st_inv (f := fun x y st => if ¬ y = 0 then x_go (pc + 1) ls (.int (x - x / y * y) :: st) h else none) ha
    obtain ⟨g, e⟩ := x_grd_inv e
    cases x_go_inv e
    exact lv_irem hx hb hd g (kk ad H LS locs (hr'.st kp))
  | ladd => obtain ⟨hd, hl⟩ := hok; cases one hl; obtain ⟨x, y, st', rfl, rfl⟩ := x_ll_inv ha; exact lv_ladd hx hb hd (kk ad H LS locs (hr'.st kp))
  | lmul => obtain ⟨hd, hl⟩ := hok; cases one hl; obtain ⟨x, y, st', rfl, rfl⟩ := x_ll_inv ha; exact lv_lmul hx hb hd (kk ad H LS locs (hr'.st kp))
  | land => obtain ⟨hd, hl⟩ := hok; cases one hl; obtain ⟨x, y, st', rfl, rfl⟩ := x_ll_inv ha; exact lv_land hx hb hd (kk ad H LS locs (hr'.st kp))
  | ldiv =>
    obtain ⟨hd, hl⟩ := hok
    cases one hl
    obtain ⟨x, y, st', rfl, e⟩ := x_stl_inv2 (f := fun x y st => if ¬ y = 0 then x_go (pc + 1) ls (.long (x / y) :: st) h else none) ha
    obtain ⟨g, e⟩ := x_grd_inv e
    cases x_go_inv e
    exact lv_ldiv hx hb hd g (kk ad H LS locs (hr'.st kp))
  | lrem =>
    obtain ⟨hd, hl⟩ := hok
    cases one hl
    obtain ⟨x, y, st', rfl, e⟩ := x_stl_inv2 (f := fun x y st => if ¬ y = 0 then x_go (pc + 1) ls (.long (x - x / y * y) :: st) h else none) ha
    obtain ⟨g, e⟩ := x_grd_inv e
    cases x_go_inv e
    exact lv_lrem hx hb hd g (kk ad H LS locs (hr'.st kp))
  | i2l =>
    obtain ⟨hd, hl⟩ := hok
    cases one hl
    obtain ⟨x, st', rfl, e⟩ := x_i_inv (f := fun x st => x_go (pc + 1) ls (.long x.toInt64 :: st) h) ha
    cases x_go_inv e
    exact lv_i2l hx hb hd rfl (kk ad H LS locs (hr'.st kp))
  | l2i =>
    obtain ⟨hd, hl⟩ := hok
    cases one hl
    obtain ⟨x, st', rfl, e⟩ := x_l_inv (f := fun x st => x_go (pc + 1) ls (.int x.toInt32 :: st) h) ha
    cases x_go_inv e
    exact lv_l2i hx hb hd rfl (kk ad H LS locs (hr'.st kp))
  | lcmp =>
    obtain ⟨hd, hl⟩ := hok
    cases one hl
    obtain ⟨x, y, st', rfl, e⟩ := x_stl_inv2 (f := fun x y st => x_go (pc + 1) ls (.int (lg_cmp x y) :: st) h) ha
    cases x_go_inv e
    exact W.lcmp hx hb hd (kk ad H LS locs (hr'.st kp))
  | goto off =>
    obtain ⟨hd, hl⟩ := hok
    obtain ⟨hl, ho⟩ := Bool.and_eq_true_iff.mp hl
    cases one hl
    cases x_go_inv ha
    exact lv_goto hx hb hd (x_tg_eq (of_decide_eq_true ho)) (kk ad H LS locs (hr'.st kp))
  | ifCond cd off =>
    obtain ⟨hd, hl⟩ := hok
    obtain ⟨hl, ho⟩ := Bool.and_eq_true_iff.mp hl
    cases one hl
    have ht := x_tg_eq (of_decide_eq_true ho)
    match st, cd, hd, ha, hr', r10, kp with
    | .int x :: st, .eq, hd, ha, hr', r10, kp => cases x_go_inv ha; have K := kk ad H LS locs (hr'.st kp); exact lv_if_eq hx hb hd ht (fun z => by simp only [if_pos z] at K; exact K) (fun z => by simp only [if_neg z] at K; exact K)
    | .int x :: st, .ne, hd, ha, hr', r10, kp => cases x_go_inv ha; have K := kk ad H LS locs (hr'.st kp); exact lv_if_ne hx hb hd ht (fun z => by simp only [if_neg z] at K; exact K) (fun z => by simp only [if_pos z] at K; exact K)
    | .int x :: st, .lt, hd, ha, hr', r10, kp => cases x_go_inv ha; have K := kk ad H LS locs (hr'.st kp); exact lv_if_lt hx hb hd ht (fun z => by simp only [if_pos z] at K; exact K) (fun z => by simp only [if_neg z] at K; exact K)
    | .int x :: st, .ge, hd, ha, hr', r10, kp => cases x_go_inv ha; have K := kk ad H LS locs (hr'.st kp); exact lv_if_ge hx hb hd ht (fun z => by simp only [if_pos z] at K; exact K) (fun z => by simp only [if_neg z] at K; exact K)
    | .int x :: st, .gt, hd, ha, hr', r10, kp => cases x_go_inv ha; have K := kk ad H LS locs (hr'.st kp); exact lv_if_gt hx hb hd ht (fun z => by simp only [if_pos z] at K; exact K) (fun z => by simp only [if_neg z] at K; exact K)
    | .int x :: st, .le, hd, ha, hr', r10, kp => cases x_go_inv ha; have K := kk ad H LS locs (hr'.st kp); exact lv_if_le hx hb hd ht (fun z => by simp only [if_pos z] at K; exact K) (fun z => by simp only [if_neg z] at K; exact K)
  | if_icmp cd off =>
    obtain ⟨hd, hl⟩ := hok
    obtain ⟨hl, ho⟩ := Bool.and_eq_true_iff.mp hl
    cases one hl
    have ht := x_tg_eq (of_decide_eq_true ho)
    match st, cd, hd, ha, hr', r10, kp with
    | .int y :: .int x :: st, .eq, hd, ha, hr', r10, kp => cases x_go_inv ha; have K := kk ad H LS locs (hr'.st kp); exact lv_icmp_eq hx hb hd ht (fun z => by simp only [if_pos z] at K; exact K) (fun z => by simp only [if_neg z] at K; exact K)
    | .int y :: .int x :: st, .ne, hd, ha, hr', r10, kp => cases x_go_inv ha; have K := kk ad H LS locs (hr'.st kp); exact lv_icmp_ne hx hb hd ht (fun z => by simp only [if_neg z] at K; exact K) (fun z => by simp only [if_pos z] at K; exact K)
    | .int y :: .int x :: st, .lt, hd, ha, hr', r10, kp => cases x_go_inv ha; have K := kk ad H LS locs (hr'.st kp); exact lv_icmp_lt hx hb hd ht (fun z => by simp only [if_pos z] at K; exact K) (fun z => by simp only [if_neg z] at K; exact K)
    | .int y :: .int x :: st, .ge, hd, ha, hr', r10, kp => cases x_go_inv ha; have K := kk ad H LS locs (hr'.st kp); exact lv_icmp_ge hx hb hd ht (fun z => by simp only [if_pos z] at K; exact K) (fun z => by simp only [if_neg z] at K; exact K)
    | .int y :: .int x :: st, .gt, hd, ha, hr', r10, kp => cases x_go_inv ha; have K := kk ad H LS locs (hr'.st kp); exact lv_icmp_gt hx hb hd ht (fun z => by simp only [if_pos z] at K; exact K) (fun z => by simp only [if_neg z] at K; exact K)
    | .int y :: .int x :: st, .le, hd, ha, hr', r10, kp => cases x_go_inv ha; have K := kk ad H LS locs (hr'.st kp); exact lv_icmp_le hx hb hd ht (fun z => by simp only [if_pos z] at K; exact K) (fun z => by simp only [if_neg z] at K; exact K)
  | tableswitch dflt lo hi offs =>
    obtain ⟨hd, hl⟩ := hok
    obtain ⟨h1, h2⟩ := Bool.and_eq_true_iff.mp hl
    obtain ⟨x, st', rfl, e⟩ := x_i_inv (f := fun x st => if x.toInt < lo ∨ hi < x.toInt then x_go (x_tg pc dflt) ls st h else match offs[(x.toInt - lo).toNat]? with
      | some off => x_go (x_tg pc off) ls st h
      | none => none) ha
    split at e
    · rename_i z
      cases x_go_inv e
      exact lv_tableOut hx hb hd z (x_tg_eq (of_decide_eq_true h1)) (kk ad H LS locs (hr'.st kp))
    · rename_i z
      split at e
      · rename_i off g
        cases x_go_inv e
        exact lv_tableIn hx hb hd (fun w => z (Or.inl w)) (fun w => z (Or.inr w)) g (x_tg_eq (of_decide_eq_true (List.all_eq_true.mp h2 off (Array.mem_toList_iff.mpr (Array.mem_of_getElem? g))))) (kk ad H LS locs (hr'.st kp))
      · cases e
  | lookupswitch dflt ps =>
    obtain ⟨hd, hl⟩ := hok
    obtain ⟨h1, h2⟩ := Bool.and_eq_true_iff.mp hl
    obtain ⟨h2, h3⟩ := Bool.and_eq_true_iff.mp h2
    obtain ⟨x, st', rfl, e⟩ := x_i_inv (f := fun x st => x_go (x_tg pc (Op.lookupswitch.offset ps.toList dflt x.toInt)) ls st h) ha
    cases x_go_inv e
    exact lv_lookup hx hb hd h3 rfl (x_tg_eq (x_off_in ps.toList dflt x.toInt (fun o => 0 ≤ (pc : Int) + o) (of_decide_eq_true h1) (fun q hq => of_decide_eq_true (List.all_eq_true.mp h2 q hq)))) (kk ad H LS locs (hr'.st kp))
  | ireturn => unfold x_act at ha; dsimp only at ha; split at ha <;> cases ha
  | areturn =>
    unfold x_act at ha
    dsimp only at ha
    split at ha
    · split at ha <;> cases ha
    · cases ha
  | return_ => unfold x_act at ha; dsimp only at ha; split at ha <;> cases ha
  | getfield z =>
    obtain ⟨idx, C, T, N, hd, rfl, hcl, hk, hw⟩ := hok
    obtain ⟨q, st', rfl, e⟩ := x_a_inv (f := fun q st => (x_fld h q (z / 64) (z % 64)).map (fun v => .inl (pc + 3, ls, v :: st, h))) ha
    obtain ⟨v, e1, e2⟩ := x_map_inv e
    cases e2
    obtain ⟨fs, g1, g2⟩ := x_fld_inv e1
    obtain ⟨c1, c2, c3, c4, c5⟩ := x_cl_ok hcl
    exact va_get (D := D) hx hb hts c1 hown hK hP q (x_W_get g1) hcl (z % 64) hk (hts _ hw) (fun _ h9 => h9) (v := x_v ad v) (by rw [List.getElem?_map, g2]; rfl) hd (kk ad H LS locs (hr'.st kp))
  | putfield z =>
    obtain ⟨idx, C, T, N, hd, rfl, ⟨hcl, hk, hw⟩, hfin⟩ := hok
    obtain ⟨v, q, st', rfl, e⟩ := x_va_inv (f := fun v q st => if x_fok (x_ty (z / 64) (z % 64)) v = true then (x_pfd h q (z / 64) (z % 64) v).map (fun h' => .inl (pc + 3, ls, st, h')) else none) ha
    obtain ⟨hf, e⟩ := x_grd_inv e
    obtain ⟨h', e1, e2⟩ := x_map_inv e
    cases e2
    obtain ⟨fs, g1, g2, rfl⟩ := x_pfd_inv e1
    obtain ⟨c1, c2, c3, c4, c5⟩ := x_cl_ok hcl
    obtain ⟨n1, n2⟩ := x_fok_ok ad hf
    refine va_put (D := D) hx hb hts c1 (x_ty (z / 64)) c2 c3 hown hK hP hD hS q (x_W_get g1) hcl (z % 64) hk (hts _ hw) (fun _ h9 => h9) hfin (c2 _ hk) n1 n2 (by simpa using g2) hd (fun H1 locs1 hP1 hD1 hS1 => ?_)
    have ew : (x_W cA ad h).set q (ad q, .inr (z / 64, (fs.map (x_v ad)).set (z % 64) (x_v ad v))) = x_W cA ad (x_set h q (.inr (z / 64, fs.set (z % 64) v))) := by
      rw [← x_W_set]
      show _ = List.set _ q (ad q, Sum.inr (z / 64, List.map (x_v ad) _))
      rw [List.map_set]
    rw [ew] at hP1 hD1
    exact kk ad H1 LS locs1 (hr'.to kp hP1 hD1 hS1 hL)
  | putstatic z =>
    obtain ⟨idx, C, T, N, hd, rfl, ⟨hcl, hk, hw⟩, hfin, hin, hdecl⟩ := hok
    obtain ⟨v, q, st', rfl, e⟩ := x_va_inv (f := fun v q st => if x_fok (x_ty (z / 64) (z % 64)) v = true then (x_pfd h q (z / 64) (z % 64) v).map (fun h' => .inl (pc + 3, ls, st, h')) else none) ha
    obtain ⟨hf, e⟩ := x_grd_inv e
    obtain ⟨h', e1, e2⟩ := x_map_inv e
    cases e2
    obtain ⟨fs, g1, g2, rfl⟩ := x_pfd_inv e1
    obtain ⟨c1, c2, c3, c4, c5⟩ := x_cl_ok hcl
    obtain ⟨n1, n2⟩ := x_fok_ok ad hf
    refine va_putF (D := D) hx hb hts c1 (x_ty (z / 64)) c2 c3 hown hK hP hD hS q (x_W_get g1) hcl (z % 64) hk (hts _ hw) (fun _ h9 => h9) hfin (hnm.trans hin) hdecl (c2 _ hk) n1 n2 (by simpa using g2) hd (fun H1 locs1 hP1 hD1 hS1 => ?_)
    have ew : (x_W cA ad h).set q (ad q, .inr (z / 64, (fs.map (x_v ad)).set (z % 64) (x_v ad v))) = x_W cA ad (x_set h q (.inr (z / 64, fs.set (z % 64) v))) := by
      rw [← x_W_set]
      show _ = List.set _ q (ad q, Sum.inr (z / 64, List.map (x_v ad) _))
      rw [List.map_set]
    rw [ew] at hP1 hD1
    exact kk ad H1 LS locs1 (hr'.to kp hP1 hD1 hS1 hL)
  | iaload =>
    obtain ⟨hd, hl⟩ := hok
    cases one hl
    obtain ⟨v, q, st', rfl, e⟩ := x_ia_inv (f := fun i q st => (x_ild h q 0 i).map (fun x => .inl (pc + 1, ls, .int x :: st, h))) ha
    obtain ⟨x, e1, e2⟩ := x_map_inv e
    cases e2
    obtain ⟨n, f, g1, g2, rfl⟩ := x_ild_inv e1
    exact va_iald hx hb hK hP q 0 (x_W_get g1) rfl g2 hd (kk ad H LS locs (hr'.st kp))
  | baload =>
    obtain ⟨hd, hl⟩ := hok
    cases one hl
    obtain ⟨v, q, st', rfl, e⟩ := x_ia_inv (f := fun i q st => (x_ild h q 2 i).map (fun x => .inl (pc + 1, ls, .int x :: st, h))) ha
    obtain ⟨x, e1, e2⟩ := x_map_inv e
    cases e2
    obtain ⟨n, f, g1, g2, rfl⟩ := x_ild_inv e1
    exact va_zald hx hb hK hP q 2 (x_W_get g1) rfl g2 hd (kk ad H LS locs (hr'.st kp))
  | laload =>
    obtain ⟨hd, hl⟩ := hok
    cases one hl
    obtain ⟨v, q, st', rfl, e⟩ := x_ia_inv (f := fun i q st => (x_lld h q i).map (fun x => .inl (pc + 1, ls, .long x :: st, h))) ha
    obtain ⟨x, e1, e2⟩ := x_map_inv e
    cases e2
    obtain ⟨n, f, g1, g2, rfl⟩ := x_lld_inv e1
    exact va_lald hx hb hK hP q 1 (x_W_get g1) rfl g2 hd (kk ad H LS locs (hr'.st kp))
  | iastore =>
    obtain ⟨hd, hl⟩ := hok
    cases one hl
    obtain ⟨x, j, q, st', rfl, e⟩ := x_iia_inv (f := fun x i q st => (x_ist h q 0 i x).map (fun h' => .inl (pc + 1, ls, st, h'))) ha
    obtain ⟨h', e1, e2⟩ := x_map_inv e
    cases e2
    obtain ⟨n, f, g1, g2, rfl⟩ := x_ist_inv e1
    refine va_iast hx hb hK hP hD hS q 0 (x_W_get g1) rfl g2 hd (fun H1 locs1 hP1 hD1 hS1 => ?_)
    have ew : (x_W cA ad h).set q (ad q, .inl (cA 0, n, .inl (upd f j.toNatClampNeg x))) = x_W cA ad (x_set h q (.inl (0, n, .inl (upd f j.toNatClampNeg x)))) := x_W_set (c := .inl (0, n, .inl (upd f j.toNatClampNeg x)))
    rw [ew] at hP1 hD1
    exact kk ad H1 LS locs1 (hr'.to kp hP1 hD1 hS1 hL)
  | bastore =>
    obtain ⟨hd, hl⟩ := hok
    cases one hl
    obtain ⟨x, j, q, st', rfl, e⟩ := x_iia_inv (f := fun x i q st => (x_ist h q 2 i (vp_nar .boolean x)).map (fun h' => .inl (pc + 1, ls, st, h'))) ha
    obtain ⟨h', e1, e2⟩ := x_map_inv e
    cases e2
    obtain ⟨n, f, g1, g2, rfl⟩ := x_ist_inv e1
    refine va_zast hx hb hK hP hD hS q 2 (x_W_get g1) rfl g2 hd (fun H1 locs1 hP1 hD1 hS1 => ?_)
    have ew : (x_W cA ad h).set q (ad q, .inl (cA 2, n, .inl (upd f j.toNatClampNeg (vp_nar .boolean x)))) = x_W cA ad (x_set h q (.inl (2, n, .inl (upd f j.toNatClampNeg (vp_nar .boolean x))))) := x_W_set (c := .inl (2, n, .inl (upd f j.toNatClampNeg (vp_nar .boolean x))))
    rw [ew] at hP1 hD1
    exact kk ad H1 LS locs1 (hr'.to kp hP1 hD1 hS1 hL)
  | lastore =>
    obtain ⟨hd, hl⟩ := hok
    cases one hl
    obtain ⟨x, j, q, st', rfl, e⟩ := x_lia_inv (f := fun x i q st => (x_lst h q i x).map (fun h' => .inl (pc + 1, ls, st, h'))) ha
    obtain ⟨h', e1, e2⟩ := x_map_inv e
    cases e2
    obtain ⟨n, f, g1, g2, rfl⟩ := x_lst_inv e1
    refine va_last hx hb hK hP hD hS q 1 (x_W_get g1) rfl g2 hd (fun H1 locs1 hP1 hD1 hS1 => ?_)
    have ew : (x_W cA ad h).set q (ad q, .inl (cA 1, n, .inr (.inl (vp_updL f j.toNatClampNeg x)))) = x_W cA ad (x_set h q (.inl (1, n, .inr (.inl (vp_updL f j.toNatClampNeg x))))) := x_W_set (c := .inl (1, n, .inr (.inl (vp_updL f j.toNatClampNeg x))))
    rw [ew] at hP1 hD1
    exact kk ad H1 LS locs1 (hr'.to kp hP1 hD1 hS1 hL)
  | arraylength =>
    obtain ⟨hd, hl⟩ := hok
    cases one hl
    obtain ⟨q, st', rfl, e⟩ := x_a_inv (f := fun q st => (x_len h q).map (fun n => .inl (pc + 1, ls, .int (Int32.ofNat n) :: st, h))) ha
    obtain ⟨n, e1, e2⟩ := x_map_inv e
    cases e2
    obtain ⟨t, f, ht, g1⟩ := x_len_inv e1
    have K := kk ad H LS locs (hr'.st kp)
    match t, ht, g1 with
    | 0, _, g1 => exact va_alen hx hb hK hP q 0 (x_W_get g1) (ty := .int) rfl rfl hd K
    | 1, _, g1 => exact va_alen hx hb hK hP q 1 (x_W_get g1) (ty := .long) rfl rfl hd K
    | 2, _, g1 => exact va_alen hx hb hK hP q 2 (x_W_get g1) (ty := .boolean) rfl rfl hd K
  | newarray t =>
    obtain ⟨hd, hl⟩ := hok
    cases one hl
    have eN : h.1 + 1 - n0 = h.1 - n0 + 1 := by omega
    have eW : ∀ w, h.2.1 + w - w0 = h.2.1 - w0 + w := fun w => by omega
    match st, t, hd, ha, hr', r10, kp with
    | .int n :: st, .int, hd, ha, hr', r10, kp =>
      obtain ⟨⟨g1, g2⟩, ha⟩ := x_grd_inv ha
      cases x_go_inv ha
      have hc : h.1 + 1 - n0 ≤ R.cells := hc
      have hs : h.2.1 + n.toNatClampNeg - w0 ≤ R.slots := hs
      rw [eN] at hc
      rw [eW] at hs
      refine va_newa (atype := .int) (a0 := (n.toNatClampNeg, .inl (fun _ => 0))) hx hb (hts _ x_ac_int) rfl hK hP hD hS hA (fun _ => rfl) g1 rfl (by show _ * 4 ≤ _; omega) hc hs hd (fun q cA' H1 hK1 hP1 hD1 hS1 => ?_)
      cases x_same_ty hK1 0 rfl (Or.inl rfl)
      have K := kk _ H1 LS locs (x_new_rel hr' kp hP1 hD1 hS1 rfl)
      have hu : ∀ i, i < h.1 → va_up ad h.1 q i = ad i := fun i hi => if_neg (Nat.ne_of_lt hi)
      rw [show List.map (x_v (va_up ad h.1 q)) (.ref h.1 :: st) = .ref q :: st.map (x_v ad) by
        rw [List.map_cons, x_vl_ext (x_wl_cons.mp r10).2 hu]; simp [x_v, va_up]] at K
      rw [← eN, ← eW]
      exact K
    | .int n :: st, .long, hd, ha, hr', r10, kp =>
      obtain ⟨⟨g1, g2⟩, ha⟩ := x_grd_inv ha
      cases x_go_inv ha
      have hc : h.1 + 1 - n0 ≤ R.cells := hc
      have hs : h.2.1 + n.toNatClampNeg - w0 ≤ R.slots := hs
      rw [eN] at hc
      rw [eW] at hs
      refine va_newa (atype := .long) (a0 := (n.toNatClampNeg, .inr (.inl (fun _ => 0)))) hx hb (hts _ x_ac_long) rfl hK hP hD hS hA (fun _ => rfl) g1 rfl (by show _ * 8 ≤ _; omega) hc hs hd (fun q cA' H1 hK1 hP1 hD1 hS1 => ?_)
      cases x_same_ty hK1 1 rfl (Or.inr (Or.inl rfl))
      have K := kk _ H1 LS locs (x_new_rel hr' kp hP1 hD1 hS1 rfl)
      have hu : ∀ i, i < h.1 → va_up ad h.1 q i = ad i := fun i hi => if_neg (Nat.ne_of_lt hi)
      rw [show List.map (x_v (va_up ad h.1 q)) (.ref h.1 :: st) = .ref q :: st.map (x_v ad) by
        rw [List.map_cons, x_vl_ext (x_wl_cons.mp r10).2 hu]; simp [x_v, va_up]] at K
      rw [← eN, ← eW]
      exact K
    | .int n :: st, .boolean, hd, ha, hr', r10, kp =>
      obtain ⟨⟨g1, g2⟩, ha⟩ := x_grd_inv ha
      cases x_go_inv ha
      have hc : h.1 + 1 - n0 ≤ R.cells := hc
      have hs : h.2.1 + n.toNatClampNeg - w0 ≤ R.slots := hs
      rw [eN] at hc
      rw [eW] at hs
      refine va_newa (atype := .boolean) (a0 := (n.toNatClampNeg, .inl (fun _ => 0))) hx hb (hts _ x_ac_boolean) rfl hK hP hD hS hA (fun _ => rfl) g1 rfl (by show _ * 1 ≤ _; omega) hc hs hd (fun q cA' H1 hK1 hP1 hD1 hS1 => ?_)
      cases x_same_ty hK1 2 rfl (Or.inr (Or.inr rfl))
      have K := kk _ H1 LS locs (x_new_rel hr' kp hP1 hD1 hS1 rfl)
      have hu : ∀ i, i < h.1 → va_up ad h.1 q i = ad i := fun i hi => if_neg (Nat.ne_of_lt hi)
      rw [show List.map (x_v (va_up ad h.1 q)) (.ref h.1 :: st) = .ref q :: st.map (x_v ad) by
        rw [List.map_cons, x_vl_ext (x_wl_cons.mp r10).2 hu]; simp [x_v, va_up]] at K
      rw [← eN, ← eW]
      exact K
    | .int n :: st, .char, hd, ha, hr', r10, kp => cases (x_grd_inv ha).2
    | .int n :: st, .float, hd, ha, hr', r10, kp => cases (x_grd_inv ha).2
    | .int n :: st, .double, hd, ha, hr', r10, kp => cases (x_grd_inv ha).2
    | .int n :: st, .byte, hd, ha, hr', r10, kp => cases (x_grd_inv ha).2
    | .int n :: st, .short, hd, ha, hr', r10, kp => cases (x_grd_inv ha).2
  | new ci =>
    obtain ⟨idx, C, T, N, hd, rfl, hcl, hw⟩ := hok
    unfold x_act at ha
    dsimp only at ha
    rw [hcl] at ha
    dsimp only at ha
    cases x_go_inv ha
    obtain ⟨c1, c2, c3, c4, c5⟩ := x_cl_ok hcl
    have eN : h.1 + 1 - n0 = h.1 - n0 + 1 := by omega
    have eW : h.2.1 + N - w0 = h.2.1 - w0 + N := by omega
    have hc : h.1 + 1 - n0 ≤ R.cells := hc
    have hs : h.2.1 + N - w0 ≤ R.slots := hs
    rw [eN] at hc
    rw [eW] at hs
    refine va_new (D := D) (fs := (List.range N).map (fun k => defaultValue (x_ty ci k))) hx hb hts c1 (x_ty ci) c2 hown (hts _ hw) (hts _ c4) (hts _ c5) hK hP hD hS hA hcl (fun j hj => by simp [vp_V, List.getD, hj]) hc hs hd (fun q H1 hP1 hD1 hS1 => ?_)
    have K := kk _ H1 LS locs (x_new_rel hr' kp hP1 hD1 hS1 (by
      show Sum.inr (ci, List.map _ (List.map _ _)) = _
      rw [List.map_map]
      congr 2
      apply List.map_congr_left
      intro k _
      exact x_v_def _ _))
    have hu : ∀ i, i < h.1 → va_up ad h.1 q i = ad i := fun i hi => if_neg (Nat.ne_of_lt hi)
    rw [show List.map (x_v (va_up ad h.1 q)) (.ref h.1 :: st) = .ref q :: st.map (x_v ad) by
      rw [List.map_cons, x_vl_ext r10 hu]; simp [x_v, va_up]] at K
    rw [← eN, ← eW]
    exact K
  | invokespecial z =>
    obtain ⟨idx, hd, rfl, hw⟩ := hok
    obtain ⟨q, st', rfl, e⟩ := x_a_inv (f := fun q st => if Nat.ble st.length 4 = true then x_go (pc + 3) ls st h else none) ha
    obtain ⟨g, e⟩ := x_grd_inv e
    cases x_go_inv e
    refine W.objInit hx hb hown (hts _ hw) (hts _ x_oi1) (hts _ x_oi2) rfl (hL.1.trans (hnL.trans hml.symm)) (rest := st'.map (x_v ad)) rfl hd hR1 (by
      have := x_short ad g
      show 2 * 0 + _ + 12 ≤ _
      omega) ?_
    exact W.eq (g2 := F0 m (pc + 3) LS (st'.map (x_v ad))) rfl (kk ad H LS locs (hr'.st kp))
  | invokeinterface mi z =>
    have := (x_grd_inv (c := x_cok z st h = true) (a := some (.inr (.inl (mi, (st.take (x_cn z)).reverse, pc + len, ls, st.drop (x_cn z))))) ha).2
    cases this
  | _ => cases (show (none : Option x_A) = some (.inl k) from ha)
end XSTEP
