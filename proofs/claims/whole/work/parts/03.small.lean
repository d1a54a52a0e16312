/-! THE SMALL MACHINE: a plain machine over numbered cells, whose runs are runs of the real one (part 04) -/
def x_j : Value := .retAddr 0
abbrev x_C : Type := (Nat × vp_A) ⊕ (Nat × List Value)
/-- how many cells there are, how many places they have in all, the cells -/
abbrev x_H : Type := Nat × Nat × (Nat → x_C)
/-- place, instruction, length, index in the pool, place of the word -/
abbrev x_Cd : Type := List (Nat × Instr × Nat × Nat × Nat)
/-- name, bytes, locals, what it returns, code -/
abbrev x_M : Type := MethodName × ByteArray × Nat × Option FieldType × x_Cd
abbrev x_K : Type := Nat × List Value × List Value × x_H
abbrev x_A : Type := x_K ⊕ ((Nat × List Value × Nat × List Value × List Value) ⊕ Option Value)
def x_get (h : x_H) (q : Nat) : Option x_C := if q < h.1 then some (h.2.2 q) else none
def x_set (h : x_H) (q : Nat) (c : x_C) : x_H := (h.1, h.2.1, fun j => if j = q then c else h.2.2 j)
def x_new (h : x_H) (w : Nat) (c : x_C) : x_H := (h.1 + 1, h.2.1 + w, fun j => if j = h.1 then c else h.2.2 j)
def x_inb (i : Int32) (n : Nat) : Bool := decide (¬ i < 0) && decide (i.toNatClampNeg < n)
def x_fld (h : x_H) (q ci k : Nat) : Option Value := match x_get h q with
  | some (.inr (c, fs)) => if c = ci then fs[k]? else none
  | _ => none
def x_pfd (h : x_H) (q ci k : Nat) (v : Value) : Option x_H := match x_get h q with
  | some (.inr (c, fs)) => if c = ci ∧ k < fs.length then some (x_set h q (.inr (c, fs.set k v))) else none
  | _ => none
def x_ild (h : x_H) (q t : Nat) (i : Int32) : Option Int32 := match x_get h q with
  | some (.inl (t', n, .inl f)) => if t' = t ∧ x_inb i n = true then some (f i.toNatClampNeg) else none
  | _ => none
def x_ist (h : x_H) (q t : Nat) (i x : Int32) : Option x_H := match x_get h q with
  | some (.inl (t', n, .inl f)) => if t' = t ∧ x_inb i n = true then some (x_set h q (.inl (t', n, .inl (upd f i.toNatClampNeg x)))) else none
  | _ => none
def x_lld (h : x_H) (q : Nat) (i : Int32) : Option Int64 := match x_get h q with
  | some (.inl (t', n, .inr (.inl f))) => if t' = 1 ∧ x_inb i n = true then some (f i.toNatClampNeg) else none
  | _ => none
def x_lst (h : x_H) (q : Nat) (i : Int32) (x : Int64) : Option x_H := match x_get h q with
  | some (.inl (t', n, .inr (.inl f))) => if t' = 1 ∧ x_inb i n = true then some (x_set h q (.inl (t', n, .inr (.inl (vp_updL f i.toNatClampNeg x))))) else none
  | _ => none
def x_len (h : x_H) (q : Nat) : Option Nat := match x_get h q with
  | some (.inl (t, n, f)) => if t < 3 then some n else none
  | _ => none
def x_isa (h : x_H) (q ci : Nat) : Bool := match x_get h q with
  | some (.inr (c, _)) => Nat.beq c ci
  | _ => false
/-- a value may stand in a field -/
def x_fok (t : FieldType) (v : Value) : Bool := match t, v with
  | .int, .int _ => true
  | .boolean, .int b => decide (b = 0) || decide (b = 1)
  | .long, .long _ => true
  | .object _, .ref _ => true
  | .array _, .ref _ => true
  | _, _ => false
def x_go (pc : Nat) (ls st : List Value) (h : x_H) : Option x_A := some (.inl (pc, ls, st, h))
def x_tg (pc : Nat) (off : Int) : Nat := ((pc : Int) + off).toNat
def x_kill (ls : List Value) (i : Nat) : List Value := match i with
  | 0 => ls
  | i + 1 => match ls[i]? with
    | some (.long _) => ls.set i x_j
    | some (.double _) => ls.set i x_j
    | _ => ls
def x_st1 (ls : List Value) (i : Nat) (v : Value) : List Value := (x_kill ls i).set i v
def x_st2 (ls : List Value) (i : Nat) (v : Value) : List Value := ((x_kill ls i).set i v).set (i + 1) x_j
def x_ldi (i len pc : Nat) (ls st : List Value) (h : x_H) : Option x_A := match ls[i]? with
  | some (.int x) => x_go (pc + len) ls (.int x :: st) h
  | _ => none
def x_lda (i len pc : Nat) (ls st : List Value) (h : x_H) : Option x_A := match ls[i]? with
  | some (.ref x) => x_go (pc + len) ls (.ref x :: st) h
  | _ => none
def x_ldl (i len pc : Nat) (ls st : List Value) (h : x_H) : Option x_A := match ls[i]? with
  | some (.long x) => x_go (pc + len) ls (.long x :: st) h
  | _ => none
def x_sti (i len pc : Nat) (ls st : List Value) (h : x_H) : Option x_A := match st with
  | .int x :: st => if i < ls.length then x_go (pc + len) (x_st1 ls i (.int x)) st h else none
  | _ => none
def x_sta (i len pc : Nat) (ls st : List Value) (h : x_H) : Option x_A := match st with
  | .ref x :: st => if i < ls.length then x_go (pc + len) (x_st1 ls i (.ref x)) st h else none
  | _ => none
def x_stl (i len pc : Nat) (ls st : List Value) (h : x_H) : Option x_A := match st with
  | .long x :: st => if i + 1 < ls.length then x_go (pc + len) (x_st2 ls i (.long x)) st h else none
  | _ => none
def x_ii (f : Int32 → Int32 → Int32) (len pc : Nat) (ls st : List Value) (h : x_H) : Option x_A := match st with
  | .int y :: .int x :: st => x_go (pc + len) ls (.int (f x y) :: st) h
  | _ => none
def x_ll (f : Int64 → Int64 → Int64) (len pc : Nat) (ls st : List Value) (h : x_H) : Option x_A := match st with
  | .long y :: .long x :: st => x_go (pc + len) ls (.long (f x y) :: st) h
  | _ => none
def x_rcv (h : x_H) (ci : Nat) (v : Option Value) : Bool := match v with
  | some (.ref q) => x_isa h q ci
  | _ => false
def x_isr (v : Option Value) : Bool := match v with
  | some (.ref _) => true
  | _ => false
def x_ex : List Value → List Value
  | [] => []
  | v :: vs => if v.category = 2 then v :: x_j :: x_ex vs else v :: x_ex vs
def x_cn (z : Nat) : Nat := z / 1000 % 100
def x_cok (z : Nat) (st : List Value) (h : x_H) : Bool := Nat.ble (x_cn z) st.length && (Nat.ble (st.drop (x_cn z)).length 4 && (Nat.ble (x_ex (st.take (x_cn z)).reverse).length (z / 100000) && (match z % 10 with
  | 0 => x_rcv h (z / 10 % 100) st[x_cn z - 1]?
  | 3 => x_isr st[x_cn z - 1]?
  | 4 => x_isr st[x_cn z - 1]?
  | _ => true)))
/-- what an instruction does -/
def x_act (i : Instr) (len pc : Nat) (ls st : List Value) (h : x_H) : Option x_A := match i with
  | .iconst n => x_go (pc + len) ls (.int (Int32.ofInt n) :: st) h
  | .bipush n => x_go (pc + len) ls (.int (Int8.ofInt n).toInt32 :: st) h
  | .sipush n => x_go (pc + len) ls (.int (Int16.ofInt n).toInt32 :: st) h
  | .jsr n => x_go (pc + len) ls (.int (Int32.ofInt n) :: st) h
  | .jsr_w n => x_go (pc + len) ls (.int (Int32.ofInt n) :: st) h
  | .lconst n => x_go (pc + len) ls (.long (Int64.ofNat n) :: st) h
  | .goto_w n => x_go (pc + len) ls (.long (Int64.ofInt n) :: st) h
  | .iload_n k => x_ldi k len pc ls st h
  | .iload k => x_ldi k len pc ls st h
  | .aload_n k => x_lda k len pc ls st h
  | .aload k => x_lda k len pc ls st h
  | .lload_n k => x_ldl k len pc ls st h
  | .lload k => x_ldl k len pc ls st h
  | .istore_n k => x_sti k len pc ls st h
  | .istore k => x_sti k len pc ls st h
  | .astore_n k => x_sta k len pc ls st h
  | .astore k => x_sta k len pc ls st h
  | .lstore k => x_stl k len pc ls st h
  | .lstore_n k => x_stl k len pc ls st h
  | .iinc k n => match ls[k]? with
    | some (.int x) => x_go (pc + len) (x_st1 ls k (.int (x + Int32.ofInt n))) st h
    | _ => none
  | .dup => match st with
    | .ref q :: st => x_go (pc + len) ls (.ref q :: .ref q :: st) h
    | .int x :: st => x_go (pc + len) ls (.int x :: .int x :: st) h
    | _ => none
  | .dup2 => match st with
    | .int x :: .ref q :: st => x_go (pc + len) ls (.int x :: .ref q :: .int x :: .ref q :: st) h
    | _ => none
  | .iadd => x_ii (fun x y => x + y) len pc ls st h
  | .isub => x_ii (fun x y => x - y) len pc ls st h
  | .imul => x_ii (fun x y => x * y) len pc ls st h
  | .iand => x_ii (fun x y => x &&& y) len pc ls st h
  | .ior => x_ii (fun x y => x ||| y) len pc ls st h
  | .ixor => x_ii (fun x y => x ^^^ y) len pc ls st h
  | .ishl => x_ii (fun x y => x <<< (y &&& 31)) len pc ls st h
  | .ishr => x_ii (fun x y => x >>> (y &&& 31)) len pc ls st h
  | .iushr => x_ii (fun x y => (x.toUInt32 >>> (y.toUInt32 &&& Int32.toUInt32 31)).toInt32) len pc ls st h
  | .pop => match st with
    | .int y :: .int x :: st => if Nat.ble st.length 4 = true then x_go (pc + len) ls (.int (if x < y then y else x) :: st) h else none
    | _ => none
  | .pop2 => match st with
    | .int y :: .int x :: st => if Nat.ble st.length 4 = true then x_go (pc + len) ls (.int (if y < x then y else x) :: st) h else none
    | _ => none
  | .idiv => match st with
    | .int y :: .int x :: st => if ¬ y = 0 then x_go (pc + len) ls (.int (x / y) :: st) h else none
    | _ => none
  | .irem => match st with
    | .int y :: .int x :: st => if ¬ y = 0 then x_go (pc + len) ls (.int (x - x / y * y) :: st) h else none
    | _ => none
  | .ladd => x_ll (fun x y => x + y) len pc ls st h
  | .lmul => x_ll (fun x y => x * y) len pc ls st h
  | .land => x_ll (fun x y => x &&& y) len pc ls st h
  | .ldiv => match st with
    | .long y :: .long x :: st => if ¬ y = 0 then x_go (pc + len) ls (.long (x / y) :: st) h else none
    | _ => none
  | .lrem => match st with
    | .long y :: .long x :: st => if ¬ y = 0 then x_go (pc + len) ls (.long (x - x / y * y) :: st) h else none
    | _ => none
  | .i2l => match st with
    | .int x :: st => x_go (pc + len) ls (.long x.toInt64 :: st) h
    | _ => none
  | .l2i => match st with
    | .long x :: st => x_go (pc + len) ls (.int x.toInt32 :: st) h
    | _ => none
  | .lcmp => match st with
    | .long y :: .long x :: st => x_go (pc + len) ls (.int (lg_cmp x y) :: st) h
    | _ => none
  | .goto off => x_go (x_tg pc off) ls st h
  | .ifCond c off => match st with
    | .int x :: st => match c with
      | .eq => x_go (if x = 0 then x_tg pc off else pc + len) ls st h
      | .ne => x_go (if x = 0 then pc + len else x_tg pc off) ls st h
      | .lt => x_go (if x < 0 then x_tg pc off else pc + len) ls st h
      | .ge => x_go (if 0 ≤ x then x_tg pc off else pc + len) ls st h
      | .gt => x_go (if 0 < x then x_tg pc off else pc + len) ls st h
      | .le => x_go (if x ≤ 0 then x_tg pc off else pc + len) ls st h
    | _ => none
  | .if_icmp c off => match st with
    | .int y :: .int x :: st => match c with
      | .eq => x_go (if x = y then x_tg pc off else pc + len) ls st h
      | .ne => x_go (if x = y then pc + len else x_tg pc off) ls st h
      | .lt => x_go (if x < y then x_tg pc off else pc + len) ls st h
      | .ge => x_go (if y ≤ x then x_tg pc off else pc + len) ls st h
      | .gt => x_go (if y < x then x_tg pc off else pc + len) ls st h
      | .le => x_go (if x ≤ y then x_tg pc off else pc + len) ls st h
    | _ => none
  | .tableswitch dflt lo hi offs => match st with
    | .int x :: st => if x.toInt < lo ∨ hi < x.toInt then x_go (x_tg pc dflt) ls st h else match offs[(x.toInt - lo).toNat]? with
      | some off => x_go (x_tg pc off) ls st h
      | none => none
    | _ => none
  | .lookupswitch dflt ps => match st with
    | .int x :: st => x_go (x_tg pc (Op.lookupswitch.offset ps.toList dflt x.toInt)) ls st h
    | _ => none
  | .ireturn => match st with
    | [.int v] => some (.inr (.inr (some (.int v))))
    | _ => none
  | .areturn => match st with
    | [.int v] => if v &&& 1 = v then some (.inr (.inr (some (.int v)))) else none
    | _ => none
  | .return_ => match st with
    | [] => some (.inr (.inr none))
    | _ => none
  | .getfield z => match st with
    | .ref q :: st => (x_fld h q (z / 64) (z % 64)).map (fun v => .inl (pc + len, ls, v :: st, h))
    | _ => none
  | .putfield z => match st with
    | v :: .ref q :: st => if x_fok (x_ty (z / 64) (z % 64)) v = true then (x_pfd h q (z / 64) (z % 64) v).map (fun h' => .inl (pc + len, ls, st, h')) else none
    | _ => none
  | .putstatic z => match st with
    | v :: .ref q :: st => if x_fok (x_ty (z / 64) (z % 64)) v = true then (x_pfd h q (z / 64) (z % 64) v).map (fun h' => .inl (pc + len, ls, st, h')) else none
    | _ => none
  | .iaload => match st with
    | .int i :: .ref q :: st => (x_ild h q 0 i).map (fun x => .inl (pc + len, ls, .int x :: st, h))
    | _ => none
  | .baload => match st with
    | .int i :: .ref q :: st => (x_ild h q 2 i).map (fun x => .inl (pc + len, ls, .int x :: st, h))
    | _ => none
  | .laload => match st with
    | .int i :: .ref q :: st => (x_lld h q i).map (fun x => .inl (pc + len, ls, .long x :: st, h))
    | _ => none
  | .iastore => match st with
    | .int x :: .int i :: .ref q :: st => (x_ist h q 0 i x).map (fun h' => .inl (pc + len, ls, st, h'))
    | _ => none
  | .bastore => match st with
    | .int x :: .int i :: .ref q :: st => (x_ist h q 2 i (vp_nar .boolean x)).map (fun h' => .inl (pc + len, ls, st, h'))
    | _ => none
  | .lastore => match st with
    | .long x :: .int i :: .ref q :: st => (x_lst h q i x).map (fun h' => .inl (pc + len, ls, st, h'))
    | _ => none
  | .arraylength => match st with
    | .ref q :: st => (x_len h q).map (fun n => .inl (pc + len, ls, .int (Int32.ofNat n) :: st, h))
    | _ => none
  | .newarray t => match st with
    | .int n :: st => if ¬ n < 0 ∧ n.toNatClampNeg ≤ 100000 then match t with
      | .int => x_go (pc + len) ls (.ref h.1 :: st) (x_new h n.toNatClampNeg (.inl (0, n.toNatClampNeg, .inl (fun _ => 0))))
      | .long => x_go (pc + len) ls (.ref h.1 :: st) (x_new h n.toNatClampNeg (.inl (1, n.toNatClampNeg, .inr (.inl (fun _ => 0)))))
      | .boolean => x_go (pc + len) ls (.ref h.1 :: st) (x_new h n.toNatClampNeg (.inl (2, n.toNatClampNeg, .inl (fun _ => 0))))
      | _ => none
      else none
    | _ => none
  | .new ci => match x_cl[ci]? with
    | some (_, _, N) => x_go (pc + len) ls (.ref h.1 :: st) (x_new h N (.inr (ci, (List.range N).map (fun k => defaultValue (x_ty ci k)))))
    | none => none
  | .invokespecial _ => match st with
    | .ref _ :: st => if Nat.ble st.length 4 = true then x_go (pc + len) ls st h else none
    | _ => none
  | .invokeinterface mi z => if x_cok z st h = true then some (.inr (.inl (mi, (st.take (x_cn z)).reverse, pc + len, ls, st.drop (x_cn z)))) else none
  | _ => none
def x_lk : x_Cd → Nat → Option (Instr × Nat)
  | [], _ => none
  | (p, i, n, _, _) :: r, pc => match Nat.beq p pc with
    | true => some (i, n)
    | false => x_lk r pc
def x_ent (vs : List Value) (n : Nat) : List Value := x_ex vs ++ List.replicate (n - (x_ex vs).length) x_j
/-- n steps, d calls deep -/
def x_ev (P : Nat → x_M) : Nat → Nat → x_Cd → Nat → List Value → List Value → x_H → Option (Option Value × x_H)
  | 0, _, _, _, _, _, _ => none
  | n + 1, d, cd, pc, ls, st, h => match (x_lk cd pc).bind (fun i => x_act i.1 i.2 pc ls st h) with
    | none => none
    | some (.inl k) => x_ev P n d cd k.1 k.2.1 k.2.2.1 k.2.2.2
    | some (.inr (.inl k)) => match d with
      | 0 => none
      | d' + 1 => match x_ev P n d' (P k.1).2.2.2.2 0 (x_ent k.2.1 (P k.1).2.2.1) [] h with
        | none => none
        | some r => x_ev P n (d' + 1) cd k.2.2.1 k.2.2.2.1 (r.1.toList ++ k.2.2.2.2) r.2
    | some (.inr (.inr v)) => some (v, h)
theorem x_ev_mono (P : Nat → x_M) : ∀ (n d : Nat) (cd : x_Cd) (pc : Nat) (ls st : List Value) (h : x_H) (r : Option Value × x_H), x_ev P n d cd pc ls st h = some r → x_ev P (n + 1) d cd pc ls st h = some r := by
  intro n
  induction n with
  | zero => intro d cd pc ls st h r hr; simp [x_ev] at hr
  | succ n ih =>
    intro d cd pc ls st h r hr
    rw [x_ev] at hr ⊢
    generalize (x_lk cd pc).bind (fun i => x_act i.1 i.2 pc ls st h) = o at hr ⊢
    match o, hr with
    | none, hr => simp at hr
    | some (.inl k), hr => exact ih _ _ _ _ _ _ _ hr
    | some (.inr (.inl k)), hr =>
      match d, hr with
      | 0, hr => simp at hr
      | d' + 1, hr =>
        dsimp only at hr ⊢
        cases hc : x_ev P n d' (P k.1).2.2.2.2 0 (x_ent k.2.1 (P k.1).2.2.1) [] h with
        | none => rw [hc] at hr; simp at hr
        | some r1 =>
          rw [hc] at hr
          rw [ih _ _ _ _ _ _ _ hc]
          exact ih _ _ _ _ _ _ _ hr
    | some (.inr (.inr v)), hr => exact hr
theorem x_ev_le (P : Nat → x_M) {n m : Nat} (hm : n ≤ m) {d : Nat} {cd : x_Cd} {pc : Nat} {ls st : List Value} {h : x_H} {r : Option Value × x_H} (hr : x_ev P n d cd pc ls st h = some r) : x_ev P m d cd pc ls st h = some r := by
  induction hm with
  | refl => exact hr
  | step _ ih => exact x_ev_mono P _ _ _ _ _ _ _ _ ih

/-- where the small machine comes to from here, however long it takes -/
noncomputable def x_E (P : Nat → x_M) (d : Nat) (cd : x_Cd) (pc : Nat) (ls st : List Value) (h : x_H) : Option (Option Value × x_H) :=
  @dite _ (∃ (r : Option Value × x_H), ∃ n, x_ev P n d cd pc ls st h = some r) (Classical.propDecidable _) (fun H => some H.choose) (fun _ => none)
theorem x_E_iff {P : Nat → x_M} {d : Nat} {cd : x_Cd} {pc : Nat} {ls st : List Value} {h : x_H} {r : Option Value × x_H} : x_E P d cd pc ls st h = some r ↔ ∃ n, x_ev P n d cd pc ls st h = some r := by
  unfold x_E
  constructor
  · intro hr
    split at hr
    next H =>
      cases hr
      exact H.choose_spec
    next => simp at hr
  · intro ⟨n, hn⟩
    have H : ∃ (r : Option Value × x_H), ∃ n, x_ev P n d cd pc ls st h = some r := ⟨r, n, hn⟩
    rw [dif_pos H]
    obtain ⟨m, hm⟩ := H.choose_spec
    have h1 := x_ev_le P (Nat.le_max_left n m) hn
    have h2 := x_ev_le P (Nat.le_max_right n m) hm
    rw [h1] at h2
    exact h2.symm
/-- a call -/
noncomputable def x_R (P : Nat → x_M) (d mi : Nat) (as : List Value) (h : x_H) : Option (Option Value × x_H) := match d with
  | 0 => none
  | d' + 1 => x_E P d' (P mi).2.2.2.2 0 (x_ent as (P mi).2.2.1) [] h
theorem x_E_eq (P : Nat → x_M) (d : Nat) (cd : x_Cd) (pc : Nat) (ls st : List Value) (h : x_H) : x_E P d cd pc ls st h = match (x_lk cd pc).bind (fun i => x_act i.1 i.2 pc ls st h) with
    | none => none
    | some (.inl k) => x_E P d cd k.1 k.2.1 k.2.2.1 k.2.2.2
    | some (.inr (.inl k)) => (x_R P d k.1 k.2.1 h).bind (fun r => x_E P d cd k.2.2.1 k.2.2.2.1 (r.1.toList ++ k.2.2.2.2) r.2)
    | some (.inr (.inr v)) => some (v, h) := by
  apply Option.ext
  intro r
  rw [x_E_iff]
  have e : (∃ n, x_ev P n d cd pc ls st h = some r) ↔ ∃ n, x_ev P (n + 1) d cd pc ls st h = some r :=
    ⟨fun ⟨n, hn⟩ => ⟨n, x_ev_mono P _ _ _ _ _ _ _ _ hn⟩, fun ⟨n, hn⟩ => ⟨n + 1, hn⟩⟩
  rw [e]
  simp only [x_ev]
  generalize (x_lk cd pc).bind (fun i => x_act i.1 i.2 pc ls st h) = o
  match o with
  | none => simp
  | some (.inl k) => exact x_E_iff.symm
  | some (.inr (.inl k)) =>
    match d with
    | 0 => simp [x_R]
    | d' + 1 =>
      dsimp only [x_R]
      constructor
      · intro ⟨n, hn⟩
        cases hc : x_ev P n d' (P k.1).2.2.2.2 0 (x_ent k.2.1 (P k.1).2.2.1) [] h with
        | none => rw [hc] at hn; simp at hn
        | some r1 =>
          rw [hc] at hn
          rw [x_E_iff.mpr ⟨n, hc⟩]
          exact x_E_iff.mpr ⟨n, hn⟩
      · intro hr
        cases hc : x_E P d' (P k.1).2.2.2.2 0 (x_ent k.2.1 (P k.1).2.2.1) [] h with
        | none => rw [hc] at hr; simp at hr
        | some r1 =>
          rw [hc] at hr
          obtain ⟨n1, h1⟩ := x_E_iff.mp hc
          obtain ⟨n2, h2⟩ := x_E_iff.mp (show x_E P (d' + 1) cd k.2.2.1 k.2.2.2.1 (r1.1.toList ++ k.2.2.2.2) r1.2 = some r from hr)
          refine ⟨max n1 n2, ?_⟩
          rw [x_ev_le P (Nat.le_max_left n1 n2) h1]
          exact x_ev_le P (Nat.le_max_right n1 n2) h2
  | some (.inr (.inr v)) => simp
section XE
variable {P : Nat → x_M} {d : Nat} {cd : x_Cd} {pc len : Nat} {i : Instr} {ls st : List Value} {h : x_H}
theorem x_E_go {k : x_K} (hk : x_lk cd pc = some (i, len)) (ha : x_act i len pc ls st h = some (.inl k)) : x_E P d cd pc ls st h = x_E P d cd k.1 k.2.1 k.2.2.1 k.2.2.2 := by
  rw [x_E_eq, hk]
  show (match x_act i len pc ls st h with | none => none | some (.inl k) => _ | some (.inr (.inl k)) => _ | some (.inr (.inr v)) => _) = _
  rw [ha]
theorem x_E_if {c : Prop} [Decidable c] {a b : Nat} {ls' st' : List Value} {h' : x_H} (hk : x_lk cd pc = some (i, len)) (ha : x_act i len pc ls st h = some (.inl (if c then a else b, ls', st', h'))) : x_E P d cd pc ls st h = if c then x_E P d cd a ls' st' h' else x_E P d cd b ls' st' h' := by
  rw [x_E_go hk ha]
  by_cases hc : c <;> simp [hc]
theorem x_E_opt {α : Type} {o : Option α} {f : α → x_K} (hk : x_lk cd pc = some (i, len)) (ha : x_act i len pc ls st h = o.map (fun x => .inl (f x))) : x_E P d cd pc ls st h = o.bind (fun x => x_E P d cd (f x).1 (f x).2.1 (f x).2.2.1 (f x).2.2.2) := by
  rw [x_E_eq, hk]
  show (match x_act i len pc ls st h with | none => none | some (.inl k) => _ | some (.inr (.inl k)) => _ | some (.inr (.inr v)) => _) = _
  rw [ha]
  cases o <;> rfl
theorem x_E_grd {c : Prop} [Decidable c] {k : x_K} (hk : x_lk cd pc = some (i, len)) (ha : x_act i len pc ls st h = if c then some (.inl k) else none) : x_E P d cd pc ls st h = if c then x_E P d cd k.1 k.2.1 k.2.2.1 k.2.2.2 else none := by
  rw [x_E_eq, hk]
  show (match x_act i len pc ls st h with | none => none | some (.inl k) => _ | some (.inr (.inl k)) => _ | some (.inr (.inr v)) => _) = _
  rw [ha]
  by_cases hc : c <;> simp [hc]
theorem x_E_call {mi pc' : Nat} {as ls' st' : List Value} (hk : x_lk cd pc = some (i, len)) (ha : x_act i len pc ls st h = some (.inr (.inl (mi, as, pc', ls', st')))) : x_E P d cd pc ls st h = (x_R P d mi as h).bind (fun r => x_E P d cd pc' ls' (r.1.toList ++ st') r.2) := by
  rw [x_E_eq, hk]
  show (match x_act i len pc ls st h with | none => none | some (.inl k) => _ | some (.inr (.inl k)) => _ | some (.inr (.inr v)) => _) = _
  rw [ha]
theorem x_E_callv {c : Prop} [Decidable c] {mi pc' : Nat} {as ls' st' : List Value} (hk : x_lk cd pc = some (i, len)) (ha : x_act i len pc ls st h = if c then some (.inr (.inl (mi, as, pc', ls', st'))) else none) : x_E P d cd pc ls st h = if c then (x_R P d mi as h).bind (fun r => x_E P d cd pc' ls' (r.1.toList ++ st') r.2) else none := by
  rw [x_E_eq, hk]
  show (match x_act i len pc ls st h with | none => none | some (.inl k) => _ | some (.inr (.inl k)) => _ | some (.inr (.inr v)) => _) = _
  rw [ha]
  by_cases hc : c <;> simp [hc]
theorem x_E_ret {v : Option Value} (hk : x_lk cd pc = some (i, len)) (ha : x_act i len pc ls st h = some (.inr (.inr v))) : x_E P d cd pc ls st h = some (v, h) := by
  rw [x_E_eq, hk]
  show (match x_act i len pc ls st h with | none => none | some (.inl k) => _ | some (.inr (.inl k)) => _ | some (.inr (.inr v)) => _) = _
  rw [ha]
theorem x_E_retb {c : Prop} [Decidable c] {v : Option Value} (hk : x_lk cd pc = some (i, len)) (ha : x_act i len pc ls st h = if c then some (.inr (.inr v)) else none) : x_E P d cd pc ls st h = if c then some (v, h) else none := by
  rw [x_E_eq, hk]
  show (match x_act i len pc ls st h with | none => none | some (.inl k) => _ | some (.inr (.inl k)) => _ | some (.inr (.inr v)) => _) = _
  rw [ha]
  by_cases hc : c <;> simp [hc]
theorem x_R_eq (d mi : Nat) (as : List Value) (h : x_H) : x_R P (d + 1) mi as h = x_E P d (P mi).2.2.2.2 0 (x_ent as (P mi).2.2.1) [] h := rfl
end XE
