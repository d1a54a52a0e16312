/-! A CALL OF THE LAW: the callee's world changes, the other stays -/
/-- apart from a world, and new since the start -/
def A2 (s : State) (W2 : va_W) : Nat → Prop := fun q => s.heap.size ≤ q ∧ ∀ (j : Nat) (p : Nat × va_E), W2[j]? = some p → q ≠ p.1
theorem A2.sym {s : State} {W1 W2 : va_W} (h1 : va_D (A2 s W2) W1) (h2 : va_D (fun q => s.heap.size ≤ q) W2) : va_D (A2 s W1) W2 ∧ va_D (fun q => s.heap.size ≤ q) W1 := ⟨⟨h2.1, fun k q hk => ⟨h2.2 k q hk, fun j p hj hpq => (h1.2 j p hj).2 k q hk hpq.symm⟩⟩, ⟨h1.1, fun k q hk => (h1.2 k q hk).1⟩⟩
section LAW
variable {p : Program} {l : Launch} {e : Env} {R : Room} {s : State} {m : MethodId} {args : Array Value} {below : List Frame} {meth : Method} {c : Code} {D : va_G} {cA : Nat → ClassId} {b : Nat} {Q : State → Prop} {H : Heap} {locs : List Loc} {cells slots : Nat}
theorem law_run {pc mc ms : Nat} {LS : Array Slot} {st0 rest : List Value} {a : Array Value} {h : x_H} {W2 : va_W} {ad : Nat → Nat} {r : Option Value × x_H} (hD1 : va_D (A2 s W2) (x_W cA ad h)) (hP2 : va_P D x_cl W2 H) (hS : va_S (fun q => s.heap.size ≤ q) s.heap H locs)
    (hr : va_Run p l e R s m args below meth c H locs cells slots mc ms (F0 m pc LS st0) rest (x_Qc D cA ad h.1 r (va_A (x_W cA ad h) H.size) a) (va_A (x_W cA ad h) H.size))
    (kk : ∀ (ad' : Nat → Nat) (H1 : Heap) (locs1 : List Loc), (∀ i, i < h.1 → ad' i = ad i) → va_P D x_cl (x_W cA ad' r.2) H1 → va_D (A2 s W2) (x_W cA ad' r.2) → va_P D x_cl W2 H1 → va_S (fun q => s.heap.size ≤ q) s.heap H1 locs1 → W p l e R s m args below meth c H1 locs1 (cells + mc) (slots + ms) Q (F0 m (pc + 3) LS ((r.1.map (x_v ad')).toList ++ rest))) : W p l e R s m args below meth c H locs cells slots Q (F0 m pc LS st0) := by
  intro T hT X
  obtain ⟨v, st₀, t, T', L, h0, X', hL, e1, e2, ⟨⟨ad', g1, hv, g2, g3, g4⟩, hz, hk⟩, st⟩ := hr T hT X
  cases hv
  rw [h0] at hz hk
  have hAA : ∀ q : Nat, va_A (x_W cA ad h) H.size q → s.heap.size ≤ q := by
    rintro q (⟨k, e, hk⟩ | hq)
    · exact (hD1.2 k (q, e) hk).1
    · exact Nat.le_trans hS.1 hq
  have apart : ∀ (k : Nat) (q : Nat × va_E), W2[k]? = some q → q.1 < H.size ∧ ¬ va_A (x_W cA ad h) H.size q.1 := by
    intro k q hq
    have hl := (hP2 k q hq).lt
    refine ⟨hl, ?_⟩
    rintro (⟨k2, e, h2⟩ | h2)
    · exact (hD1.2 k2 (q.1, e) h2).2 k q hq rfl
    · omega
  obtain ⟨t2, a1, b1⟩ := kk ad' T'.heap (locs ++ L) g1 (by rw [e1]; exact g2)
    (g4.weaken (fun k q _ hq => ⟨hAA q.1 hq, fun j p hj hpq => (apart j p hj).2 (by rw [← hpq]; exact hq)⟩))
    (hP2.kept (fun k q hq => by rw [e1]; exact hk q.1 (apart k q hq).1 (apart k q hq).2))
    ⟨Nat.le_trans hS.1 (by rw [e1]; exact hz), fun q h1 h2 => by rw [e1, hk q (Nat.lt_of_lt_of_le h1 hS.1) (fun z => h2 (hAA q z))]; exact hS.2.1 q h1 h2, fun q hq => by
      rcases List.mem_append.mp hq with h | h
      · exact hS.2.2 q h
      · exact hAA _ (hL q h)⟩ T' rfl X'
  exact ⟨t2, st t2 a1, b1⟩
/-- what holds of the law's frame -/
def lw_Fx (p : Program) (s : State) (m : MethodId) (c : Code) (D : va_G) (cA : Nat → ClassId) (b : Nat) : Prop := p.tables.exec = Jvm.exec ∧ c.code = code ∧ c.maxLocals = 4 ∧ s.vm.findClass R_law = some m.cls ∧ (∀ w ∈ lw_tbl, w.before #[Value.ref b] s = true) ∧ va_K D x_cl (x_tys cA) s ∧ x_NW s
def okw (n : Nat) (fs : List Value) : Bool := fs.all (fun v => match v with
  | .ref q => decide (q < n)
  | _ => true)
theorem okw_of {n : Nat} {fs : List Value} (h : okw n fs = true) : x_wl n fs := fun v hv q e => by
  have := List.all_eq_true.mp h v hv
  subst e
  exact of_decide_eq_true this
theorem x_ints {ad : Nat → Nat} {as : List Value} (hi : ∀ v ∈ as, ∃ x, v = .int x) : as.map (x_v ad) = as := by
  have : as.map (x_v ad) = as.map id := List.map_congr_left fun v hv => by
    obtain ⟨x, rfl⟩ := hi v hv
    rfl
  rw [this, List.map_id]
theorem x_ex_ints {as : List Value} (hi : ∀ v ∈ as, ∃ x, v = .int x) : (x_ex as).length = as.length := by
  induction as with
  | nil => rfl
  | cons v vs ih =>
    obtain ⟨x, rfl⟩ := hi v List.mem_cons_self
    show (x_ex vs).length + 1 = vs.length + 1
    rw [ih (fun w hw => hi w (List.mem_cons_of_mem _ hw))]
theorem law_virt (F : lw_Fx p s m c D cA b) {pc mi n idx ci : Nat} {LS : Array Slot} {as rest fs : List Value} {h : x_H} {W2 : va_W} {ad : Nat → Nat} {r : Option Value × x_H} (hLS : LS.size = 4) (hdg : decode code pc = .ok (.invokevirtual idx, 3)) (hok : lw_ok mi n idx ci) (hev : x_R x_P 30 mi (.ref 0 :: as) h = some r) (hn : as.length = n) (hi : ∀ v ∈ as, ∃ x, v = .int x) (h0 : 0 < h.1) (hc : h.2.2 0 = .inr (ci, fs)) (hw : x_wh h) (hrest : (rest.map fun v => v.category).sum ≤ 8) (z1 : r.2.1 = h.1) (z2 : r.2.2.1 = h.2.1) (hc1 : cells ≤ 600000) (hc2 : slots ≤ 7302250)
    (hP1 : va_P D x_cl (x_W cA ad h) H) (hD1 : va_D (A2 s W2) (x_W cA ad h)) (hP2 : va_P D x_cl W2 H) (hS : va_S (fun q => s.heap.size ≤ q) s.heap H locs)
    (kk : ∀ (ad' : Nat → Nat) (H1 : Heap) (locs1 : List Loc), ad' 0 = ad 0 → va_P D x_cl (x_W cA ad' r.2) H1 → va_D (A2 s W2) (x_W cA ad' r.2) → va_P D x_cl W2 H1 → va_S (fun q => s.heap.size ≤ q) s.heap H1 locs1 → W p l e room_1 s m #[Value.ref b] below meth c H1 locs1 cells slots Q (F0 m (pc + 3) LS ((r.1.map (x_v ad')).toList ++ rest))) : W p l e room_1 s m #[Value.ref b] below meth c H locs cells slots Q (F0 m pc LS (as.reverse ++ .ref (ad 0) :: rest)) := by
  obtain ⟨hx, hb, hml, hown, hts, hK, hN⟩ := F
  obtain ⟨hd, ⟨T, N, hcl⟩, w1, w2, w3, hfit⟩ := hok
  obtain ⟨J1, J2, J3, J4, J5⟩ := x_JP mi
  have hts2 : ∀ w ∈ x_tb, w.before #[Value.ref b] s = true := fun w hw => hts w (x_tb_in hw)
  have hG := x_good (x_P mi) J2
  obtain ⟨n', hev'⟩ := x_E_iff.mp hev
  have hg : x_get h 0 = some (.inr (ci, fs)) := by unfold x_get; rw [if_pos h0, hc]
  have hM := x_met x_JP l D cA 29 mi ad (.ref 0 :: as) h r H.size n' hev' (x_wl_cons.mpr ⟨fun q e => by cases e; exact h0, fun v hv => by obtain ⟨x, rfl⟩ := hi v hv; exact x_wv_int _ _⟩) hw (by
    show (x_ex as).length + 1 ≤ _
    rw [x_ex_ints hi, hn]
    exact hfit)
  rw [z1, z2, Nat.sub_self, Nat.sub_self] at hM
  have hrv := va_recv hK hP1 hcl (x_W_get hg)
  have hrm : (x_rm 29 0 0).frames + 1 ≤ room_1.frames ∧ 8 + ((x_P mi).2.2.1 + 11) + (x_rm 29 0 0).locals ≤ room_1.locals := by
    refine ⟨?_, ?_⟩
    · show 29 + 1 + 1 ≤ 2048; omega
    · show 8 + (_ + 11) + 64 * (29 + 1) ≤ 84000; omega
  have hpre : ∀ U : State, U.heap = H → s.WarmedH U.vm → x_Pc D cA ad (.ref 0 :: as) h H.size (Value.ref (ad 0) :: as).toArray U := fun U hU hW => by
    refine ⟨?_, by rw [hU], by rw [hU]; exact hP1, va_K.moved hW.alike hK, hN.warm hW, hD1.weaken (fun _ _ _ _ => trivial)⟩
    show _ = (Value.ref (ad 0) :: as.map (x_v ad)).toArray
    rw [x_ints hi]
  refine law_run hD1 hP2 hS (va_runV (As := as) (rest := rest) ⟨hx, hb, hml, hown, hts2⟩ hM ⟨callB_of n hts2 hG rfl rfl rfl (hts2 _ J3) (hts _ w1) hd hrm, hts _ w2, hts _ w3⟩ ⟨x_blind, hrv, hpre⟩ rfl hn hLS rfl (lv_room hrest) hdg ⟨hc1, hc2⟩) (fun ad' H1 locs1 q1 q2 q3 q4 q5 => ?_)
  exact kk ad' H1 locs1 (q1 0 h0) q2 q3 q4 q5
/-- the law's locals -/
def lw_ls (b a1 a2 i : Nat) : List (Nat × Value) := [(0, .ref b), (1, .ref a1), (2, .ref a2), (3, .int (nI i))]
theorem law_arg (F : lw_Fx p s m c D cA b) {pc i j L a1 a2 : Nat} {xs : Nat → Int32} {jv : Int} {ls : Array Slot} {st : List Value} (hX : va_X b L xs s s.heap) (hbl : b < s.heap.size) (hS : va_S (fun q => s.heap.size ≤ q) s.heap H locs) (hl : lv_has ls 4 (lw_ls b a1 a2 i)) (hi : i + 5 ≤ L) (hL : L ≤ 320) (hj : j < 5) (d0 : decode code pc = .ok (.aload_n 0, 1)) (d1 : decode code (pc + 1) = .ok (.iload_n 3, 1)) (d2 : decode code (pc + 2) = .ok (.iconst jv, 1)) (d3 : decode code (pc + 3) = .ok (.iadd, 1)) (d4 : decode code (pc + 4) = .ok (.iaload, 1)) (hjv : Int32.ofInt jv = nI j)
    (kk : W p l e R s m args below meth c H locs cells slots Q (F0 m (pc + 5) ls (.int (xs (i + j)) :: st))) : W p l e R s m args below meth c H locs cells slots Q (F0 m pc ls st) := by
  obtain ⟨hx, hb, -⟩ := F
  have hbA : ¬ (fun q : Nat => s.heap.size ≤ q) b := Nat.not_le.mpr hbl
  refine lv_aload_n hx hb d0 rfl (lv_at hl 0 rfl) ?_
  refine lv_iload_n hx hb d1 rfl (lv_at hl 3 rfl) ?_
  refine lv_iconst (v := nI j) hx hb d2 hjv ?_
  refine lv_iadd hx hb d3 ?_
  rw [nI_add]
  refine va_sld hx hb hX hbl hbA hS (vp_in_nI (by omega) (by omega)) d4 ?_
  rw [nI_clamp (by omega)]
  exact kk
end LAW
