/-! WHOLE RUNS: a run of the small machine is a contract of the method -/
def x_ws (M : x_M) : List Cond := Cond.code M.1 M.2.1 M.2.2.1 M.2.2.2.1 :: x_tb
def x_rm (d mc ms : Nat) : Room := { frames := d + 1, cells := mc, slots := ms, locals := 64 * (d + 1) }
/-- what a method's table must hold -/
def x_J (P : Nat → x_M) (M : x_M) : Prop := plainName M.1.cls = true ∧ Cond.code M.1 M.2.1 M.2.2.1 M.2.2.2.1 ∈ x_tb ∧ Cond.initialized M.1.cls ∈ x_tb ∧ M.2.2.1 ≤ 30 ∧ ∀ pc i len, x_lk M.2.2.2.2 pc = some (i, len) → x_ok P M pc i len
def x_Pc (D : va_G) (cA : Nat → ClassId) (ad : Nat → Nat) (as : List Value) (h : x_H) (sz : Nat) : Array Value → State → Prop := va_Pc (as.map (x_v ad)) (fun U => U.heap.size = sz ∧ va_P D x_cl (x_W cA ad h) U.heap ∧ va_K D x_cl (x_tys cA) U ∧ x_NW U ∧ va_D (fun _ => True) (x_W cA ad h))
def x_Qc (D : va_G) (cA : Nat → ClassId) (ad : Nat → Nat) (n0 : Nat) (r : Option Value × x_H) (A : Nat → Prop) : Array Value → State → Outcome → State → Prop := fun _ st oc t =>
  (∃ ad', (∀ i, i < n0 → ad' i = ad i) ∧ oc = .returned (r.1.map (x_v ad')) ∧ va_P D x_cl (x_W cA ad' r.2) t.heap ∧ va_K D x_cl (x_tys cA) t ∧ va_D A (x_W cA ad' r.2)) ∧ va_F A st t
theorem x_ev_keep (P : Nat → x_M) : ∀ (n d : Nat) (cd : x_Cd) (pc : Nat) (ls st : List Value) (h : x_H) (r : Option Value × x_H), x_ev P n d cd pc ls st h = some r → x_wl h.1 ls → x_wl h.1 st → x_wh h → x_wh r.2 ∧ h.1 ≤ r.2.1 ∧ h.2.1 ≤ r.2.2.1 ∧ (r.1 = none ∨ ∃ x, r.1 = some (.int x)) := by
  intro n
  induction n with
  | zero => intro d cd pc ls st h r hr; simp [x_ev] at hr
  | succ n ih =>
    intro d cd pc ls st h r hr hl hs hw
    rw [x_ev] at hr
    cases hi : x_lk cd pc with
    | none => rw [hi] at hr; simp at hr
    | some il =>
      obtain ⟨i, len⟩ := il
      rw [hi, Option.bind_some] at hr
      dsimp only at hr
      generalize ha : x_act i len pc ls st h = o at hr
      match o, ha, hr with
      | none, ha, hr => simp at hr
      | some (.inl k), ha, hr =>
        obtain ⟨k1, k2, k3, k4, k5, k6⟩ := x_act_kp ha hl hs hw
        obtain ⟨r1, r2, r3, r4⟩ := ih _ _ _ _ _ _ _ hr k1 k2 k3
        exact ⟨r1, Nat.le_trans k4 r2, Nat.le_trans k5 r3, r4⟩
      | some (.inr (.inl (mi, as, pc', ls', st'))), ha, hr =>
        obtain ⟨z, rfl, hck, rfl, rfl, rfl, rfl⟩ := x_act_call ha
        match d, hr with
        | 0, hr => simp at hr
        | d' + 1, hr =>
          dsimp only at hr
          have hsa : x_wl h.1 (st.take (x_cn z)).reverse := fun v hv => hs v (List.mem_of_mem_take (List.mem_reverse.mp hv))
          have hsd : x_wl h.1 (st.drop (x_cn z)) := fun v hv => hs v (List.mem_of_mem_drop hv)
          cases hc : x_ev P n d' (P mi).2.2.2.2 0 (x_ent (st.take (x_cn z)).reverse (P mi).2.2.1) [] h with
          | none => rw [hc] at hr; simp at hr
          | some r1 =>
            rw [hc] at hr
            obtain ⟨c1, c2, c3, c4⟩ := ih _ _ _ _ _ _ _ hc (x_wl_ent hsa _) x_wl_nil hw
            have hv : x_wl r1.2.1 (r1.1.toList ++ st.drop (x_cn z)) := by
              refine x_wl_app ?_ (x_wl_le c2 hsd)
              rcases c4 with e | ⟨x, e⟩ <;> rw [e]
              · exact x_wl_nil
              · exact x_wl_cons.mpr ⟨x_wv_int _ _, x_wl_nil⟩
            obtain ⟨r1', r2, r3, r4⟩ := ih _ _ _ _ _ _ _ hr (x_wl_le c2 hl) hv c1
            exact ⟨r1', Nat.le_trans c2 r2, Nat.le_trans c3 r3, r4⟩
      | some (.inr (.inr v)), ha, hr =>
        cases hr
        refine ⟨hw, Nat.le_refl _, Nat.le_refl _, ?_⟩
        rcases x_act_ret ha with ⟨-, -, e⟩ | ⟨x, -, -, e⟩
        · exact Or.inl e
        · exact Or.inr ⟨x, e⟩
section XRUN
variable {P : Nat → x_M} {M : x_M} {p : Program} {l : Launch} {e : Env} {R : Room} {s : State} {m : MethodId} {args : Array Value} {below : List Frame} {meth : Method} {c : Code} {D : va_G} {cA : Nat → ClassId} {A : Nat → Prop} {Q : State → Prop} {n0 w0 : Nat} {ad0 : Nat → Nat}
theorem x_run {pc : Nat} {LS : Array Slot} {rest st0 : List Value} {a : Array Value} {H H0 : Heap} {locs : List Loc} {A1 : Nat → Prop} {cells slots mc ms : Nat} {ad : Nat → Nat} {n1 : Nat} {r : Option Value × x_H}
    (hr : va_Run p l e R s m args below meth c H locs cells slots mc ms (F0 m pc LS st0) rest (x_Qc D cA ad n1 r A1 a) A1) (hS : va_S A H0 H locs) (hA : ∀ q, A1 q → A q)
    (kk : ∀ (ad' : Nat → Nat) (H1 : Heap) (locs1 : List Loc), (∀ i, i < n1 → ad' i = ad i) → va_P D x_cl (x_W cA ad' r.2) H1 → va_D A (x_W cA ad' r.2) → va_S A H0 H1 locs1 → W p l e R s m args below meth c H1 locs1 (cells + mc) (slots + ms) Q (F0 m (pc + 3) LS ((r.1.map (x_v ad')).toList ++ rest))) : W p l e R s m args below meth c H locs cells slots Q (F0 m pc LS st0) := by
  intro T hT X
  obtain ⟨v, st₀, t, T', L, h0, X', hL, e1, e2, ⟨⟨ad', g1, hv, g2, g3, g4⟩, hz, hk⟩, st⟩ := hr T hT X
  cases hv
  rw [h0] at hz hk
  obtain ⟨t2, a1, b1⟩ := kk ad' T'.heap (locs ++ L) g1 (by rw [e1]; exact g2) (g4.weaken (fun _ _ _ h => hA _ h))
    ⟨Nat.le_trans hS.1 (by rw [e1]; exact hz), fun q h1 h2 => by rw [e1, hk q (Nat.lt_of_lt_of_le h1 hS.1) (fun z => h2 (hA q z))]; exact hS.2.1 q h1 h2, fun q hq => by
      rcases List.mem_append.mp hq with h | h
      · exact hS.2.2 q h
      · exact hA _ (hL q h)⟩ T' rfl X'
  exact ⟨t2, st t2 a1, b1⟩
theorem x_good (M : x_M) (h : Cond.code M.1 M.2.1 M.2.2.1 M.2.2.2.1 ∈ x_tb) : GoodIn x_tb (x_ws M) := by
  intro w hw
  rcases List.mem_cons.mp hw with rfl | hw
  · exact ⟨h, good_of_word (List.mem_filter.mp h).2⟩
  · exact ⟨hw, good_of_word (List.mem_filter.mp hw).2⟩
theorem x_blind {ad : Nat → Nat} {as : List Value} {h : x_H} {sz : Nat} : FrameBlind (x_Pc D cA ad as h sz) := by
  intro a U g mk ⟨h0, h1, h2, h3, h4, h5⟩
  exact ⟨h0, h1, h2, va_K.moved (u := U) (U := U.calling g mk a) (Vm.Alike.refl U.vm) h3, x_NW.same (u := U) (U := U.calling g mk a) rfl h4, h5⟩
set_option maxHeartbeats 4000000 in
/-- the call of a method whose contract is known -/
theorem x_call {d mi z len pc nL : Nat} {ls st : List Value} {h : x_H} {ad : Nat → Nat} {H : Heap} {LS : Array Slot} {locs : List Loc} {r : Option Value × x_H} {cells slots : Nat} (F : x_Fx M p s m meth c args D cA) (hnL : nL = M.2.2.1) (hA : ∀ q, s.heap.size ≤ q → A q) (J : x_J P (P mi))
    (hM : Met l (P mi).1 (x_ws (P mi)) (x_rm d (r.2.1 - h.1) (r.2.2.1 - h.2.1)) (x_Pc D cA ad (st.take (x_cn z)).reverse h H.size) (x_Qc D cA ad h.1 r (va_A (x_W cA ad h) H.size)) (r.2.1 - h.1) (r.2.2.1 - h.2.1) (va_A (x_W cA ad h) H.size))
    (hR1 : d + 2 ≤ R.frames) (hR2 : 64 * (d + 2) ≤ R.locals)
    (hok : x_okc P M pc mi z len) (hck : x_cok z st h = true) (hr : x_Rel D cA A n0 w0 ad0 s.heap nL ad H LS locs ls st h) (hc : cells + (r.2.1 - h.1) ≤ R.cells) (hs : slots + (r.2.2.1 - h.2.1) ≤ R.slots)
    (kk : ∀ (ad' : Nat → Nat) (H1 : Heap) (locs1 : List Loc), (∀ i, i < h.1 → ad' i = ad i) → va_P D x_cl (x_W cA ad' r.2) H1 → va_D A (x_W cA ad' r.2) → va_S A s.heap H1 locs1 → W p l e R s m args below meth c H1 locs1 (cells + (r.2.1 - h.1)) (slots + (r.2.2.1 - h.2.1)) Q (F0 m (pc + len) LS ((r.1.map (x_v ad')).toList ++ (st.drop (x_cn z)).map (x_v ad)))) :
    W p l e R s m args below meth c H locs cells slots Q (F0 m pc LS (st.map (x_v ad))) := by
  obtain ⟨hx, hb, hml, hown, hts, hK, hN, hnm⟩ := F
  obtain ⟨r1, r2, r3, hP, hD, hS, hL, r8, r9, r10, r11⟩ := hr
  obtain ⟨J1, J2, J3, J4, J5⟩ := J
  obtain ⟨idx, n, rfl, hd, hz, hok⟩ := hok
  have hlsz : LS.size = M.2.2.1 := hL.1.trans hnL
  have hG := x_good (P mi) J2
  have hA1 : ∀ q, va_A (x_W cA ad h) H.size q → A q := by
    rintro q (⟨k, e, hk⟩ | hq)
    · exact hD.2 k (q, e) hk
    · exact hA q (Nat.le_trans hS.1 hq)
  have hrm : (x_rm d (r.2.1 - h.1) (r.2.2.1 - h.2.1)).frames + 1 ≤ R.frames ∧ 8 + ((P mi).2.2.1 + 11) + (x_rm d (r.2.1 - h.1) (r.2.2.1 - h.2.1)).locals ≤ R.locals := by
    refine ⟨?_, ?_⟩
    · show d + 1 + 1 ≤ _; omega
    · show 8 + (_ + 11) + 64 * (d + 1) ≤ _; omega
  unfold x_cok at hck
  obtain ⟨b1, hck⟩ := Bool.and_eq_true_iff.mp hck
  obtain ⟨b2, hck⟩ := Bool.and_eq_true_iff.mp hck
  obtain ⟨b3, hck⟩ := Bool.and_eq_true_iff.mp hck
  have hlen : x_cn z ≤ st.length := Nat.le_of_ble_eq_true b1
  have hshort := x_short ad b2
  have hpre : ∀ U : State, U.heap = H → s.WarmedH U.vm → x_Pc D cA ad (st.take (x_cn z)).reverse h H.size ((st.take (x_cn z)).reverse.map (x_v ad)).toArray U := fun U hU hW =>
    ⟨rfl, by rw [hU], by rw [hU]; exact hP, va_K.moved hW.alike hK, hN.warm hW, hD.weaken (fun _ _ _ _ => trivial)⟩
  have hst : st.map (x_v ad) = ((st.take (x_cn z)).reverse.map (x_v ad)).reverse ++ (st.drop (x_cn z)).map (x_v ad) := by
    rw [← List.map_reverse, List.reverse_reverse, ← List.map_append, List.take_append_drop]
  have hla : ((st.take (x_cn z)).reverse.map (x_v ad)).length = x_cn z := by simp; omega
  have fin : ∀ (As : List Value), va_Run p l e R s m args below meth c H locs cells slots (r.2.1 - h.1) (r.2.2.1 - h.2.1) (F0 m pc LS (st.map (x_v ad))) ((st.drop (x_cn z)).map (x_v ad)) (x_Qc D cA ad h.1 r (va_A (x_W cA ad h) H.size) As.toArray) (va_A (x_W cA ad h) H.size) → W p l e R s m args below meth c H locs cells slots Q (F0 m pc LS (st.map (x_v ad))) := fun As hrun => x_run hrun hS hA1 kk
  -- the receiver, where there is one
  have recv : ∀ q, x_cn z = n + 1 → st[x_cn z - 1]? = some (.ref q) → ∃ As : List Value, (st.take (x_cn z)).reverse = .ref q :: As ∧ As.length = n := by
    intro q hzn hq
    have e1 : (st.take (x_cn z)).reverse[0]? = some (.ref q) := by
      rw [List.getElem?_reverse (by simp; omega)]
      simp only [List.length_take, Nat.min_eq_left hlen]
      rw [show x_cn z - 1 - 0 = x_cn z - 1 by omega, List.getElem?_take_of_lt (by omega)]
      exact hq
    match hx : (st.take (x_cn z)).reverse, e1 with
    | v :: As, e1 =>
      cases e1
      refine ⟨As, rfl, ?_⟩
      have := congrArg List.length hx
      simp only [List.length_reverse, List.length_take, Nat.min_eq_left hlen, List.length_cons] at this
      omega
  generalize hzz : z % 10 = zk at hok hck
  match zk, hok, hck with
  | 0, hok, hck =>
    obtain ⟨hdc, hzn, ⟨T, N, hcl⟩, w1, w2, w3⟩ := hok
    replace hck : x_rcv h (z / 10 % 100) st[x_cn z - 1]? = true := hck
    unfold x_rcv at hck
    split at hck
    · rename_i q hq
      obtain ⟨As, hAs, hAn⟩ := recv q hzn hq
      obtain ⟨fs, hg⟩ := x_isa_inv hck
      have hrv := va_recv hK hP hcl (x_W_get hg)
      rw [hAs] at hM hpre hst
      exact fin _ (va_runV (As := As.map (x_v ad)) (b := ad q) ⟨hx, hb, hml, hown, hts⟩ hM ⟨callB_of n hts hG rfl rfl rfl (hts _ J3) (hts _ w1) hd hrm, hts _ w2, hts _ w3⟩ ⟨x_blind, hrv, hpre⟩ rfl (by simpa using hAn) hlsz (by rw [hst]; simp [x_v]) (lv_room hshort) hdc ⟨hc, hs⟩)
    · cases hck
  | 1, hok, hck =>
    obtain ⟨hdc, hzn, w1, w2⟩ := hok
    exact fin _ (va_runS (As := (st.take (x_cn z)).reverse.map (x_v ad)) ⟨hx, hb, hml, hown, hts⟩ hM ⟨callB_of n hts hG rfl rfl rfl (hts _ J3) (hts _ w1) hd hrm, hts _ w2⟩ ⟨x_blind, hpre⟩ rfl (hla.trans hzn) hlsz hst (lv_room hshort) hdc ⟨hc, hs⟩)
  | 2, hok, hck =>
    obtain ⟨hdc, hzn, ⟨host, w1⟩, w2⟩ := hok
    exact fin _ (va_runSN (host := host) (As := (st.take (x_cn z)).reverse.map (x_v ad)) ⟨hx, hb, hml, hown, hts⟩ hM ⟨va_cnB n hts hG rfl rfl rfl (hN _ w1) (hts _ J3) hd hrm, hts _ w2, trivial⟩ ⟨x_blind, hpre⟩ rfl (hla.trans hzn) hlsz hst (lv_room hshort) hdc ⟨hc, hs⟩)
  | 3, hok, hck =>
    obtain ⟨hdc, hzn, w1, w2, w3, w4⟩ := hok
    replace hck : x_isr st[x_cn z - 1]? = true := hck
    unfold x_isr at hck
    split at hck
    · rename_i q hq
      obtain ⟨As, hAs, hAn⟩ := recv q hzn hq
      rw [hAs] at hM hpre hst
      have hG' : GoodIn x_tb (Cond.code (P mi).1 (P mi).2.1 (P mi).2.2.1 none :: x_tb) := by rw [← w4]; exact hG
      have hM' := hM
      unfold x_ws at hM'
      rw [w4] at hM'
      exact fin _ (va_runI (As := As.map (x_v ad)) (b := ad q) ⟨hx, hb, hml, hown, hts⟩ hM' (cwI n hts hG' rfl rfl rfl (hts _ J3) (hts _ w1) (hts _ w2) w3 hd hrm) ⟨x_blind, hpre⟩ rfl (by simpa using hAn) hlsz (by rw [hst]; simp [x_v]) (lv_room hshort) hdc ⟨hc, hs⟩)
    · cases hck
  | 4, hok, hck =>
    obtain ⟨hdc, hzn, ⟨host, w1⟩, w2, w3, w4⟩ := hok
    replace hck : x_isr st[x_cn z - 1]? = true := hck
    unfold x_isr at hck
    split at hck
    · rename_i q hq
      obtain ⟨As, hAs, hAn⟩ := recv q hzn hq
      rw [hAs] at hM hpre hst
      have hG' : GoodIn x_tb (Cond.code (P mi).1 (P mi).2.1 (P mi).2.2.1 none :: x_tb) := by rw [← w4]; exact hG
      have hM' := hM
      unfold x_ws at hM'
      rw [w4] at hM'
      exact fin _ (va_runIN (host := host) (As := As.map (x_v ad)) (b := ad q) ⟨hx, hb, hml, hown, hts⟩ hM' ⟨va_cnB n hts hG' rfl rfl rfl (hN _ w1) (hts _ J3) hd hrm, w3, hts _ w2⟩ ⟨x_blind, hpre⟩ rfl (by simpa using hAn) hlsz (by rw [hst]; simp [x_v]) (lv_room hshort) hdc ⟨hc, hs⟩)
    · cases hck
  | k + 5, hok, hck => exact absurd hok (by simp)
end XRUN
