/-! EVERY METHOD'S CONTRACT out of a run of the small machine -/
set_option maxHeartbeats 4000000 in
theorem x_frame {P : Nat → x_M} (J : ∀ mi, x_J P (P mi)) {l : Launch} {D : va_G} {cA : Nat → ClassId} {d mi : Nat}
    (IH : ∀ d', d = d' + 1 → ∀ (mi : Nat) (ad : Nat → Nat) (as : List Value) (h : x_H) (r : Option Value × x_H) (sz n : Nat), x_ev P n d' (P mi).2.2.2.2 0 (x_ent as (P mi).2.2.1) [] h = some r → x_wl h.1 as → x_wh h → (x_ex as).length ≤ (P mi).2.2.1 → Met l (P mi).1 (x_ws (P mi)) (x_rm d' (r.2.1 - h.1) (r.2.2.1 - h.2.1)) (x_Pc D cA ad as h sz) (x_Qc D cA ad h.1 r (va_A (x_W cA ad h) sz)) (r.2.1 - h.1) (r.2.2.1 - h.2.1) (va_A (x_W cA ad h) sz))
    {p : Program} {e : Env} {s : State} {m : MethodId} {args : Array Value} {below : List Frame} {meth : Method} {c : Code} (F : x_Fx (P mi) p s m meth c args D cA) (hret : meth.sig.returnType = (P mi).2.2.2.1) (hlocks : meth.locks = false)
    {A : Nat → Prop} (hA : ∀ q, s.heap.size ≤ q → A q) {n0 w0 : Nat} {ad0 : Nat → Nat} (r : Option Value × x_H) :
    ∀ (n pc : Nat) (ls st : List Value) (h : x_H), x_ev P n d (P mi).2.2.2.2 pc ls st h = some r → ∀ (ad : Nat → Nat) (H : Heap) (LS : Array Slot) (locs : List Loc), x_Rel D cA A n0 w0 ad0 s.heap (P mi).2.2.1 ad H LS locs ls st h →
      W p l e (x_rm d (r.2.1 - n0) (r.2.2.1 - w0)) s m args below meth c H locs (h.1 - n0) (h.2.1 - w0) (MQ below (x_Qc D cA ad0 n0 r A) args s (r.2.1 - n0) (r.2.2.1 - w0) A) (F0 m pc LS (st.map (x_v ad))) := by
  intro n
  induction n with
  | zero => intro pc ls st h hev; simp [x_ev] at hev
  | succ n ih =>
    intro pc ls st h hev ad H LS locs hr
    have hr' := hr
    obtain ⟨r1, r2, r3, hP, hD, hS, hL, r8, r9, r10, r11⟩ := hr
    rw [x_ev] at hev
    cases hi : x_lk (P mi).2.2.2.2 pc with
    | none => rw [hi] at hev; simp at hev
    | some il =>
      obtain ⟨i, len⟩ := il
      rw [hi, Option.bind_some] at hev
      dsimp only at hev
      have hok := (J mi).2.2.2.2 pc i len hi
      generalize ha : x_act i len pc ls st h = o at hev
      match o, ha, hev with
      | none, ha, hev => simp at hev
      | some (.inl k), ha, hev =>
        obtain ⟨k1, k2, k3, k4, k5, k6⟩ := x_act_kp ha r9 r10 r11
        obtain ⟨e1, e2, e3, e4⟩ := x_ev_keep P _ _ _ _ _ _ _ _ hev k1 k2 k3
        exact x_step F rfl hA (Nat.le_add_left 1 d) (by show 64 ≤ 64 * (d + 1); omega) hok ha hr' (Nat.sub_le_sub_right e2 _) (Nat.sub_le_sub_right e3 _) (fun ad' H' LS' locs' hr2 => ih _ _ _ _ hev ad' H' LS' locs' hr2)
      | some (.inr (.inl (mi', as, pc', ls', st'))), ha, hev =>
        obtain ⟨z, rfl, hck, rfl, rfl, rfl, rfl⟩ := x_act_call ha
        match d, IH, ih, hev with
        | 0, IH, ih, hev => simp at hev
        | d' + 1, IH, ih, hev =>
          dsimp only at hev
          have hsa : x_wl h.1 (st.take (x_cn z)).reverse := fun v hv => r10 v (List.mem_of_mem_take (List.mem_reverse.mp hv))
          have hsd : x_wl h.1 (st.drop (x_cn z)) := fun v hv => r10 v (List.mem_of_mem_drop hv)
          have hck' := hck
          unfold x_cok at hck'
          obtain ⟨b1, hck'⟩ := Bool.and_eq_true_iff.mp hck'
          obtain ⟨b2, hck'⟩ := Bool.and_eq_true_iff.mp hck'
          obtain ⟨b3, -⟩ := Bool.and_eq_true_iff.mp hck'
          have hokc : x_okc P (P mi) pc mi' z len := hok
          have hfit : (x_ex (st.take (x_cn z)).reverse).length ≤ (P mi').2.2.1 := by
            obtain ⟨idx, n', -, -, hz, -⟩ := hokc
            exact Nat.le_trans (Nat.le_of_ble_eq_true b3) hz
          cases hc : x_ev P n d' (P mi').2.2.2.2 0 (x_ent (st.take (x_cn z)).reverse (P mi').2.2.1) [] h with
          | none => rw [hc] at hev; simp at hev
          | some rc =>
            rw [hc] at hev
            dsimp only at hev
            obtain ⟨c1, c2, c3, c4⟩ := x_ev_keep P _ _ _ _ _ _ _ _ hc (x_wl_ent hsa _) x_wl_nil r11
            have hv : x_wl rc.2.1 (rc.1.toList ++ st.drop (x_cn z)) := by
              refine x_wl_app ?_ (x_wl_le c2 hsd)
              rcases c4 with e | ⟨x, e⟩ <;> rw [e]
              · exact x_wl_nil
              · exact x_wl_cons.mpr ⟨x_wv_int _ _, x_wl_nil⟩
            obtain ⟨e1, e2, e3, e4⟩ := x_ev_keep P _ _ _ _ _ _ _ _ hev (x_wl_le c2 r9) hv c1
            have hM := IH d' rfl mi' ad (st.take (x_cn z)).reverse h rc H.size n hc hsa r11 hfit
            refine x_call F rfl hA (J mi') hM (Nat.le_refl _) (Nat.le_refl _) hokc hck hr' (by show _ ≤ r.2.1 - n0; omega) (by show _ ≤ r.2.2.1 - w0; omega) (fun ad' H1 locs1 q1 q2 q3 q4 => ?_)
            have K := ih _ _ _ _ hev ad' H1 LS locs1 ⟨fun i hi => (q1 i (Nat.lt_of_lt_of_le hi r2)).trans (r1 i hi), Nat.le_trans r2 c2, Nat.le_trans r3 c3, q2, q3, q4, x_lv_sub hL (by
              intro ⟨j, u⟩ hq
              obtain ⟨v, g1, g2, g3⟩ := x_lv_mem.mp hq
              exact x_lv_mem.mpr ⟨v, g1, g2, g3.trans (x_v_ext (x_wl_get r9 g1) q1)⟩), r8, x_wl_le c2 r9, hv, c1⟩
            rw [show h.1 - n0 + (rc.2.1 - h.1) = rc.2.1 - n0 by omega, show h.2.1 - w0 + (rc.2.2.1 - h.2.1) = rc.2.2.1 - w0 by omega]
            rw [List.map_append, x_vl_ext hsd q1] at K
            have eo : (rc.1.map (x_v ad')).toList = rc.1.toList.map (x_v ad') := by cases rc.1 <;> rfl
            rw [eo]
            exact K
      | some (.inr (.inr v)), ha, hev =>
        cases hev
        obtain ⟨hx, hb, hml, hown, hts, hK, hN, hnm⟩ := F
        have hq : ∀ t : State, t.heap = H → s.WarmedH t.vm → x_Qc D cA ad0 n0 (v, h) A args s (.returned (v.map (x_v ad))) t := fun t ht hW => ⟨⟨ad, r1, rfl, by rw [ht]; exact hP, va_K.moved hW.alike hK, hD⟩, hS.F ht⟩
        rcases x_act_ret ha with ⟨rfl, rfl, rfl⟩ | ⟨x, hi2, rfl, rfl⟩
        · obtain ⟨hd, hm⟩ := hok
          exact W.vret hx hb (hret.trans hm) hq hS.2.2 hd hlocks
        · rcases hi2 with rfl | ⟨rfl, hx1⟩
          · obtain ⟨hd, hm⟩ := hok
            exact W.iret hx hb (hret.trans hm) hq hS.2.2 hd hlocks
          · obtain ⟨hd, hm⟩ := hok
            exact W.zret hx hb (hret.trans hm) (by show Value.int (x &&& 1) = _; rw [hx1]) hq hS.2.2 hd hlocks
set_option maxHeartbeats 4000000 in
theorem x_met {P : Nat → x_M} (J : ∀ mi, x_J P (P mi)) (l : Launch) (D : va_G) (cA : Nat → ClassId) : ∀ (d mi : Nat) (ad : Nat → Nat) (as : List Value) (h : x_H) (r : Option Value × x_H) (sz n : Nat), x_ev P n d (P mi).2.2.2.2 0 (x_ent as (P mi).2.2.1) [] h = some r → x_wl h.1 as → x_wh h → (x_ex as).length ≤ (P mi).2.2.1 → Met l (P mi).1 (x_ws (P mi)) (x_rm d (r.2.1 - h.1) (r.2.2.1 - h.2.1)) (x_Pc D cA ad as h sz) (x_Qc D cA ad h.1 r (va_A (x_W cA ad h) sz)) (r.2.1 - h.1) (r.2.2.1 - h.2.1) (va_A (x_W cA ad h) sz) := by
  intro d
  induction d with
  | zero =>
    intro mi ad as h r sz n hev hwa hwh hfit
    refine Met.ofW (cc := (P mi).2.1) (maxL := (P mi).2.2.1) (ret := (P mi).2.2.2.1) (J mi).1 rfl ?_
    intro p e s m args below meth c s₁ B hml hv
    obtain ⟨rfl, hsz, hP, hK, hN, hD0⟩ := hv
    have hts := atoms_spec (ws := x_ws (P mi)) B.pre
    subst hsz
    have hA : ∀ q : Nat, s.heap.size ≤ q → va_A (x_W cA ad h) s.heap.size q := fun q h => Or.inr h
    have hl := lv_entry (as.map (x_v ad)) (n := (P mi).2.2.1) (by rw [x_ex_len]; exact hfit)
    rw [lg_entry_eq]
    have K := x_frame J (l := l) (D := D) (cA := cA) (d := 0) (mi := mi) (fun d' z => by cases z) (e := e) (below := below) ⟨B.exec, B.bytes, hml, findClass_of_methodNamed B.named, fun w hw => hts w (List.mem_cons_of_mem _ hw), hK, hN, (name_of_methodNamed B.named B.method).1⟩ B.returns B.notSynchronized hA (n0 := h.1) (w0 := h.2.1) (ad0 := ad) r n 0 (x_ent as (P mi).2.2.1) [] h hev ad s.heap _ [] ⟨fun _ _ => rfl, Nat.le_refl _, Nat.le_refl _, hP, hD0.self, va_S.rf, x_lv_sub hl (x_ent_at ad as _), x_ent_len as hfit, x_wl_ent hwa _, x_wl_nil, hwh⟩
    rw [Nat.sub_self, Nat.sub_self] at K
    exact K
  | succ d ih =>
    intro mi ad as h r sz n hev hwa hwh hfit
    refine Met.ofW (cc := (P mi).2.1) (maxL := (P mi).2.2.1) (ret := (P mi).2.2.2.1) (J mi).1 rfl ?_
    intro p e s m args below meth c s₁ B hml hv
    obtain ⟨rfl, hsz, hP, hK, hN, hD0⟩ := hv
    have hts := atoms_spec (ws := x_ws (P mi)) B.pre
    subst hsz
    have hA : ∀ q : Nat, s.heap.size ≤ q → va_A (x_W cA ad h) s.heap.size q := fun q h => Or.inr h
    have hl := lv_entry (as.map (x_v ad)) (n := (P mi).2.2.1) (by rw [x_ex_len]; exact hfit)
    rw [lg_entry_eq]
    have K := x_frame J (l := l) (D := D) (cA := cA) (d := d + 1) (mi := mi) (fun d' z => by cases z; exact ih) (e := e) (below := below) ⟨B.exec, B.bytes, hml, findClass_of_methodNamed B.named, fun w hw => hts w (List.mem_cons_of_mem _ hw), hK, hN, (name_of_methodNamed B.named B.method).1⟩ B.returns B.notSynchronized hA (n0 := h.1) (w0 := h.2.1) (ad0 := ad) r n 0 (x_ent as (P mi).2.2.1) [] h hev ad s.heap _ [] ⟨fun _ _ => rfl, Nat.le_refl _, Nat.le_refl _, hP, hD0.self, va_S.rf, x_lv_sub hl (x_ent_at ad as _), x_ent_len as hfit, x_wl_ent hwa _, x_wl_nil, hwh⟩
    rw [Nat.sub_self, Nat.sub_self] at K
    exact K
