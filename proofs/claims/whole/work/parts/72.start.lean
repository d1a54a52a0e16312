/-! THE LAW FROM ITS ENTRY -/
theorem and31 (x : Int32) : ∃ k, k < 32 ∧ x &&& 31 = nI k := by
  refine ⟨(x &&& 31).toBitVec.toNat, ?_, ?_⟩
  · rw [Int32.toBitVec_and, BitVec.toNat_and]
    exact Nat.lt_of_le_of_lt Nat.and_le_right (by decide)
  · apply Int32.toBitVec_inj.mp
    apply BitVec.eq_of_toNat_eq
    show _ = (BitVec.ofNat 32 _).toNat
    rw [BitVec.toNat_ofNat, Nat.mod_eq_of_lt (BitVec.isLt _)]
section LAW
variable {p : Program} {l : Launch} {e : Env} {s : State} {m : MethodId} {below : List Frame} {meth : Method} {c : Code} {D : va_G} {cA : Nat → ClassId} {b : Nat} {Q : State → Prop} {H : Heap} {locs : List Loc} {cells slots : Nat}
theorem law_loop (F : lw_Fx p s m c D cA b) (hr : meth.sig.returnType = ret) (hlocks : meth.locks = false) {L a1 a2 : Nat} {xs : Nat → Int32} (hX : va_X b L xs s s.heap) (hbl : b < s.heap.size) (hL : L ≤ 320) : ∀ (n i : Nat) (H : Heap) (locs : List Loc) (ls : Array Slot), L < i + n → i < 1000 → lw_W s D cA H locs a1 a2 → lv_has ls 4 (lw_ls b a1 a2 i) → W p l e room_1 s m #[Value.ref b] below meth c H locs 107 1800 (lw_Z below #[Value.ref b] s) (F0 m 18 ls []) := by
  have hx := F.1
  have hb := F.2.1
  have hbA : ¬ (fun q : Nat => s.heap.size ≤ q) b := Nat.not_le.mpr hbl
  intro n
  induction n with
  | zero =>
    intro i H locs ls hn hi1 hW hl
    refine lv_iload_n hx hb d_law_18 rfl (lv_at hl 3 rfl) ?_
    refine lv_aload_n hx hb d_law_19 rfl (lv_at hl 0 rfl) ?_
    refine va_slen hx hb hX hbl hbA hW.S d_law_20 ?_
    refine lv_iconst (v := 5) hx hb d_law_21 (by decide) ?_
    refine lv_isub hx hb d_law_22 ?_
    refine lv_icmp_gt (tgt := 948) hx hb d_law_23 (by decide) (fun z => ?_) (fun z => ?_)
    · refine lv_iconst (v := 1) hx hb d_law_948 (by decide) ?_
      refine va_forget (fun q hq => hW.S.2.2 q hq) ?_
      refine W.widen (k := 600000) (n := 7302250) (by omega) (by omega) ?_
      exact lw_ret hx hb hr hlocks d_law_949
    · refine absurd ?_ z
      have e1 : (Int32.ofNat L - 5).toInt = (L : Int) - 5 := pk_sub_toInt (a := L) (b := 5) (by omega) (by omega)
      rw [Int32.lt_iff_toInt_lt, e1, nI_toInt (by omega)]
      omega
  | succ n ih =>
    intro i H locs ls hn hi1 hW hl
    refine lv_iload_n hx hb d_law_18 rfl (lv_at hl 3 rfl) ?_
    refine lv_aload_n hx hb d_law_19 rfl (lv_at hl 0 rfl) ?_
    refine va_slen hx hb hX hbl hbA hW.S d_law_20 ?_
    refine lv_iconst (v := 5) hx hb d_law_21 (by decide) ?_
    refine lv_isub hx hb d_law_22 ?_
    refine lv_icmp_gt (tgt := 948) hx hb d_law_23 (by decide) (fun z => ?_) (fun z => ?_)
    · refine lv_iconst (v := 1) hx hb d_law_948 (by decide) ?_
      refine va_forget (fun q hq => hW.S.2.2 q hq) ?_
      refine W.widen (k := 600000) (n := 7302250) (by omega) (by omega) ?_
      exact lw_ret hx hb hr hlocks d_law_949
    · have e1 : (Int32.ofNat L - 5).toInt = (L : Int) - 5 := pk_sub_toInt (a := L) (b := 5) (by omega) (by omega)
      rw [Int32.lt_iff_toInt_lt, e1, nI_toInt (by omega)] at z
      have hi : i + 5 ≤ L := by omega
      refine lv_aload_n hx hb d_law_26 rfl (lv_at hl 0 rfl) ?_
      refine lv_iload_n hx hb d_law_27 rfl (lv_at hl 3 rfl) ?_
      refine va_sld hx hb hX hbl hbA hW.S (vp_in_nI (by omega) (by omega)) d_law_28 ?_
      refine lv_bipush (v := 31) hx hb d_law_29 (by decide) ?_
      refine lv_iand hx hb d_law_31 ?_
      obtain ⟨k, hk, ek⟩ := and31 (xs (nI i).toNatClampNeg)
      rw [ek]
      have kk : ∀ (H1 : Heap) (locs1 : List Loc), lw_W s D cA H1 locs1 a1 a2 → W p l e room_1 s m #[Value.ref b] below meth c H1 locs1 107 1800 (lw_Z below #[Value.ref b] s) (F0 m 942 ls []) := by
        intro H1 locs1 hW1
        refine lv_iinc (v := nI (i + 5)) (lv' := [(3, .int (nI (i + 5))), (0, .ref b), (1, .ref a1), (2, .ref a2)]) hx hb d_law_942 hl (k := 3) rfl (by rw [show Int32.ofInt 5 = nI 5 from rfl, nI_add]) (by decide) rfl (fun ls2 hl2 => ?_)
        refine lv_goto (tgt := 18) hx hb d_law_945 (by decide) ?_
        exact ih (i + 5) H1 locs1 ls2 (by omega) (by omega) hW1 (lv_sub hl2 [1, 2, 3, 0] rfl)
      clear ek ih
      match k, hk with
      | 0, _ => exact lv_tableIn (off := 144) (tgt := 176) hx hb d_law_32 (by decide) (by decide) (by decide) (by decide) (law_k0 F hX hbl hl hi hL hW kk)
      | 1, _ => exact lv_tableIn (off := 167) (tgt := 199) hx hb d_law_32 (by decide) (by decide) (by decide) (by decide) (law_k1 F hX hbl hl hi hL hW kk)
      | 2, _ => exact lv_tableIn (off := 180) (tgt := 212) hx hb d_law_32 (by decide) (by decide) (by decide) (by decide) (law_k2 F hX hbl hl hi hL hW kk)
      | 3, _ => exact lv_tableIn (off := 193) (tgt := 225) hx hb d_law_32 (by decide) (by decide) (by decide) (by decide) (law_k3 F hX hbl hl hi hL hW kk)
      | 4, _ => exact lv_tableIn (off := 216) (tgt := 248) hx hb d_law_32 (by decide) (by decide) (by decide) (by decide) (law_k4 F hX hbl hl hi hL hW kk)
      | 5, _ => exact lv_tableIn (off := 239) (tgt := 271) hx hb d_law_32 (by decide) (by decide) (by decide) (by decide) (law_k5 F hX hbl hl hi hL hW kk)
      | 6, _ => exact lv_tableIn (off := 272) (tgt := 304) hx hb d_law_32 (by decide) (by decide) (by decide) (by decide) (law_k6 F hX hbl hl hi hL hW kk)
      | 7, _ => exact lv_tableIn (off := 305) (tgt := 337) hx hb d_law_32 (by decide) (by decide) (by decide) (by decide) (law_k7 F hX hbl hl hi hL hW kk)
      | 8, _ => exact lv_tableIn (off := 338) (tgt := 370) hx hb d_law_32 (by decide) (by decide) (by decide) (by decide) (law_k8 F hX hbl hl hi hL hW kk)
      | 9, _ => exact lv_tableIn (off := 381) (tgt := 413) hx hb d_law_32 (by decide) (by decide) (by decide) (by decide) (law_k9 F hX hbl hl hi hL hW kk)
      | 10, _ => exact lv_tableIn (off := 414) (tgt := 446) hx hb d_law_32 (by decide) (by decide) (by decide) (by decide) (law_k10 F hX hbl hl hi hL hW kk)
      | 11, _ => exact lv_tableIn (off := 447) (tgt := 479) hx hb d_law_32 (by decide) (by decide) (by decide) (by decide) (law_k11 F hX hbl hl hi hL hW kk)
      | 12, _ => exact lv_tableIn (off := 470) (tgt := 502) hx hb d_law_32 (by decide) (by decide) (by decide) (by decide) (law_k12 F hX hbl hl hi hL hW kk)
      | 13, _ => exact lv_tableIn (off := 483) (tgt := 515) hx hb d_law_32 (by decide) (by decide) (by decide) (by decide) (law_k13 F hX hbl hl hi hL hW kk)
      | 14, _ => exact lv_tableIn (off := 496) (tgt := 528) hx hb d_law_32 (by decide) (by decide) (by decide) (by decide) (law_k14 F hX hbl hl hi hL hW kk)
      | 15, _ => exact lv_tableIn (off := 509) (tgt := 541) hx hb d_law_32 (by decide) (by decide) (by decide) (by decide) (law_k15 F hX hbl hl hi hL hW kk)
      | 16, _ => exact lv_tableIn (off := 522) (tgt := 554) hx hb d_law_32 (by decide) (by decide) (by decide) (by decide) (law_k16 F hX hbl hl hi hL hW kk)
      | 17, _ => exact lv_tableIn (off := 575) (tgt := 607) hx hb d_law_32 (by decide) (by decide) (by decide) (by decide) (law_k17 F hX hbl hl hi hL hW kk)
      | 18, _ => exact lv_tableIn (off := 598) (tgt := 630) hx hb d_law_32 (by decide) (by decide) (by decide) (by decide) (law_k18 F hX hbl hl hi hL hW kk)
      | 19, _ => exact lv_tableIn (off := 611) (tgt := 643) hx hb d_law_32 (by decide) (by decide) (by decide) (by decide) (law_k19 F hX hbl hl hi hL hW kk)
      | 20, _ => exact lv_tableIn (off := 634) (tgt := 666) hx hb d_law_32 (by decide) (by decide) (by decide) (by decide) (law_k20 F hX hbl hl hi hL hW kk)
      | 21, _ => exact lv_tableIn (off := 667) (tgt := 699) hx hb d_law_32 (by decide) (by decide) (by decide) (by decide) (law_k21 F hX hbl hl hi hL hW kk)
      | 22, _ => exact lv_tableIn (off := 680) (tgt := 712) hx hb d_law_32 (by decide) (by decide) (by decide) (by decide) (law_k22 F hX hbl hl hi hL hW kk)
      | 23, _ => exact lv_tableIn (off := 713) (tgt := 745) hx hb d_law_32 (by decide) (by decide) (by decide) (by decide) (law_k23 F hX hbl hl hi hL hW kk)
      | 24, _ => exact lv_tableIn (off := 756) (tgt := 788) hx hb d_law_32 (by decide) (by decide) (by decide) (by decide) (law_k24 F hX hbl hl hi hL hW kk)
      | 25, _ => exact lv_tableIn (off := 769) (tgt := 801) hx hb d_law_32 (by decide) (by decide) (by decide) (by decide) (law_k25 F hX hbl hl hi hL hW kk)
      | 26, _ => exact lv_tableIn (off := 782) (tgt := 814) hx hb d_law_32 (by decide) (by decide) (by decide) (by decide) (law_k26 F hX hbl hl hi hL hW kk)
      | 27, _ => exact lv_tableIn (off := 815) (tgt := 847) hx hb d_law_32 (by decide) (by decide) (by decide) (by decide) (law_k27 F hX hbl hl hi hL hW kk)
      | 28, _ => exact lv_tableIn (off := 828) (tgt := 860) hx hb d_law_32 (by decide) (by decide) (by decide) (by decide) (law_k28 F hX hbl hl hi hL hW kk)
      | 29, _ => exact lv_tableIn (off := 841) (tgt := 873) hx hb d_law_32 (by decide) (by decide) (by decide) (by decide) (law_k29 F hX hbl hl hi hL hW kk)
      | 30, _ => exact lv_tableIn (off := 864) (tgt := 896) hx hb d_law_32 (by decide) (by decide) (by decide) (by decide) (law_k30 F hX hbl hl hi hL hW kk)
      | 31, _ => exact lv_tableIn (off := 887) (tgt := 919) hx hb d_law_32 (by decide) (by decide) (by decide) (by decide) (law_k31 F hX hbl hl hi hL hW kk)
      | k + 32, hk => exact absurd hk (by omega)
/-- a constructor called -/
theorem law_init (F : lw_Fx p s m c D cA b) {pc mi idx mc ms : Nat} {LS : Array Slot} {rest : List Value} {h : x_H} {W2 : va_W} {ad : Nat → Nat} {r : Option Value × x_H} (hLS : LS.size = 4) (hdg : decode code pc = .ok (.invokespecial idx, 3)) (hd : (x_P mi).1.cls ≠ "java/lang/invoke/MethodHandle" ∧ (x_P mi).1.cls ≠ "java/lang/invoke/VarHandle" ∧ (parseMethodDescriptor (x_P mi).1.desc).map (fun d => d.parameters.length) = some 0) (w1 : Cond.methodLink R_law idx (x_P mi).1 ∈ lw_tbl) (w2 : Cond.instanceMethod (x_P mi).1 ∈ lw_tbl) (w3 : (x_P mi).1.name = "<init>") (w4 : (x_P mi).2.2.2.1 = none) (hfit : 1 ≤ (x_P mi).2.2.1) (hev : x_R x_P 30 mi [.ref 0] h = some r) (h0 : 0 < h.1) (hw : x_wh h) (hrest : (rest.map fun v => v.category).sum ≤ 8) (z1 : r.2.1 - h.1 = mc) (z2 : r.2.2.1 - h.2.1 = ms) (hc1 : cells + mc ≤ 600000) (hc2 : slots + ms ≤ 7302250)
    (hP1 : va_P D x_cl (x_W cA ad h) H) (hD1 : va_D (A2 s W2) (x_W cA ad h)) (hP2 : va_P D x_cl W2 H) (hS : va_S (fun q => s.heap.size ≤ q) s.heap H locs)
    (kk : ∀ (ad' : Nat → Nat) (H1 : Heap) (locs1 : List Loc), ad' 0 = ad 0 → va_P D x_cl (x_W cA ad' r.2) H1 → va_D (A2 s W2) (x_W cA ad' r.2) → va_P D x_cl W2 H1 → va_S (fun q => s.heap.size ≤ q) s.heap H1 locs1 → W p l e room_1 s m #[Value.ref b] below meth c H1 locs1 (cells + mc) (slots + ms) Q (F0 m (pc + 3) LS ((r.1.map (x_v ad')).toList ++ rest))) : W p l e room_1 s m #[Value.ref b] below meth c H locs cells slots Q (F0 m pc LS (.ref (ad 0) :: rest)) := by
  obtain ⟨hx, hb, hml, hown, hts, hK, hN⟩ := F
  obtain ⟨J1, J2, J3, J4, J5⟩ := x_JP mi
  have hts2 : ∀ w ∈ x_tb, w.before #[Value.ref b] s = true := fun w hw => hts w (x_tb_in hw)
  have hG := x_good (x_P mi) J2
  obtain ⟨n', hev'⟩ := x_E_iff.mp hev
  have hM := x_met x_JP l D cA 29 mi ad [.ref 0] h r H.size n' hev' (x_wl_cons.mpr ⟨fun q e => by cases e; exact h0, x_wl_nil⟩) hw hfit
  rw [z1, z2] at hM
  have hG' : GoodIn x_tb (Cond.code (x_P mi).1 (x_P mi).2.1 (x_P mi).2.2.1 none :: x_tb) := by rw [← w4]; exact hG
  unfold x_ws at hM
  rw [w4] at hM
  have hrm : (x_rm 29 mc ms).frames + 1 ≤ room_1.frames ∧ 8 + ((x_P mi).2.2.1 + 11) + (x_rm 29 mc ms).locals ≤ room_1.locals := by
    refine ⟨?_, ?_⟩
    · show 29 + 1 + 1 ≤ 2048; omega
    · show 8 + (_ + 11) + 64 * (29 + 1) ≤ 84000; omega
  have hpre : ∀ U : State, U.heap = H → s.WarmedH U.vm → x_Pc D cA ad [.ref 0] h H.size (Value.ref (ad 0) :: []).toArray U := fun U hU hW => ⟨rfl, by rw [hU], by rw [hU]; exact hP1, va_K.moved hW.alike hK, hN.warm hW, hD1.weaken (fun _ _ _ _ => trivial)⟩
  refine law_run hD1 hP2 hS (va_runI (As := []) (rest := rest) ⟨hx, hb, hml, hown, hts2⟩ hM (cwI 0 hts2 hG' rfl rfl rfl (hts2 _ J3) (hts _ w1) (hts _ w2) w3 hd hrm) ⟨x_blind, hpre⟩ rfl rfl hLS rfl (lv_room hrest) hdg ⟨hc1, hc2⟩) (fun ad' H1 locs1 q1 q2 q3 q4 q5 => ?_)
  exact kk ad' H1 locs1 (q1 0 h0) q2 q3 q4 q5
end LAW
theorem x_known {s : State} {b : Nat} (hts : ∀ w ∈ lw_tbl, w.before #[Value.ref b] s = true) : ∃ (D : va_G) (cA : Nat → ClassId), va_K D x_cl (x_tys cA) s := by
  have hts2 : ∀ w ∈ x_tb, w.before #[Value.ref b] s = true := fun w hw => hts w (x_tb_in hw)
  have h1 : ∀ ci : Nat, ∃ (z : ClassId × (Nat → Nat)), ∀ q : vw_C, x_cl[ci]? = some q → u_Kn s q.1 q.2.1 q.2.2 z.1 z.2 := by
    intro ci
    cases hq : x_cl[ci]? with
    | none => exact ⟨(0, fun _ => 0), fun q z => by cases z⟩
    | some q =>
      obtain ⟨C, T, N⟩ := q
      obtain ⟨k1, k2, k3, k4, k5⟩ := x_cl_ok hq
      obtain ⟨cC, iS, h⟩ := u_known hts2 k1 (hts2 _ k4)
      exact ⟨(cC, iS), fun q z => by cases z; exact h⟩
  obtain ⟨f, hf⟩ := Classical.axiomOfChoice h1
  obtain ⟨c0, k0, p0, a1, a2, a3⟩ := Cond.arrayClass_spec (hts2 _ x_ac_int)
  obtain ⟨c1, k1, p1, b1, b2, b3⟩ := Cond.arrayClass_spec (hts2 _ x_ac_long)
  obtain ⟨c2, k2, p2, d1, d2, d3⟩ := Cond.arrayClass_spec (hts2 _ x_ac_boolean)
  refine ⟨(fun k => (f k).1, fun k => (f k).2), fun k => if k = 0 then c0 else if k = 1 then c1 else c2, fun ci q hq => hf ci q hq, fun k q hk => ?_⟩
  match k, hk with
  | 0, hk => cases hk; exact ⟨fun n z => ⟨fun k h => (by cases h), k0, a2, p0, a3⟩, a1⟩
  | 1, hk => cases hk; exact ⟨fun n z => ⟨fun k h => (by cases h), k1, b2, p1, b3⟩, b1⟩
  | 2, hk => cases hk; exact ⟨fun n z => ⟨fun k h => (by cases h), k2, d2, p2, d3⟩, d1⟩
  | n + 3, hk => simp [x_tys] at hk
