/-! the classes: their fields, types; the words that they stand on -/
def x_tb : List Cond := lw_tbl.filter goodWord
theorem x_in_tb {w : Cond} (h : w ∈ lw_tbl) (g : goodWord w = true) : w ∈ x_tb := List.mem_filter.mpr ⟨h, g⟩
theorem x_tb_in {w : Cond} (h : w ∈ x_tb) : w ∈ lw_tbl := (List.mem_filter.mp h).1
theorem x_at_in {w : Cond} (i : Nat) (h : lw_tbl[i]? = some w) (g : goodWord w = true) : w ∈ x_tb := x_in_tb (List.mem_of_getElem? h) g
theorem x_some_in {ws : List Cond} (ps : List Nat) (h : ws = ps.filterMap (fun i => lw_tbl[i]?)) (g : ws.all goodWord = true) : ∀ w ∈ ws, w ∈ x_tb := by
  intro w hw
  have g1 := List.all_eq_true.mp g w hw
  rw [h] at hw
  obtain ⟨i, -, hi⟩ := List.mem_filterMap.mp hw
  exact x_in_tb (List.mem_of_getElem? hi) g1
def x_F0 : u_T := fun k => match k with
  | 0 => ("WhateverYard$Book", "pieces", "LWhateverYard$Row;", true)
  | _ => ("WhateverYard$Book", "entries", "LWhateverYard$Row;", true)
def x_T0 : Nat → FieldType := fun k => match k with
  | 0 => .object "WhateverYard$Row"
  | _ => .object "WhateverYard$Row"
def x_F1 : u_T := fun k => match k with
  | 0 => ("WhateverYard$Cloth", "lengths", "LWhateverYard$Row;", true)
  | 1 => ("WhateverYard$Cloth", "declared", "LWhateverYard$Row;", true)
  | 2 => ("WhateverYard$Cloth", "paid", "I", false)
  | _ => ("WhateverYard$Cloth", "waste", "I", false)
def x_T1 : Nat → FieldType := fun k => match k with
  | 0 => .object "WhateverYard$Row"
  | 1 => .object "WhateverYard$Row"
  | 2 => .int
  | _ => .int
def x_F2 : u_T := fun k => match k with
  | 0 => ("WhateverYard$Cutter", "best", "LWhateverYard$Row;", true)
  | 1 => ("WhateverYard$Cutter", "found", "Z", false)
  | 2 => ("WhateverYard$Cutter", "bestTouched", "I", false)
  | 3 => ("WhateverYard$Cutter", "wantedInAll", "I", false)
  | 4 => ("WhateverYard$Cutter", "chosen", "LWhateverYard$Row;", true)
  | _ => ("WhateverYard$Cutter", "rest", "LWhateverYard$Row;", true)
def x_T2 : Nat → FieldType := fun k => match k with
  | 0 => .object "WhateverYard$Row"
  | 1 => .boolean
  | 2 => .int
  | 3 => .int
  | 4 => .object "WhateverYard$Row"
  | _ => .object "WhateverYard$Row"
def x_F3 : u_T := fun k => match k with
  | 0 => ("WhateverYard$Heights", "above", "LWhateverYard$Row;", true)
  | _ => ("WhateverYard$Heights", "below", "LWhateverYard$Row;", true)
def x_T3 : Nat → FieldType := fun k => match k with
  | 0 => .object "WhateverYard$Row"
  | _ => .object "WhateverYard$Row"
def x_F4 : u_T := fun k => match k with
  | 0 => ("WhateverYard$Left", "bought", "LWhateverYard$Row;", true)
  | 1 => ("WhateverYard$Left", "cutOff", "LWhateverYard$Row;", true)
  | _ => ("WhateverYard$Left", "rest", "LWhateverYard$Row;", true)
def x_T4 : Nat → FieldType := fun k => match k with
  | 0 => .object "WhateverYard$Row"
  | 1 => .object "WhateverYard$Row"
  | _ => .object "WhateverYard$Row"
def x_F5 : u_T := fun k => match k with
  | 0 => ("WhateverYard$Past", "store", "LWhateverYard$Row;", true)
  | 1 => ("WhateverYard$Past", "next", "I", false)
  | _ => ("WhateverYard$Past", "count", "I", false)
def x_T5 : Nat → FieldType := fun k => match k with
  | 0 => .object "WhateverYard$Row"
  | 1 => .int
  | _ => .int
def x_F6 : u_T := fun k => match k with
  | 0 => ("WhateverYard$Reader", "text", "LWhateverYard$Row;", true)
  | 1 => ("WhateverYard$Reader", "faultPlace", "I", false)
  | 2 => ("WhateverYard$Reader", "faultNumber", "I", false)
  | 3 => ("WhateverYard$Reader", "place", "I", false)
  | _ => ("WhateverYard$Reader", "numberPlace", "I", false)
def x_T6 : Nat → FieldType := fun k => match k with
  | 0 => .object "WhateverYard$Row"
  | 1 => .int
  | 2 => .int
  | 3 => .int
  | _ => .int
def x_F7 : u_T := fun k => match k with
  | 0 => ("WhateverYard$Row", "cells", "[I", true)
  | _ => ("WhateverYard$Row", "count", "I", false)
def x_T7 : Nat → FieldType := fun k => match k with
  | 0 => .array .int
  | _ => .int
def x_F8 : u_T := fun k => match k with
  | 0 => ("WhateverYard$Shop", "open", "Z", false)
  | 1 => ("WhateverYard$Shop", "dues", "I", false)
  | 2 => ("WhateverYard$Shop", "yards", "LWhateverYard$Row;", true)
  | 3 => ("WhateverYard$Shop", "tableFrom", "LWhateverYard$Row;", true)
  | 4 => ("WhateverYard$Shop", "tableTo", "LWhateverYard$Row;", true)
  | 5 => ("WhateverYard$Shop", "tableGiven", "LWhateverYard$Row;", true)
  | 6 => ("WhateverYard$Shop", "tableGot", "LWhateverYard$Row;", true)
  | 7 => ("WhateverYard$Shop", "pieceUse", "LWhateverYard$Row;", true)
  | 8 => ("WhateverYard$Shop", "pieceYards", "LWhateverYard$Row;", true)
  | 9 => ("WhateverYard$Shop", "wantUse", "LWhateverYard$Row;", true)
  | _ => ("WhateverYard$Shop", "wantYards", "LWhateverYard$Row;", true)
def x_T8 : Nat → FieldType := fun k => match k with
  | 0 => .boolean
  | 1 => .int
  | 2 => .object "WhateverYard$Row"
  | 3 => .object "WhateverYard$Row"
  | 4 => .object "WhateverYard$Row"
  | 5 => .object "WhateverYard$Row"
  | 6 => .object "WhateverYard$Row"
  | 7 => .object "WhateverYard$Row"
  | 8 => .object "WhateverYard$Row"
  | 9 => .object "WhateverYard$Row"
  | _ => .object "WhateverYard$Row"
def x_F9 : u_T := fun k => match k with
  | 0 => ("WhateverYard$Ways", "best", "LWhateverYard$Row;", true)
  | 1 => ("WhateverYard$Ways", "bestYards", "I", false)
  | 2 => ("WhateverYard$Ways", "bestTurns", "I", false)
  | 3 => ("WhateverYard$Ways", "way", "LWhateverYard$Row;", true)
  | 4 => ("WhateverYard$Ways", "yardsOf", "LWhateverYard$Row;", true)
  | _ => ("WhateverYard$Ways", "nextYardsOf", "LWhateverYard$Row;", true)
def x_T9 : Nat → FieldType := fun k => match k with
  | 0 => .object "WhateverYard$Row"
  | 1 => .int
  | 2 => .int
  | 3 => .object "WhateverYard$Row"
  | 4 => .object "WhateverYard$Row"
  | _ => .object "WhateverYard$Row"
def x_F10 : u_T := fun k => match k with
  | 0 => ("WhateverYard", "reader", "LWhateverYard$Reader;", true)
  | 1 => ("WhateverYard", "shop", "LWhateverYard$Shop;", false)
  | 2 => ("WhateverYard", "draft", "LWhateverYard$Shop;", false)
  | 3 => ("WhateverYard", "now", "LWhateverYard$Cloth;", true)
  | 4 => ("WhateverYard", "past", "LWhateverYard$Past;", true)
  | 5 => ("WhateverYard", "leftTold", "LWhateverYard$Left;", true)
  | 6 => ("WhateverYard", "book", "LWhateverYard$Book;", true)
  | 7 => ("WhateverYard", "heights", "LWhateverYard$Heights;", true)
  | 8 => ("WhateverYard", "ways", "LWhateverYard$Ways;", true)
  | 9 => ("WhateverYard", "cutter", "LWhateverYard$Cutter;", true)
  | 10 => ("WhateverYard", "odds", "LWhateverYard$Row;", true)
  | 11 => ("WhateverYard", "images", "LWhateverYard$Row;", true)
  | 12 => ("WhateverYard", "imagesKept", "I", false)
  | _ => ("WhateverYard", "drawn", "I", false)
def x_T10 : Nat → FieldType := fun k => match k with
  | 0 => .object "WhateverYard$Reader"
  | 1 => .object "WhateverYard$Shop"
  | 2 => .object "WhateverYard$Shop"
  | 3 => .object "WhateverYard$Cloth"
  | 4 => .object "WhateverYard$Past"
  | 5 => .object "WhateverYard$Left"
  | 6 => .object "WhateverYard$Book"
  | 7 => .object "WhateverYard$Heights"
  | 8 => .object "WhateverYard$Ways"
  | 9 => .object "WhateverYard$Cutter"
  | 10 => .object "WhateverYard$Row"
  | 11 => .object "WhateverYard$Row"
  | 12 => .int
  | _ => .int
def x_F11 : u_T := fun k => match k with
  | 0 => ("WhateverYardModel", "shop", "[I", true)
  | 1 => ("WhateverYardModel", "read", "[I", true)
  | 2 => ("WhateverYardModel", "now", "[I", true)
  | 3 => ("WhateverYardModel", "past", "[I", true)
  | 4 => ("WhateverYardModel", "undos", "I", false)
  | 5 => ("WhateverYardModel", "images", "[I", true)
  | 6 => ("WhateverYardModel", "kept", "[Z", true)
  | 7 => ("WhateverYardModel", "seed", "J", false)
  | 8 => ("WhateverYardModel", "text", "[I", true)
  | 9 => ("WhateverYardModel", "size", "I", false)
  | 10 => ("WhateverYardModel", "fault", "I", false)
  | 11 => ("WhateverYardModel", "lefts", "[I", true)
  | 12 => ("WhateverYardModel", "leftMany", "I", false)
  | 13 => ("WhateverYardModel", "book", "[I", true)
  | 14 => ("WhateverYardModel", "bookMany", "I", false)
  | 15 => ("WhateverYardModel", "at", "I", false)
  | 16 => ("WhateverYardModel", "begin", "I", false)
  | 17 => ("WhateverYardModel", "sign", "I", false)
  | 18 => ("WhateverYardModel", "figures", "I", false)
  | 19 => ("WhateverYardModel", "value", "I", false)
  | 20 => ("WhateverYardModel", "wrong", "I", false)
  | 21 => ("WhateverYardModel", "above", "[J", true)
  | 22 => ("WhateverYardModel", "below", "[J", true)
  | 23 => ("WhateverYardModel", "row", "[I", true)
  | 24 => ("WhateverYardModel", "best", "[I", true)
  | 25 => ("WhateverYardModel", "yardsOf", "[I", true)
  | 26 => ("WhateverYardModel", "yardsThen", "[I", true)
  | 27 => ("WhateverYardModel", "pieceOf", "[I", true)
  | 28 => ("WhateverYardModel", "bestPiece", "[I", true)
  | 29 => ("WhateverYardModel", "leftOf", "[I", true)
  | _ => ("WhateverYardModel", "parts", "[I", true)
def x_T11 : Nat → FieldType := fun k => match k with
  | 0 => .array .int
  | 1 => .array .int
  | 2 => .array .int
  | 3 => .array .int
  | 4 => .int
  | 5 => .array .int
  | 6 => .array .boolean
  | 7 => .long
  | 8 => .array .int
  | 9 => .int
  | 10 => .int
  | 11 => .array .int
  | 12 => .int
  | 13 => .array .int
  | 14 => .int
  | 15 => .int
  | 16 => .int
  | 17 => .int
  | 18 => .int
  | 19 => .int
  | 20 => .int
  | 21 => .array .long
  | 22 => .array .long
  | 23 => .array .int
  | 24 => .array .int
  | 25 => .array .int
  | 26 => .array .int
  | 27 => .array .int
  | 28 => .array .int
  | 29 => .array .int
  | _ => .array .int
abbrev x_cl : List vw_C := [("WhateverYard$Book", x_F0, 2), ("WhateverYard$Cloth", x_F1, 4), ("WhateverYard$Cutter", x_F2, 6), ("WhateverYard$Heights", x_F3, 2), ("WhateverYard$Left", x_F4, 3), ("WhateverYard$Past", x_F5, 3), ("WhateverYard$Reader", x_F6, 5), ("WhateverYard$Row", x_F7, 2), ("WhateverYard$Shop", x_F8, 11), ("WhateverYard$Ways", x_F9, 6), ("WhateverYard", x_F10, 14), ("WhateverYardModel", x_F11, 31)]
def x_ty : Nat → Nat → FieldType := fun c => match c with
  | 0 => x_T0
  | 1 => x_T1
  | 2 => x_T2
  | 3 => x_T3
  | 4 => x_T4
  | 5 => x_T5
  | 6 => x_T6
  | 7 => x_T7
  | 8 => x_T8
  | 9 => x_T9
  | 10 => x_T10
  | _ => x_T11
def x_clok (ci : Nat) (C : String) (T : u_T) (N : Nat) : Prop := (∀ w ∈ u_ws C T N, w ∈ x_tb) ∧ (∀ k, k < N → parseFieldDescriptor (T k).2.2.1 = some (x_ty ci k)) ∧ (∀ a, a < N → ∀ b, b < N → a ≠ b → (T a).2.1 ≠ (T b).2.1) ∧ Cond.instantiable C N ∈ x_tb ∧ Cond.initialized C ∈ x_tb
theorem x_clok0 : x_clok 0 "WhateverYard$Book" x_F0 2 := ⟨x_some_in [260, 262] (by decide +kernel) (by decide +kernel), by decide +kernel, by decide +kernel, x_at_in 251 (by decide +kernel) (by decide +kernel), x_at_in 60 (by decide +kernel) (by decide +kernel)⟩
theorem x_clok1 : x_clok 1 "WhateverYard$Cloth" x_F1 4 := ⟨x_some_in [205, 207, 209, 211] (by decide +kernel) (by decide +kernel), by decide +kernel, by decide +kernel, x_at_in 190 (by decide +kernel) (by decide +kernel), x_at_in 57 (by decide +kernel) (by decide +kernel)⟩
theorem x_clok2 : x_clok 2 "WhateverYard$Cutter" x_F2 6 := ⟨x_some_in [326, 328, 330, 332, 334, 336] (by decide +kernel) (by decide +kernel), by decide +kernel, by decide +kernel, x_at_in 311 (by decide +kernel) (by decide +kernel), x_at_in 63 (by decide +kernel) (by decide +kernel)⟩
theorem x_clok3 : x_clok 3 "WhateverYard$Heights" x_F3 2 := ⟨x_some_in [275, 277] (by decide +kernel) (by decide +kernel), by decide +kernel, by decide +kernel, x_at_in 266 (by decide +kernel) (by decide +kernel), x_at_in 61 (by decide +kernel) (by decide +kernel)⟩
theorem x_clok4 : x_clok 4 "WhateverYard$Left" x_F4 3 := ⟨x_some_in [243, 245, 247] (by decide +kernel) (by decide +kernel), by decide +kernel, by decide +kernel, x_at_in 233 (by decide +kernel) (by decide +kernel), x_at_in 59 (by decide +kernel) (by decide +kernel)⟩
theorem x_clok5 : x_clok 5 "WhateverYard$Past" x_F5 3 := ⟨x_some_in [225, 227, 229] (by decide +kernel) (by decide +kernel), by decide +kernel, by decide +kernel, x_at_in 215 (by decide +kernel) (by decide +kernel), x_at_in 58 (by decide +kernel) (by decide +kernel)⟩
theorem x_clok6 : x_clok 6 "WhateverYard$Reader" x_F6 5 := ⟨x_some_in [102, 104, 106, 108, 110] (by decide +kernel) (by decide +kernel), by decide +kernel, by decide +kernel, x_at_in 76 (by decide +kernel) (by decide +kernel), x_at_in 54 (by decide +kernel) (by decide +kernel)⟩
theorem x_clok7 : x_clok 7 "WhateverYard$Row" x_F7 2 := ⟨x_some_in [89, 91] (by decide +kernel) (by decide +kernel), by decide +kernel, by decide +kernel, x_at_in 82 (by decide +kernel) (by decide +kernel), x_at_in 55 (by decide +kernel) (by decide +kernel)⟩
theorem x_clok8 : x_clok 8 "WhateverYard$Shop" x_F8 11 := ⟨x_some_in [166, 168, 170, 172, 174, 176, 178, 180, 182, 184, 186] (by decide +kernel) (by decide +kernel), by decide +kernel, by decide +kernel, x_at_in 114 (by decide +kernel) (by decide +kernel), x_at_in 56 (by decide +kernel) (by decide +kernel)⟩
theorem x_clok9 : x_clok 9 "WhateverYard$Ways" x_F9 6 := ⟨x_some_in [297, 299, 301, 303, 305, 307] (by decide +kernel) (by decide +kernel), by decide +kernel, by decide +kernel, x_at_in 281 (by decide +kernel) (by decide +kernel), x_at_in 62 (by decide +kernel) (by decide +kernel)⟩
theorem x_clok10 : x_clok 10 "WhateverYard" x_F10 14 := ⟨x_some_in [355, 357, 359, 361, 363, 365, 367, 369, 371, 373, 375, 377, 379, 381] (by decide +kernel) (by decide +kernel), by decide +kernel, by decide +kernel, x_at_in 68 (by decide +kernel) (by decide +kernel), x_at_in 53 (by decide +kernel) (by decide +kernel)⟩
theorem x_clok11 : x_clok 11 "WhateverYardModel" x_F11 31 := ⟨x_some_in [880, 882, 884, 886, 888, 890, 892, 894, 896, 898, 900, 902, 904, 906, 908, 910, 912, 914, 916, 918, 920, 922, 924, 926, 928, 930, 932, 934, 936, 938, 940] (by decide +kernel) (by decide +kernel), by decide +kernel, by decide +kernel, x_at_in 840 (by decide +kernel) (by decide +kernel), x_at_in 64 (by decide +kernel) (by decide +kernel)⟩
theorem x_cl_ok {ci : Nat} {C : String} {T : u_T} {N : Nat} (h : x_cl[ci]? = some (C, T, N)) : x_clok ci C T N := by
  match ci, h with
  | 0, h => cases h; exact x_clok0
  | 1, h => cases h; exact x_clok1
  | 2, h => cases h; exact x_clok2
  | 3, h => cases h; exact x_clok3
  | 4, h => cases h; exact x_clok4
  | 5, h => cases h; exact x_clok5
  | 6, h => cases h; exact x_clok6
  | 7, h => cases h; exact x_clok7
  | 8, h => cases h; exact x_clok8
  | 9, h => cases h; exact x_clok9
  | 10, h => cases h; exact x_clok10
  | 11, h => cases h; exact x_clok11
  | n + 12, h => simp [x_cl] at h
def x_nl : List (String × Nat × MethodName × String) := [("WhateverYard", 11, ⟨"WhateverYard$Reader", "<init>", "()V"⟩, "WhateverYard"), ("WhateverYard", 18, ⟨"WhateverYard$Shop", "<init>", "()V"⟩, "WhateverYard"), ("WhateverYard", 28, ⟨"WhateverYard$Cloth", "<init>", "()V"⟩, "WhateverYard"), ("WhateverYard", 35, ⟨"WhateverYard$Past", "<init>", "()V"⟩, "WhateverYard"), ("WhateverYard", 42, ⟨"WhateverYard$Left", "<init>", "()V"⟩, "WhateverYard"), ("WhateverYard", 49, ⟨"WhateverYard$Book", "<init>", "()V"⟩, "WhateverYard"), ("WhateverYard", 56, ⟨"WhateverYard$Heights", "<init>", "()V"⟩, "WhateverYard"), ("WhateverYard", 63, ⟨"WhateverYard$Ways", "<init>", "()V"⟩, "WhateverYard"), ("WhateverYard", 70, ⟨"WhateverYard$Cutter", "<init>", "()V"⟩, "WhateverYard"), ("WhateverYard$Cloth", 55, ⟨"WhateverYard", "quotient", "(II)I"⟩, "WhateverYard"), ("WhateverYard$Shop", 63, ⟨"WhateverYard", "quotient", "(II)I"⟩, "WhateverYard")]
def x_NW (U : State) : Prop := ∀ q ∈ x_nl, va_Nw (.methodLinkNest q.1 q.2.1 q.2.2.1 q.2.2.2) U
theorem x_NW.warm {s U : State} (hW : s.WarmedH U.vm) (h : x_NW s) : x_NW U := fun q hq => va_Nw.warmM hW (h q hq)
theorem x_NW.same {u U : State} (h : u.vm = U.vm) (hZ : x_NW u) : x_NW U := fun q hq => va_Nw.same rfl h (hZ q hq)
theorem x_nl_in : x_nl.map (fun q => Cond.methodLinkNest q.1 q.2.1 q.2.2.1 q.2.2.2) = [77, 115, 191, 216, 234, 252, 267, 282, 312, 552, 590].filterMap (fun i => lw_tbl[i]?) := by decide +kernel
theorem x_NW.of {s : State} {A : Array Value} (hts : ∀ w ∈ lw_tbl, w.before A s = true) : x_NW s := by
  intro q hq
  have h : Cond.methodLinkNest q.1 q.2.1 q.2.2.1 q.2.2.2 ∈ x_nl.map (fun q => Cond.methodLinkNest q.1 q.2.1 q.2.2.1 q.2.2.2) := List.mem_map.mpr ⟨q, hq, rfl⟩
  rw [x_nl_in] at h
  obtain ⟨i, -, hi⟩ := List.mem_filterMap.mp h
  exact va_Nw.of rfl (hts _ (List.mem_of_getElem? hi))
-- arrayClass words at [94, 943, 944]: ['Jvm.ClassFile.FieldType.int', 'Jvm.ClassFile.FieldType.boolean', 'Jvm.ClassFile.FieldType.long']
theorem x_ac_int : Cond.arrayClass .int ∈ x_tb := x_at_in 94 (by decide +kernel) (by decide +kernel)
theorem x_ac_boolean : Cond.arrayClass .boolean ∈ x_tb := x_at_in 943 (by decide +kernel) (by decide +kernel)
theorem x_ac_long : Cond.arrayClass .long ∈ x_tb := x_at_in 944 (by decide +kernel) (by decide +kernel)
