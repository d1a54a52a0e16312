section
-- ===== PART A: goes FIRST, ahead of the names: the tables' words, and 'selects' of the private methods out of them =====
/-- a private method of a class that the tables say can be made, by its rows of tables_1 -/
def lw_okq (q : MethodName × Nat) : Prop := (q.1.cls ≠ "java/lang/invoke/MethodHandle" ∧ q.1.cls ≠ "java/lang/invoke/VarHandle") ∧ Cond.instantiable q.1.cls q.2 ∈ tables_1 ∧ Cond.privateMethod q.1 ∈ tables_1 ∧ Cond.instanceMethod q.1 ∈ tables_1
theorem lw_p0 : lw_okq (⟨"WhateverYard$Reader", "skipBlanks", "()V"⟩, 5) := ⟨⟨by decide +kernel, by decide +kernel⟩, List.mem_of_getElem? (i := 24) (by decide +kernel), List.mem_of_getElem? (i := 372) (by decide +kernel), List.mem_of_getElem? (i := 373) (by decide +kernel)⟩
theorem lw_p1 : lw_okq (⟨"WhateverYard$Reader", "readClause", "(LWhateverYard$Shop;)V"⟩, 5) := ⟨⟨by decide +kernel, by decide +kernel⟩, List.mem_of_getElem? (i := 24) (by decide +kernel), List.mem_of_getElem? (i := 381) (by decide +kernel), List.mem_of_getElem? (i := 382) (by decide +kernel)⟩
theorem lw_p2 : lw_okq (⟨"WhateverYard$Reader", "blame", "(II)V"⟩, 5) := ⟨⟨by decide +kernel, by decide +kernel⟩, List.mem_of_getElem? (i := 24) (by decide +kernel), List.mem_of_getElem? (i := 392) (by decide +kernel), List.mem_of_getElem? (i := 393) (by decide +kernel)⟩
theorem lw_p3 : lw_okq (⟨"WhateverYard$Reader", "readDues", "(LWhateverYard$Shop;)V"⟩, 5) := ⟨⟨by decide +kernel, by decide +kernel⟩, List.mem_of_getElem? (i := 24) (by decide +kernel), List.mem_of_getElem? (i := 396) (by decide +kernel), List.mem_of_getElem? (i := 397) (by decide +kernel)⟩
theorem lw_p4 : lw_okq (⟨"WhateverYard$Reader", "readNumber", "(II)I"⟩, 5) := ⟨⟨by decide +kernel, by decide +kernel⟩, List.mem_of_getElem? (i := 24) (by decide +kernel), List.mem_of_getElem? (i := 400) (by decide +kernel), List.mem_of_getElem? (i := 401) (by decide +kernel)⟩
theorem lw_p5 : lw_okq (⟨"WhateverYard$Reader", "readEnd", "()V"⟩, 5) := ⟨⟨by decide +kernel, by decide +kernel⟩, List.mem_of_getElem? (i := 24) (by decide +kernel), List.mem_of_getElem? (i := 407) (by decide +kernel), List.mem_of_getElem? (i := 408) (by decide +kernel)⟩
theorem lw_p6 : lw_okq (⟨"WhateverYard$Reader", "readUse", "(LWhateverYard$Shop;)V"⟩, 5) := ⟨⟨by decide +kernel, by decide +kernel⟩, List.mem_of_getElem? (i := 24) (by decide +kernel), List.mem_of_getElem? (i := 411) (by decide +kernel), List.mem_of_getElem? (i := 412) (by decide +kernel)⟩
theorem lw_p7 : lw_okq (⟨"WhateverYard$Reader", "readTable", "(LWhateverYard$Shop;)V"⟩, 5) := ⟨⟨by decide +kernel, by decide +kernel⟩, List.mem_of_getElem? (i := 24) (by decide +kernel), List.mem_of_getElem? (i := 416) (by decide +kernel), List.mem_of_getElem? (i := 417) (by decide +kernel)⟩
theorem lw_p8 : lw_okq (⟨"WhateverYard$Reader", "readAmount", "(LWhateverYard$Shop;LWhateverYard$Row;LWhateverYard$Row;I)V"⟩, 5) := ⟨⟨by decide +kernel, by decide +kernel⟩, List.mem_of_getElem? (i := 24) (by decide +kernel), List.mem_of_getElem? (i := 426) (by decide +kernel), List.mem_of_getElem? (i := 427) (by decide +kernel)⟩
theorem lw_p9 : lw_okq (⟨"WhateverYard", "draw", "(I)I"⟩, 14) := ⟨⟨by decide +kernel, by decide +kernel⟩, List.mem_of_getElem? (i := 16) (by decide +kernel), List.mem_of_getElem? (i := 555) (by decide +kernel), List.mem_of_getElem? (i := 556) (by decide +kernel)⟩
theorem lw_p10 : lw_okq (⟨"WhateverYard", "allTables", "()I"⟩, 14) := ⟨⟨by decide +kernel, by decide +kernel⟩, List.mem_of_getElem? (i := 16) (by decide +kernel), List.mem_of_getElem? (i := 582) (by decide +kernel), List.mem_of_getElem? (i := 583) (by decide +kernel)⟩
theorem lw_p11 : lw_okq (⟨"WhateverYard$Heights", "known", "(I)Z"⟩, 2) := ⟨⟨by decide +kernel, by decide +kernel⟩, List.mem_of_getElem? (i := 214) (by decide +kernel), List.mem_of_getElem? (i := 595) (by decide +kernel), List.mem_of_getElem? (i := 596) (by decide +kernel)⟩
theorem lw_p12 : lw_okq (⟨"WhateverYard$Heights", "note", "(III)V"⟩, 2) := ⟨⟨by decide +kernel, by decide +kernel⟩, List.mem_of_getElem? (i := 214) (by decide +kernel), List.mem_of_getElem? (i := 600) (by decide +kernel), List.mem_of_getElem? (i := 601) (by decide +kernel)⟩
theorem lw_p13 : lw_okq (⟨"WhateverYard$Heights", "spread", "(LWhateverYard$Shop;I)V"⟩, 2) := ⟨⟨by decide +kernel, by decide +kernel⟩, List.mem_of_getElem? (i := 214) (by decide +kernel), List.mem_of_getElem? (i := 605) (by decide +kernel), List.mem_of_getElem? (i := 606) (by decide +kernel)⟩
theorem lw_p14 : lw_okq (⟨"WhateverYard$Heights", "reach", "(LWhateverYard$Shop;I)Z"⟩, 2) := ⟨⟨by decide +kernel, by decide +kernel⟩, List.mem_of_getElem? (i := 214) (by decide +kernel), List.mem_of_getElem? (i := 609) (by decide +kernel), List.mem_of_getElem? (i := 610) (by decide +kernel)⟩
theorem lw_p15 : lw_okq (⟨"WhateverYard$Heights", "fitsTable", "(LWhateverYard$Shop;I)Z"⟩, 2) := ⟨⟨by decide +kernel, by decide +kernel⟩, List.mem_of_getElem? (i := 214) (by decide +kernel), List.mem_of_getElem? (i := 613) (by decide +kernel), List.mem_of_getElem? (i := 614) (by decide +kernel)⟩
def lw_privs_1 : List (MethodName × Nat) := [(⟨"WhateverYard$Reader", "skipBlanks", "()V"⟩, 5), (⟨"WhateverYard$Reader", "readClause", "(LWhateverYard$Shop;)V"⟩, 5), (⟨"WhateverYard$Reader", "blame", "(II)V"⟩, 5), (⟨"WhateverYard$Reader", "readDues", "(LWhateverYard$Shop;)V"⟩, 5), (⟨"WhateverYard$Reader", "readNumber", "(II)I"⟩, 5), (⟨"WhateverYard$Reader", "readEnd", "()V"⟩, 5), (⟨"WhateverYard$Reader", "readUse", "(LWhateverYard$Shop;)V"⟩, 5), (⟨"WhateverYard$Reader", "readTable", "(LWhateverYard$Shop;)V"⟩, 5), (⟨"WhateverYard$Reader", "readAmount", "(LWhateverYard$Shop;LWhateverYard$Row;LWhateverYard$Row;I)V"⟩, 5), (⟨"WhateverYard", "draw", "(I)I"⟩, 14), (⟨"WhateverYard", "allTables", "()I"⟩, 14), (⟨"WhateverYard$Heights", "known", "(I)Z"⟩, 2), (⟨"WhateverYard$Heights", "note", "(III)V"⟩, 2), (⟨"WhateverYard$Heights", "spread", "(LWhateverYard$Shop;I)V"⟩, 2), (⟨"WhateverYard$Heights", "reach", "(LWhateverYard$Shop;I)Z"⟩, 2), (⟨"WhateverYard$Heights", "fitsTable", "(LWhateverYard$Shop;I)Z"⟩, 2)]
theorem lw_r1 : ∀ q ∈ lw_privs_1, lw_okq q := List.forall_mem_cons.mpr ⟨lw_p0, List.forall_mem_cons.mpr ⟨lw_p1, List.forall_mem_cons.mpr ⟨lw_p2, List.forall_mem_cons.mpr ⟨lw_p3, List.forall_mem_cons.mpr ⟨lw_p4, List.forall_mem_cons.mpr ⟨lw_p5, List.forall_mem_cons.mpr ⟨lw_p6, List.forall_mem_cons.mpr ⟨lw_p7, List.forall_mem_cons.mpr ⟨lw_p8, List.forall_mem_cons.mpr ⟨lw_p9, List.forall_mem_cons.mpr ⟨lw_p10, List.forall_mem_cons.mpr ⟨lw_p11, List.forall_mem_cons.mpr ⟨lw_p12, List.forall_mem_cons.mpr ⟨lw_p13, List.forall_mem_cons.mpr ⟨lw_p14, List.forall_mem_cons.mpr ⟨lw_p15, fun _ h => absurd h List.not_mem_nil⟩⟩⟩⟩⟩⟩⟩⟩⟩⟩⟩⟩⟩⟩⟩⟩
theorem lw_p16 : lw_okq (⟨"WhateverYard$Ways", "note", "(II)V"⟩, 6) := ⟨⟨by decide +kernel, by decide +kernel⟩, List.mem_of_getElem? (i := 229) (by decide +kernel), List.mem_of_getElem? (i := 636) (by decide +kernel), List.mem_of_getElem? (i := 637) (by decide +kernel)⟩
theorem lw_p17 : lw_okq (⟨"WhateverYard$Ways", "turnAll", "(LWhateverYard$Shop;I)V"⟩, 6) := ⟨⟨by decide +kernel, by decide +kernel⟩, List.mem_of_getElem? (i := 229) (by decide +kernel), List.mem_of_getElem? (i := 653) (by decide +kernel), List.mem_of_getElem? (i := 654) (by decide +kernel)⟩
theorem lw_p18 : lw_okq (⟨"WhateverYard$Cutter", "note", "(II)V"⟩, 6) := ⟨⟨by decide +kernel, by decide +kernel⟩, List.mem_of_getElem? (i := 259) (by decide +kernel), List.mem_of_getElem? (i := 682) (by decide +kernel), List.mem_of_getElem? (i := 683) (by decide +kernel)⟩
theorem lw_p19 : lw_okq (⟨"WhateverYard", "countDeaths", "(II)V"⟩, 14) := ⟨⟨by decide +kernel, by decide +kernel⟩, List.mem_of_getElem? (i := 16) (by decide +kernel), List.mem_of_getElem? (i := 702) (by decide +kernel), List.mem_of_getElem? (i := 703) (by decide +kernel)⟩
theorem lw_p20 : lw_okq (⟨"WhateverYard", "allUnlike", "(I)Z"⟩, 14) := ⟨⟨by decide +kernel, by decide +kernel⟩, List.mem_of_getElem? (i := 16) (by decide +kernel), List.mem_of_getElem? (i := 743) (by decide +kernel), List.mem_of_getElem? (i := 744) (by decide +kernel)⟩
theorem lw_p21 : lw_okq (⟨"WhateverYardModel", "begins", "()V"⟩, 31) := ⟨⟨by decide +kernel, by decide +kernel⟩, List.mem_of_getElem? (i := 788) (by decide +kernel), List.mem_of_getElem? (i := 794) (by decide +kernel), List.mem_of_getElem? (i := 795) (by decide +kernel)⟩
theorem lw_p22 : lw_okq (⟨"WhateverYardModel", "step", "()V"⟩, 31) := ⟨⟨by decide +kernel, by decide +kernel⟩, List.mem_of_getElem? (i := 788) (by decide +kernel), List.mem_of_getElem? (i := 908) (by decide +kernel), List.mem_of_getElem? (i := 909) (by decide +kernel)⟩
theorem lw_p23 : lw_okq (⟨"WhateverYardModel", "here", "()I"⟩, 31) := ⟨⟨by decide +kernel, by decide +kernel⟩, List.mem_of_getElem? (i := 788) (by decide +kernel), List.mem_of_getElem? (i := 912) (by decide +kernel), List.mem_of_getElem? (i := 913) (by decide +kernel)⟩
theorem lw_p24 : lw_okq (⟨"WhateverYardModel", "readsClause", "()Z"⟩, 31) := ⟨⟨by decide +kernel, by decide +kernel⟩, List.mem_of_getElem? (i := 788) (by decide +kernel), List.mem_of_getElem? (i := 918) (by decide +kernel), List.mem_of_getElem? (i := 919) (by decide +kernel)⟩
theorem lw_p25 : lw_okq (⟨"WhateverYardModel", "readsDues", "()Z"⟩, 31) := ⟨⟨by decide +kernel, by decide +kernel⟩, List.mem_of_getElem? (i := 788) (by decide +kernel), List.mem_of_getElem? (i := 922) (by decide +kernel), List.mem_of_getElem? (i := 923) (by decide +kernel)⟩
theorem lw_p26 : lw_okq (⟨"WhateverYardModel", "fails", "(I)Z"⟩, 31) := ⟨⟨by decide +kernel, by decide +kernel⟩, List.mem_of_getElem? (i := 788) (by decide +kernel), List.mem_of_getElem? (i := 926) (by decide +kernel), List.mem_of_getElem? (i := 927) (by decide +kernel)⟩
theorem lw_p27 : lw_okq (⟨"WhateverYardModel", "number", "(III)Z"⟩, 31) := ⟨⟨by decide +kernel, by decide +kernel⟩, List.mem_of_getElem? (i := 788) (by decide +kernel), List.mem_of_getElem? (i := 930) (by decide +kernel), List.mem_of_getElem? (i := 931) (by decide +kernel)⟩
theorem lw_p28 : lw_okq (⟨"WhateverYardModel", "ends", "()Z"⟩, 31) := ⟨⟨by decide +kernel, by decide +kernel⟩, List.mem_of_getElem? (i := 788) (by decide +kernel), List.mem_of_getElem? (i := 934) (by decide +kernel), List.mem_of_getElem? (i := 935) (by decide +kernel)⟩
theorem lw_p29 : lw_okq (⟨"WhateverYardModel", "readsUse", "()Z"⟩, 31) := ⟨⟨by decide +kernel, by decide +kernel⟩, List.mem_of_getElem? (i := 788) (by decide +kernel), List.mem_of_getElem? (i := 938) (by decide +kernel), List.mem_of_getElem? (i := 939) (by decide +kernel)⟩
theorem lw_p30 : lw_okq (⟨"WhateverYardModel", "readsTable", "()Z"⟩, 31) := ⟨⟨by decide +kernel, by decide +kernel⟩, List.mem_of_getElem? (i := 788) (by decide +kernel), List.mem_of_getElem? (i := 942) (by decide +kernel), List.mem_of_getElem? (i := 943) (by decide +kernel)⟩
theorem lw_p31 : lw_okq (⟨"WhateverYardModel", "use", "(I)Z"⟩, 31) := ⟨⟨by decide +kernel, by decide +kernel⟩, List.mem_of_getElem? (i := 788) (by decide +kernel), List.mem_of_getElem? (i := 946) (by decide +kernel), List.mem_of_getElem? (i := 947) (by decide +kernel)⟩
def lw_privs_2 : List (MethodName × Nat) := [(⟨"WhateverYard$Ways", "note", "(II)V"⟩, 6), (⟨"WhateverYard$Ways", "turnAll", "(LWhateverYard$Shop;I)V"⟩, 6), (⟨"WhateverYard$Cutter", "note", "(II)V"⟩, 6), (⟨"WhateverYard", "countDeaths", "(II)V"⟩, 14), (⟨"WhateverYard", "allUnlike", "(I)Z"⟩, 14), (⟨"WhateverYardModel", "begins", "()V"⟩, 31), (⟨"WhateverYardModel", "step", "()V"⟩, 31), (⟨"WhateverYardModel", "here", "()I"⟩, 31), (⟨"WhateverYardModel", "readsClause", "()Z"⟩, 31), (⟨"WhateverYardModel", "readsDues", "()Z"⟩, 31), (⟨"WhateverYardModel", "fails", "(I)Z"⟩, 31), (⟨"WhateverYardModel", "number", "(III)Z"⟩, 31), (⟨"WhateverYardModel", "ends", "()Z"⟩, 31), (⟨"WhateverYardModel", "readsUse", "()Z"⟩, 31), (⟨"WhateverYardModel", "readsTable", "()Z"⟩, 31), (⟨"WhateverYardModel", "use", "(I)Z"⟩, 31)]
theorem lw_r2 : ∀ q ∈ lw_privs_2, lw_okq q := List.forall_mem_cons.mpr ⟨lw_p16, List.forall_mem_cons.mpr ⟨lw_p17, List.forall_mem_cons.mpr ⟨lw_p18, List.forall_mem_cons.mpr ⟨lw_p19, List.forall_mem_cons.mpr ⟨lw_p20, List.forall_mem_cons.mpr ⟨lw_p21, List.forall_mem_cons.mpr ⟨lw_p22, List.forall_mem_cons.mpr ⟨lw_p23, List.forall_mem_cons.mpr ⟨lw_p24, List.forall_mem_cons.mpr ⟨lw_p25, List.forall_mem_cons.mpr ⟨lw_p26, List.forall_mem_cons.mpr ⟨lw_p27, List.forall_mem_cons.mpr ⟨lw_p28, List.forall_mem_cons.mpr ⟨lw_p29, List.forall_mem_cons.mpr ⟨lw_p30, List.forall_mem_cons.mpr ⟨lw_p31, fun _ h => absurd h List.not_mem_nil⟩⟩⟩⟩⟩⟩⟩⟩⟩⟩⟩⟩⟩⟩⟩⟩
theorem lw_p32 : lw_okq (⟨"WhateverYardModel", "readsPiece", "()Z"⟩, 31) := ⟨⟨by decide +kernel, by decide +kernel⟩, List.mem_of_getElem? (i := 788) (by decide +kernel), List.mem_of_getElem? (i := 950) (by decide +kernel), List.mem_of_getElem? (i := 951) (by decide +kernel)⟩
theorem lw_p33 : lw_okq (⟨"WhateverYardModel", "readsWant", "()Z"⟩, 31) := ⟨⟨by decide +kernel, by decide +kernel⟩, List.mem_of_getElem? (i := 788) (by decide +kernel), List.mem_of_getElem? (i := 954) (by decide +kernel), List.mem_of_getElem? (i := 955) (by decide +kernel)⟩
theorem lw_p34 : lw_okq (⟨"WhateverYardModel", "allLength", "()I"⟩, 31) := ⟨⟨by decide +kernel, by decide +kernel⟩, List.mem_of_getElem? (i := 788) (by decide +kernel), List.mem_of_getElem? (i := 966) (by decide +kernel), List.mem_of_getElem? (i := 967) (by decide +kernel)⟩
theorem lw_p35 : lw_okq (⟨"WhateverYardModel", "isUse", "(I)Z"⟩, 31) := ⟨⟨by decide +kernel, by decide +kernel⟩, List.mem_of_getElem? (i := 788) (by decide +kernel), List.mem_of_getElem? (i := 974) (by decide +kernel), List.mem_of_getElem? (i := 975) (by decide +kernel)⟩
theorem lw_p36 : lw_okq (⟨"WhateverYardModel", "isTable", "(I)Z"⟩, 31) := ⟨⟨by decide +kernel, by decide +kernel⟩, List.mem_of_getElem? (i := 788) (by decide +kernel), List.mem_of_getElem? (i := 983) (by decide +kernel), List.mem_of_getElem? (i := 984) (by decide +kernel)⟩
theorem lw_p37 : lw_okq (⟨"WhateverYardModel", "isPiece", "(I)Z"⟩, 31) := ⟨⟨by decide +kernel, by decide +kernel⟩, List.mem_of_getElem? (i := 788) (by decide +kernel), List.mem_of_getElem? (i := 992) (by decide +kernel), List.mem_of_getElem? (i := 993) (by decide +kernel)⟩
theorem lw_p38 : lw_okq (⟨"WhateverYardModel", "yards", "(I)I"⟩, 31) := ⟨⟨by decide +kernel, by decide +kernel⟩, List.mem_of_getElem? (i := 788) (by decide +kernel), List.mem_of_getElem? (i := 996) (by decide +kernel), List.mem_of_getElem? (i := 997) (by decide +kernel)⟩
theorem lw_p39 : lw_okq (⟨"WhateverYardModel", "isWant", "(I)Z"⟩, 31) := ⟨⟨by decide +kernel, by decide +kernel⟩, List.mem_of_getElem? (i := 788) (by decide +kernel), List.mem_of_getElem? (i := 1004) (by decide +kernel), List.mem_of_getElem? (i := 1005) (by decide +kernel)⟩
theorem lw_p40 : lw_okq (⟨"WhateverYardModel", "remember", "()V"⟩, 31) := ⟨⟨by decide +kernel, by decide +kernel⟩, List.mem_of_getElem? (i := 788) (by decide +kernel), List.mem_of_getElem? (i := 1014) (by decide +kernel), List.mem_of_getElem? (i := 1015) (by decide +kernel)⟩
theorem lw_p41 : lw_okq (⟨"WhateverYardModel", "turns", "(II)V"⟩, 31) := ⟨⟨by decide +kernel, by decide +kernel⟩, List.mem_of_getElem? (i := 788) (by decide +kernel), List.mem_of_getElem? (i := 1025) (by decide +kernel), List.mem_of_getElem? (i := 1026) (by decide +kernel)⟩
theorem lw_p42 : lw_okq (⟨"WhateverYardModel", "turned", "(III)I"⟩, 31) := ⟨⟨by decide +kernel, by decide +kernel⟩, List.mem_of_getElem? (i := 788) (by decide +kernel), List.mem_of_getElem? (i := 1029) (by decide +kernel), List.mem_of_getElem? (i := 1030) (by decide +kernel)⟩
theorem lw_p43 : lw_okq (⟨"WhateverYardModel", "draw", "(I)I"⟩, 31) := ⟨⟨by decide +kernel, by decide +kernel⟩, List.mem_of_getElem? (i := 788) (by decide +kernel), List.mem_of_getElem? (i := 1046) (by decide +kernel), List.mem_of_getElem? (i := 1047) (by decide +kernel)⟩
theorem lw_p44 : lw_okq (⟨"WhateverYardModel", "allTables", "()I"⟩, 31) := ⟨⟨by decide +kernel, by decide +kernel⟩, List.mem_of_getElem? (i := 788) (by decide +kernel), List.mem_of_getElem? (i := 1062) (by decide +kernel), List.mem_of_getElem? (i := 1063) (by decide +kernel)⟩
theorem lw_p45 : lw_okq (⟨"WhateverYardModel", "agrees", "(I)Z"⟩, 31) := ⟨⟨by decide +kernel, by decide +kernel⟩, List.mem_of_getElem? (i := 788) (by decide +kernel), List.mem_of_getElem? (i := 1066) (by decide +kernel), List.mem_of_getElem? (i := 1067) (by decide +kernel)⟩
theorem lw_p46 : lw_okq (⟨"WhateverYardModel", "spread", "(I)V"⟩, 31) := ⟨⟨by decide +kernel, by decide +kernel⟩, List.mem_of_getElem? (i := 788) (by decide +kernel), List.mem_of_getElem? (i := 1070) (by decide +kernel), List.mem_of_getElem? (i := 1071) (by decide +kernel)⟩
theorem lw_p47 : lw_okq (⟨"WhateverYardModel", "goes", "(IIIII)I"⟩, 31) := ⟨⟨by decide +kernel, by decide +kernel⟩, List.mem_of_getElem? (i := 788) (by decide +kernel), List.mem_of_getElem? (i := 1090) (by decide +kernel), List.mem_of_getElem? (i := 1091) (by decide +kernel)⟩
def lw_privs_3 : List (MethodName × Nat) := [(⟨"WhateverYardModel", "readsPiece", "()Z"⟩, 31), (⟨"WhateverYardModel", "readsWant", "()Z"⟩, 31), (⟨"WhateverYardModel", "allLength", "()I"⟩, 31), (⟨"WhateverYardModel", "isUse", "(I)Z"⟩, 31), (⟨"WhateverYardModel", "isTable", "(I)Z"⟩, 31), (⟨"WhateverYardModel", "isPiece", "(I)Z"⟩, 31), (⟨"WhateverYardModel", "yards", "(I)I"⟩, 31), (⟨"WhateverYardModel", "isWant", "(I)Z"⟩, 31), (⟨"WhateverYardModel", "remember", "()V"⟩, 31), (⟨"WhateverYardModel", "turns", "(II)V"⟩, 31), (⟨"WhateverYardModel", "turned", "(III)I"⟩, 31), (⟨"WhateverYardModel", "draw", "(I)I"⟩, 31), (⟨"WhateverYardModel", "allTables", "()I"⟩, 31), (⟨"WhateverYardModel", "agrees", "(I)Z"⟩, 31), (⟨"WhateverYardModel", "spread", "(I)V"⟩, 31), (⟨"WhateverYardModel", "goes", "(IIIII)I"⟩, 31)]
theorem lw_r3 : ∀ q ∈ lw_privs_3, lw_okq q := List.forall_mem_cons.mpr ⟨lw_p32, List.forall_mem_cons.mpr ⟨lw_p33, List.forall_mem_cons.mpr ⟨lw_p34, List.forall_mem_cons.mpr ⟨lw_p35, List.forall_mem_cons.mpr ⟨lw_p36, List.forall_mem_cons.mpr ⟨lw_p37, List.forall_mem_cons.mpr ⟨lw_p38, List.forall_mem_cons.mpr ⟨lw_p39, List.forall_mem_cons.mpr ⟨lw_p40, List.forall_mem_cons.mpr ⟨lw_p41, List.forall_mem_cons.mpr ⟨lw_p42, List.forall_mem_cons.mpr ⟨lw_p43, List.forall_mem_cons.mpr ⟨lw_p44, List.forall_mem_cons.mpr ⟨lw_p45, List.forall_mem_cons.mpr ⟨lw_p46, List.forall_mem_cons.mpr ⟨lw_p47, fun _ h => absurd h List.not_mem_nil⟩⟩⟩⟩⟩⟩⟩⟩⟩⟩⟩⟩⟩⟩⟩⟩
theorem lw_p48 : lw_okq (⟨"WhateverYardModel", "gains", "(I)I"⟩, 31) := ⟨⟨by decide +kernel, by decide +kernel⟩, List.mem_of_getElem? (i := 788) (by decide +kernel), List.mem_of_getElem? (i := 1098) (by decide +kernel), List.mem_of_getElem? (i := 1099) (by decide +kernel)⟩
theorem lw_p49 : lw_okq (⟨"WhateverYardModel", "becomes", "(II)I"⟩, 31) := ⟨⟨by decide +kernel, by decide +kernel⟩, List.mem_of_getElem? (i := 788) (by decide +kernel), List.mem_of_getElem? (i := 1102) (by decide +kernel), List.mem_of_getElem? (i := 1103) (by decide +kernel)⟩
theorem lw_p50 : lw_okq (⟨"WhateverYardModel", "leaves", "(I)I"⟩, 31) := ⟨⟨by decide +kernel, by decide +kernel⟩, List.mem_of_getElem? (i := 788) (by decide +kernel), List.mem_of_getElem? (i := 1115) (by decide +kernel), List.mem_of_getElem? (i := 1116) (by decide +kernel)⟩
theorem lw_p51 : lw_okq (⟨"WhateverYardModel", "uses", "()I"⟩, 31) := ⟨⟨by decide +kernel, by decide +kernel⟩, List.mem_of_getElem? (i := 788) (by decide +kernel), List.mem_of_getElem? (i := 1144) (by decide +kernel), List.mem_of_getElem? (i := 1145) (by decide +kernel)⟩
def lw_privs_4 : List (MethodName × Nat) := [(⟨"WhateverYardModel", "gains", "(I)I"⟩, 31), (⟨"WhateverYardModel", "becomes", "(II)I"⟩, 31), (⟨"WhateverYardModel", "leaves", "(I)I"⟩, 31), (⟨"WhateverYardModel", "uses", "()I"⟩, 31)]
theorem lw_r4 : ∀ q ∈ lw_privs_4, lw_okq q := List.forall_mem_cons.mpr ⟨lw_p48, List.forall_mem_cons.mpr ⟨lw_p49, List.forall_mem_cons.mpr ⟨lw_p50, List.forall_mem_cons.mpr ⟨lw_p51, fun _ h => absurd h List.not_mem_nil⟩⟩⟩⟩
def lw_privs : List (MethodName × Nat) := lw_privs_1 ++ (lw_privs_2 ++ (lw_privs_3 ++ (lw_privs_4)))
def lw_tbl : List Cond := k2_sels lw_privs ++ tables_1
theorem lw_privs_ok : ∀ q ∈ lw_privs, lw_okq q := by
  show ∀ q ∈ lw_privs_1 ++ (lw_privs_2 ++ (lw_privs_3 ++ (lw_privs_4))), lw_okq q
  exact List.forall_mem_append.mpr ⟨lw_r1, List.forall_mem_append.mpr ⟨lw_r2, List.forall_mem_append.mpr ⟨lw_r3, lw_r4⟩⟩⟩
end
section
/-! the classes: their fields, types; the words that they stand on -/
def x_tb : List Cond := lw_tbl.filter goodWord
theorem x_in_tb {w : Cond} (h : w ∈ lw_tbl) (g : goodWord w = true) : w ∈ x_tb := List.mem_filter.mpr ⟨h, g⟩
theorem x_tb_in {w : Cond} (h : w ∈ x_tb) : w ∈ lw_tbl := (List.mem_filter.mp h).1
theorem x_at_in {w : Cond} (i : Nat) (h : lw_tbl[i]? = some w) (g : goodWord w = true) : w ∈ x_tb := x_in_tb (List.mem_of_getElem? h) g
theorem x_some_in {ws : List Cond} (ps : List Nat) (h : ws = ps.filterMap (fun i => lw_tbl[i]?)) (g : ws.all goodWord = true) : ∀ w ∈ ws, w ∈ x_tb := by
  intro w hw
  have g1 := List.all_eq_true.mp g w hw
  rw [h] at hw
  obtain ⟨i, -, hi⟩ := List.mem_filterMap.mp hw
  exact x_in_tb (List.mem_of_getElem? hi) g1
def x_F0 : u_T := fun k => match k with
  | 0 => ("WhateverYard$Book", "pieces", "LWhateverYard$Row;", true)
  | _ => ("WhateverYard$Book", "entries", "LWhateverYard$Row;", true)
def x_T0 : Nat → FieldType := fun k => match k with
  | 0 => .object "WhateverYard$Row"
  | _ => .object "WhateverYard$Row"
def x_F1 : u_T := fun k => match k with
  | 0 => ("WhateverYard$Cloth", "lengths", "LWhateverYard$Row;", true)
  | 1 => ("WhateverYard$Cloth", "declared", "LWhateverYard$Row;", true)
  | 2 => ("WhateverYard$Cloth", "paid", "I", false)
  | _ => ("WhateverYard$Cloth", "waste", "I", false)
def x_T1 : Nat → FieldType := fun k => match k with
  | 0 => .object "WhateverYard$Row"
  | 1 => .object "WhateverYard$Row"
  | 2 => .int
  | _ => .int
def x_F2 : u_T := fun k => match k with
  | 0 => ("WhateverYard$Cutter", "best", "LWhateverYard$Row;", true)
  | 1 => ("WhateverYard$Cutter", "found", "Z", false)
  | 2 => ("WhateverYard$Cutter", "bestTouched", "I", false)
  | 3 => ("WhateverYard$Cutter", "wantedInAll", "I", false)
  | 4 => ("WhateverYard$Cutter", "chosen", "LWhateverYard$Row;", true)
  | _ => ("WhateverYard$Cutter", "rest", "LWhateverYard$Row;", true)
def x_T2 : Nat → FieldType := fun k => match k with
  | 0 => .object "WhateverYard$Row"
  | 1 => .boolean
  | 2 => .int
  | 3 => .int
  | 4 => .object "WhateverYard$Row"
  | _ => .object "WhateverYard$Row"
def x_F3 : u_T := fun k => match k with
  | 0 => ("WhateverYard$Heights", "above", "LWhateverYard$Row;", true)
  | _ => ("WhateverYard$Heights", "below", "LWhateverYard$Row;", true)
def x_T3 : Nat → FieldType := fun k => match k with
  | 0 => .object "WhateverYard$Row"
  | _ => .object "WhateverYard$Row"
def x_F4 : u_T := fun k => match k with
  | 0 => ("WhateverYard$Left", "bought", "LWhateverYard$Row;", true)
  | 1 => ("WhateverYard$Left", "cutOff", "LWhateverYard$Row;", true)
  | _ => ("WhateverYard$Left", "rest", "LWhateverYard$Row;", true)
def x_T4 : Nat → FieldType := fun k => match k with
  | 0 => .object "WhateverYard$Row"
  | 1 => .object "WhateverYard$Row"
  | _ => .object "WhateverYard$Row"
def x_F5 : u_T := fun k => match k with
  | 0 => ("WhateverYard$Past", "store", "LWhateverYard$Row;", true)
  | 1 => ("WhateverYard$Past", "next", "I", false)
  | _ => ("WhateverYard$Past", "count", "I", false)
def x_T5 : Nat → FieldType := fun k => match k with
  | 0 => .object "WhateverYard$Row"
  | 1 => .int
  | _ => .int
def x_F6 : u_T := fun k => match k with
  | 0 => ("WhateverYard$Reader", "text", "LWhateverYard$Row;", true)
  | 1 => ("WhateverYard$Reader", "faultPlace", "I", false)
  | 2 => ("WhateverYard$Reader", "faultNumber", "I", false)
  | 3 => ("WhateverYard$Reader", "place", "I", false)
  | _ => ("WhateverYard$Reader", "numberPlace", "I", false)
def x_T6 : Nat → FieldType := fun k => match k with
  | 0 => .object "WhateverYard$Row"
  | 1 => .int
  | 2 => .int
  | 3 => .int
  | _ => .int
def x_F7 : u_T := fun k => match k with
  | 0 => ("WhateverYard$Row", "cells", "[I", true)
  | _ => ("WhateverYard$Row", "count", "I", false)
def x_T7 : Nat → FieldType := fun k => match k with
  | 0 => .array .int
  | _ => .int
def x_F8 : u_T := fun k => match k with
  | 0 => ("WhateverYard$Shop", "open", "Z", false)
  | 1 => ("WhateverYard$Shop", "dues", "I", false)
  | 2 => ("WhateverYard$Shop", "yards", "LWhateverYard$Row;", true)
  | 3 => ("WhateverYard$Shop", "tableFrom", "LWhateverYard$Row;", true)
  | 4 => ("WhateverYard$Shop", "tableTo", "LWhateverYard$Row;", true)
  | 5 => ("WhateverYard$Shop", "tableGiven", "LWhateverYard$Row;", true)
  | 6 => ("WhateverYard$Shop", "tableGot", "LWhateverYard$Row;", true)
  | 7 => ("WhateverYard$Shop", "pieceUse", "LWhateverYard$Row;", true)
  | 8 => ("WhateverYard$Shop", "pieceYards", "LWhateverYard$Row;", true)
  | 9 => ("WhateverYard$Shop", "wantUse", "LWhateverYard$Row;", true)
  | _ => ("WhateverYard$Shop", "wantYards", "LWhateverYard$Row;", true)
def x_T8 : Nat → FieldType := fun k => match k with
  | 0 => .boolean
  | 1 => .int
  | 2 => .object "WhateverYard$Row"
  | 3 => .object "WhateverYard$Row"
  | 4 => .object "WhateverYard$Row"
  | 5 => .object "WhateverYard$Row"
  | 6 => .object "WhateverYard$Row"
  | 7 => .object "WhateverYard$Row"
  | 8 => .object "WhateverYard$Row"
  | 9 => .object "WhateverYard$Row"
  | _ => .object "WhateverYard$Row"
def x_F9 : u_T := fun k => match k with
  | 0 => ("WhateverYard$Ways", "best", "LWhateverYard$Row;", true)
  | 1 => ("WhateverYard$Ways", "bestYards", "I", false)
  | 2 => ("WhateverYard$Ways", "bestTurns", "I", false)
  | 3 => ("WhateverYard$Ways", "way", "LWhateverYard$Row;", true)
  | 4 => ("WhateverYard$Ways", "yardsOf", "LWhateverYard$Row;", true)
  | _ => ("WhateverYard$Ways", "nextYardsOf", "LWhateverYard$Row;", true)
def x_T9 : Nat → FieldType := fun k => match k with
  | 0 => .object "WhateverYard$Row"
  | 1 => .int
  | 2 => .int
  | 3 => .object "WhateverYard$Row"
  | 4 => .object "WhateverYard$Row"
  | _ => .object "WhateverYard$Row"
def x_F10 : u_T := fun k => match k with
  | 0 => ("WhateverYard", "reader", "LWhateverYard$Reader;", true)
  | 1 => ("WhateverYard", "shop", "LWhateverYard$Shop;", false)
  | 2 => ("WhateverYard", "draft", "LWhateverYard$Shop;", false)
  | 3 => ("WhateverYard", "now", "LWhateverYard$Cloth;", true)
  | 4 => ("WhateverYard", "past", "LWhateverYard$Past;", true)
  | 5 => ("WhateverYard", "leftTold", "LWhateverYard$Left;", true)
  | 6 => ("WhateverYard", "book", "LWhateverYard$Book;", true)
  | 7 => ("WhateverYard", "heights", "LWhateverYard$Heights;", true)
  | 8 => ("WhateverYard", "ways", "LWhateverYard$Ways;", true)
  | 9 => ("WhateverYard", "cutter", "LWhateverYard$Cutter;", true)
  | 10 => ("WhateverYard", "odds", "LWhateverYard$Row;", true)
  | 11 => ("WhateverYard", "images", "LWhateverYard$Row;", true)
  | 12 => ("WhateverYard", "imagesKept", "I", false)
  | _ => ("WhateverYard", "drawn", "I", false)
def x_T10 : Nat → FieldType := fun k => match k with
  | 0 => .object "WhateverYard$Reader"
  | 1 => .object "WhateverYard$Shop"
  | 2 => .object "WhateverYard$Shop"
  | 3 => .object "WhateverYard$Cloth"
  | 4 => .object "WhateverYard$Past"
  | 5 => .object "WhateverYard$Left"
  | 6 => .object "WhateverYard$Book"
  | 7 => .object "WhateverYard$Heights"
  | 8 => .object "WhateverYard$Ways"
  | 9 => .object "WhateverYard$Cutter"
  | 10 => .object "WhateverYard$Row"
  | 11 => .object "WhateverYard$Row"
  | 12 => .int
  | _ => .int
def x_F11 : u_T := fun k => match k with
  | 0 => ("WhateverYardModel", "shop", "[I", true)
  | 1 => ("WhateverYardModel", "read", "[I", true)
  | 2 => ("WhateverYardModel", "now", "[I", true)
  | 3 => ("WhateverYardModel", "past", "[I", true)
  | 4 => ("WhateverYardModel", "undos", "I", false)
  | 5 => ("WhateverYardModel", "images", "[I", true)
  | 6 => ("WhateverYardModel", "kept", "[Z", true)
  | 7 => ("WhateverYardModel", "seed", "J", false)
  | 8 => ("WhateverYardModel", "text", "[I", true)
  | 9 => ("WhateverYardModel", "size", "I", false)
  | 10 => ("WhateverYardModel", "fault", "I", false)
  | 11 => ("WhateverYardModel", "lefts", "[I", true)
  | 12 => ("WhateverYardModel", "leftMany", "I", false)
  | 13 => ("WhateverYardModel", "book", "[I", true)
  | 14 => ("WhateverYardModel", "bookMany", "I", false)
  | 15 => ("WhateverYardModel", "at", "I", false)
  | 16 => ("WhateverYardModel", "begin", "I", false)
  | 17 => ("WhateverYardModel", "sign", "I", false)
  | 18 => ("WhateverYardModel", "figures", "I", false)
  | 19 => ("WhateverYardModel", "value", "I", false)
  | 20 => ("WhateverYardModel", "wrong", "I", false)
  | 21 => ("WhateverYardModel", "above", "[J", true)
  | 22 => ("WhateverYardModel", "below", "[J", true)
  | 23 => ("WhateverYardModel", "row", "[I", true)
  | 24 => ("WhateverYardModel", "best", "[I", true)
  | 25 => ("WhateverYardModel", "yardsOf", "[I", true)
  | 26 => ("WhateverYardModel", "yardsThen", "[I", true)
  | 27 => ("WhateverYardModel", "pieceOf", "[I", true)
  | 28 => ("WhateverYardModel", "bestPiece", "[I", true)
  | 29 => ("WhateverYardModel", "leftOf", "[I", true)
  | _ => ("WhateverYardModel", "parts", "[I", true)
def x_T11 : Nat → FieldType := fun k => match k with
  | 0 => .array .int
  | 1 => .array .int
  | 2 => .array .int
  | 3 => .array .int
  | 4 => .int
  | 5 => .array .int
  | 6 => .array .boolean
  | 7 => .long
  | 8 => .array .int
  | 9 => .int
  | 10 => .int
  | 11 => .array .int
  | 12 => .int
  | 13 => .array .int
  | 14 => .int
  | 15 => .int
  | 16 => .int
  | 17 => .int
  | 18 => .int
  | 19 => .int
  | 20 => .int
  | 21 => .array .long
  | 22 => .array .long
  | 23 => .array .int
  | 24 => .array .int
  | 25 => .array .int
  | 26 => .array .int
  | 27 => .array .int
  | 28 => .array .int
  | 29 => .array .int
  | _ => .array .int
abbrev x_cl : List vw_C := [("WhateverYard$Book", x_F0, 2), ("WhateverYard$Cloth", x_F1, 4), ("WhateverYard$Cutter", x_F2, 6), ("WhateverYard$Heights", x_F3, 2), ("WhateverYard$Left", x_F4, 3), ("WhateverYard$Past", x_F5, 3), ("WhateverYard$Reader", x_F6, 5), ("WhateverYard$Row", x_F7, 2), ("WhateverYard$Shop", x_F8, 11), ("WhateverYard$Ways", x_F9, 6), ("WhateverYard", x_F10, 14), ("WhateverYardModel", x_F11, 31)]
def x_ty : Nat → Nat → FieldType := fun c => match c with
  | 0 => x_T0
  | 1 => x_T1
  | 2 => x_T2
  | 3 => x_T3
  | 4 => x_T4
  | 5 => x_T5
  | 6 => x_T6
  | 7 => x_T7
  | 8 => x_T8
  | 9 => x_T9
  | 10 => x_T10
  | _ => x_T11
def x_clok (ci : Nat) (C : String) (T : u_T) (N : Nat) : Prop := (∀ w ∈ u_ws C T N, w ∈ x_tb) ∧ (∀ k, k < N → parseFieldDescriptor (T k).2.2.1 = some (x_ty ci k)) ∧ (∀ a, a < N → ∀ b, b < N → a ≠ b → (T a).2.1 ≠ (T b).2.1) ∧ Cond.instantiable C N ∈ x_tb ∧ Cond.initialized C ∈ x_tb
theorem x_clok0 : x_clok 0 "WhateverYard$Book" x_F0 2 := ⟨x_some_in [260, 262] (by decide +kernel) (by decide +kernel), by decide +kernel, by decide +kernel, x_at_in 251 (by decide +kernel) (by decide +kernel), x_at_in 60 (by decide +kernel) (by decide +kernel)⟩
theorem x_clok1 : x_clok 1 "WhateverYard$Cloth" x_F1 4 := ⟨x_some_in [205, 207, 209, 211] (by decide +kernel) (by decide +kernel), by decide +kernel, by decide +kernel, x_at_in 190 (by decide +kernel) (by decide +kernel), x_at_in 57 (by decide +kernel) (by decide +kernel)⟩
theorem x_clok2 : x_clok 2 "WhateverYard$Cutter" x_F2 6 := ⟨x_some_in [326, 328, 330, 332, 334, 336] (by decide +kernel) (by decide +kernel), by decide +kernel, by decide +kernel, x_at_in 311 (by decide +kernel) (by decide +kernel), x_at_in 63 (by decide +kernel) (by decide +kernel)⟩
theorem x_clok3 : x_clok 3 "WhateverYard$Heights" x_F3 2 := ⟨x_some_in [275, 277] (by decide +kernel) (by decide +kernel), by decide +kernel, by decide +kernel, x_at_in 266 (by decide +kernel) (by decide +kernel), x_at_in 61 (by decide +kernel) (by decide +kernel)⟩
theorem x_clok4 : x_clok 4 "WhateverYard$Left" x_F4 3 := ⟨x_some_in [243, 245, 247] (by decide +kernel) (by decide +kernel), by decide +kernel, by decide +kernel, x_at_in 233 (by decide +kernel) (by decide +kernel), x_at_in 59 (by decide +kernel) (by decide +kernel)⟩
theorem x_clok5 : x_clok 5 "WhateverYard$Past" x_F5 3 := ⟨x_some_in [225, 227, 229] (by decide +kernel) (by decide +kernel), by decide +kernel, by decide +kernel, x_at_in 215 (by decide +kernel) (by decide +kernel), x_at_in 58 (by decide +kernel) (by decide +kernel)⟩
theorem x_clok6 : x_clok 6 "WhateverYard$Reader" x_F6 5 := ⟨x_some_in [102, 104, 106, 108, 110] (by decide +kernel) (by decide +kernel), by decide +kernel, by decide +kernel, x_at_in 76 (by decide +kernel) (by decide +kernel), x_at_in 54 (by decide +kernel) (by decide +kernel)⟩
theorem x_clok7 : x_clok 7 "WhateverYard$Row" x_F7 2 := ⟨x_some_in [89, 91] (by decide +kernel) (by decide +kernel), by decide +kernel, by decide +kernel, x_at_in 82 (by decide +kernel) (by decide +kernel), x_at_in 55 (by decide +kernel) (by decide +kernel)⟩
theorem x_clok8 : x_clok 8 "WhateverYard$Shop" x_F8 11 := ⟨x_some_in [166, 168, 170, 172, 174, 176, 178, 180, 182, 184, 186] (by decide +kernel) (by decide +kernel), by decide +kernel, by decide +kernel, x_at_in 114 (by decide +kernel) (by decide +kernel), x_at_in 56 (by decide +kernel) (by decide +kernel)⟩
theorem x_clok9 : x_clok 9 "WhateverYard$Ways" x_F9 6 := ⟨x_some_in [297, 299, 301, 303, 305, 307] (by decide +kernel) (by decide +kernel), by decide +kernel, by decide +kernel, x_at_in 281 (by decide +kernel) (by decide +kernel), x_at_in 62 (by decide +kernel) (by decide +kernel)⟩
theorem x_clok10 : x_clok 10 "WhateverYard" x_F10 14 := ⟨x_some_in [355, 357, 359, 361, 363, 365, 367, 369, 371, 373, 375, 377, 379, 381] (by decide +kernel) (by decide +kernel), by decide +kernel, by decide +kernel, x_at_in 68 (by decide +kernel) (by decide +kernel), x_at_in 53 (by decide +kernel) (by decide +kernel)⟩
theorem x_clok11 : x_clok 11 "WhateverYardModel" x_F11 31 := ⟨x_some_in [880, 882, 884, 886, 888, 890, 892, 894, 896, 898, 900, 902, 904, 906, 908, 910, 912, 914, 916, 918, 920, 922, 924, 926, 928, 930, 932, 934, 936, 938, 940] (by decide +kernel) (by decide +kernel), by decide +kernel, by decide +kernel, x_at_in 840 (by decide +kernel) (by decide +kernel), x_at_in 64 (by decide +kernel) (by decide +kernel)⟩
theorem x_cl_ok {ci : Nat} {C : String} {T : u_T} {N : Nat} (h : x_cl[ci]? = some (C, T, N)) : x_clok ci C T N := by
  match ci, h with
  | 0, h => cases h; exact x_clok0
  | 1, h => cases h; exact x_clok1
  | 2, h => cases h; exact x_clok2
  | 3, h => cases h; exact x_clok3
  | 4, h => cases h; exact x_clok4
  | 5, h => cases h; exact x_clok5
  | 6, h => cases h; exact x_clok6
  | 7, h => cases h; exact x_clok7
  | 8, h => cases h; exact x_clok8
  | 9, h => cases h; exact x_clok9
  | 10, h => cases h; exact x_clok10
  | 11, h => cases h; exact x_clok11
  | n + 12, h => simp [x_cl] at h
def x_nl : List (String × Nat × MethodName × String) := [("WhateverYard", 11, ⟨"WhateverYard$Reader", "<init>", "()V"⟩, "WhateverYard"), ("WhateverYard", 18, ⟨"WhateverYard$Shop", "<init>", "()V"⟩, "WhateverYard"), ("WhateverYard", 28, ⟨"WhateverYard$Cloth", "<init>", "()V"⟩, "WhateverYard"), ("WhateverYard", 35, ⟨"WhateverYard$Past", "<init>", "()V"⟩, "WhateverYard"), ("WhateverYard", 42, ⟨"WhateverYard$Left", "<init>", "()V"⟩, "WhateverYard"), ("WhateverYard", 49, ⟨"WhateverYard$Book", "<init>", "()V"⟩, "WhateverYard"), ("WhateverYard", 56, ⟨"WhateverYard$Heights", "<init>", "()V"⟩, "WhateverYard"), ("WhateverYard", 63, ⟨"WhateverYard$Ways", "<init>", "()V"⟩, "WhateverYard"), ("WhateverYard", 70, ⟨"WhateverYard$Cutter", "<init>", "()V"⟩, "WhateverYard"), ("WhateverYard$Cloth", 55, ⟨"WhateverYard", "quotient", "(II)I"⟩, "WhateverYard"), ("WhateverYard$Shop", 63, ⟨"WhateverYard", "quotient", "(II)I"⟩, "WhateverYard")]
def x_NW (U : State) : Prop := ∀ q ∈ x_nl, va_Nw (.methodLinkNest q.1 q.2.1 q.2.2.1 q.2.2.2) U
theorem x_NW.warm {s U : State} (hW : s.WarmedH U.vm) (h : x_NW s) : x_NW U := fun q hq => va_Nw.warmM hW (h q hq)
theorem x_NW.same {u U : State} (h : u.vm = U.vm) (hZ : x_NW u) : x_NW U := fun q hq => va_Nw.same rfl h (hZ q hq)
theorem x_nl_in : x_nl.map (fun q => Cond.methodLinkNest q.1 q.2.1 q.2.2.1 q.2.2.2) = [77, 115, 191, 216, 234, 252, 267, 282, 312, 552, 590].filterMap (fun i => lw_tbl[i]?) := by decide +kernel
theorem x_NW.of {s : State} {A : Array Value} (hts : ∀ w ∈ lw_tbl, w.before A s = true) : x_NW s := by
  intro q hq
  have h : Cond.methodLinkNest q.1 q.2.1 q.2.2.1 q.2.2.2 ∈ x_nl.map (fun q => Cond.methodLinkNest q.1 q.2.1 q.2.2.1 q.2.2.2) := List.mem_map.mpr ⟨q, hq, rfl⟩
  rw [x_nl_in] at h
  obtain ⟨i, -, hi⟩ := List.mem_filterMap.mp h
  exact va_Nw.of rfl (hts _ (List.mem_of_getElem? hi))
-- arrayClass words at [94, 943, 944]: ['Jvm.ClassFile.FieldType.int', 'Jvm.ClassFile.FieldType.boolean', 'Jvm.ClassFile.FieldType.long']
theorem x_ac_int : Cond.arrayClass .int ∈ x_tb := x_at_in 94 (by decide +kernel) (by decide +kernel)
theorem x_ac_boolean : Cond.arrayClass .boolean ∈ x_tb := x_at_in 943 (by decide +kernel) (by decide +kernel)
theorem x_ac_long : Cond.arrayClass .long ∈ x_tb := x_at_in 944 (by decide +kernel) (by decide +kernel)
end
section
/-! THE SMALL MACHINE: a plain machine over numbered cells, whose runs are runs of the real one (part 04) -/
def x_j : Value := .retAddr 0
abbrev x_C : Type := (Nat × vp_A) ⊕ (Nat × List Value)
/-- how many cells there are, how many places they have in all, the cells -/
abbrev x_H : Type := Nat × Nat × (Nat → x_C)
/-- place, instruction, length, index in the pool, place of the word -/
abbrev x_Cd : Type := List (Nat × Instr × Nat × Nat × Nat)
/-- name, bytes, locals, what it returns, code -/
abbrev x_M : Type := MethodName × ByteArray × Nat × Option FieldType × x_Cd
abbrev x_K : Type := Nat × List Value × List Value × x_H
abbrev x_A : Type := x_K ⊕ ((Nat × List Value × Nat × List Value × List Value) ⊕ Option Value)
def x_get (h : x_H) (q : Nat) : Option x_C := if q < h.1 then some (h.2.2 q) else none
def x_set (h : x_H) (q : Nat) (c : x_C) : x_H := (h.1, h.2.1, fun j => if j = q then c else h.2.2 j)
def x_new (h : x_H) (w : Nat) (c : x_C) : x_H := (h.1 + 1, h.2.1 + w, fun j => if j = h.1 then c else h.2.2 j)
def x_inb (i : Int32) (n : Nat) : Bool := decide (¬ i < 0) && decide (i.toNatClampNeg < n)
def x_fld (h : x_H) (q ci k : Nat) : Option Value := match x_get h q with
  | some (.inr (c, fs)) => if c = ci then fs[k]? else none
  | _ => none
def x_pfd (h : x_H) (q ci k : Nat) (v : Value) : Option x_H := match x_get h q with
  | some (.inr (c, fs)) => if c = ci ∧ k < fs.length then some (x_set h q (.inr (c, fs.set k v))) else none
  | _ => none
def x_ild (h : x_H) (q t : Nat) (i : Int32) : Option Int32 := match x_get h q with
  | some (.inl (t', n, .inl f)) => if t' = t ∧ x_inb i n = true then some (f i.toNatClampNeg) else none
  | _ => none
def x_ist (h : x_H) (q t : Nat) (i x : Int32) : Option x_H := match x_get h q with
  | some (.inl (t', n, .inl f)) => if t' = t ∧ x_inb i n = true then some (x_set h q (.inl (t', n, .inl (upd f i.toNatClampNeg x)))) else none
  | _ => none
def x_lld (h : x_H) (q : Nat) (i : Int32) : Option Int64 := match x_get h q with
  | some (.inl (t', n, .inr (.inl f))) => if t' = 1 ∧ x_inb i n = true then some (f i.toNatClampNeg) else none
  | _ => none
def x_lst (h : x_H) (q : Nat) (i : Int32) (x : Int64) : Option x_H := match x_get h q with
  | some (.inl (t', n, .inr (.inl f))) => if t' = 1 ∧ x_inb i n = true then some (x_set h q (.inl (t', n, .inr (.inl (vp_updL f i.toNatClampNeg x))))) else none
  | _ => none
def x_len (h : x_H) (q : Nat) : Option Nat := match x_get h q with
  | some (.inl (t, n, f)) => if t < 3 then some n else none
  | _ => none
def x_isa (h : x_H) (q ci : Nat) : Bool := match x_get h q with
  | some (.inr (c, _)) => Nat.beq c ci
  | _ => false
/-- a value may stand in a field -/
def x_fok (t : FieldType) (v : Value) : Bool := match t, v with
  | .int, .int _ => true
  | .boolean, .int b => decide (b = 0) || decide (b = 1)
  | .long, .long _ => true
  | .object _, .ref _ => true
  | .array _, .ref _ => true
  | _, _ => false
def x_go (pc : Nat) (ls st : List Value) (h : x_H) : Option x_A := some (.inl (pc, ls, st, h))
def x_tg (pc : Nat) (off : Int) : Nat := ((pc : Int) + off).toNat
def x_kill (ls : List Value) (i : Nat) : List Value := match i with
  | 0 => ls
  | i + 1 => match ls[i]? with
    | some (.long _) => ls.set i x_j
    | some (.double _) => ls.set i x_j
    | _ => ls
def x_st1 (ls : List Value) (i : Nat) (v : Value) : List Value := (x_kill ls i).set i v
def x_st2 (ls : List Value) (i : Nat) (v : Value) : List Value := ((x_kill ls i).set i v).set (i + 1) x_j
def x_ldi (i len pc : Nat) (ls st : List Value) (h : x_H) : Option x_A := match ls[i]? with
  | some (.int x) => x_go (pc + len) ls (.int x :: st) h
  | _ => none
def x_lda (i len pc : Nat) (ls st : List Value) (h : x_H) : Option x_A := match ls[i]? with
  | some (.ref x) => x_go (pc + len) ls (.ref x :: st) h
  | _ => none
def x_ldl (i len pc : Nat) (ls st : List Value) (h : x_H) : Option x_A := match ls[i]? with
  | some (.long x) => x_go (pc + len) ls (.long x :: st) h
  | _ => none
def x_sti (i len pc : Nat) (ls st : List Value) (h : x_H) : Option x_A := match st with
  | .int x :: st => if i < ls.length then x_go (pc + len) (x_st1 ls i (.int x)) st h else none
  | _ => none
def x_sta (i len pc : Nat) (ls st : List Value) (h : x_H) : Option x_A := match st with
  | .ref x :: st => if i < ls.length then x_go (pc + len) (x_st1 ls i (.ref x)) st h else none
  | _ => none
def x_stl (i len pc : Nat) (ls st : List Value) (h : x_H) : Option x_A := match st with
  | .long x :: st => if i + 1 < ls.length then x_go (pc + len) (x_st2 ls i (.long x)) st h else none
  | _ => none
def x_ii (f : Int32 → Int32 → Int32) (len pc : Nat) (ls st : List Value) (h : x_H) : Option x_A := match st with
  | .int y :: .int x :: st => x_go (pc + len) ls (.int (f x y) :: st) h
  | _ => none
def x_ll (f : Int64 → Int64 → Int64) (len pc : Nat) (ls st : List Value) (h : x_H) : Option x_A := match st with
  | .long y :: .long x :: st => x_go (pc + len) ls (.long (f x y) :: st) h
  | _ => none
def x_rcv (h : x_H) (ci : Nat) (v : Option Value) : Bool := match v with
  | some (.ref q) => x_isa h q ci
  | _ => false
def x_isr (v : Option Value) : Bool := match v with
  | some (.ref _) => true
  | _ => false
def x_ex : List Value → List Value
  | [] => []
  | v :: vs => if v.category = 2 then v :: x_j :: x_ex vs else v :: x_ex vs
def x_cn (z : Nat) : Nat := z / 1000 % 100
def x_cok (z : Nat) (st : List Value) (h : x_H) : Bool := Nat.ble (x_cn z) st.length && (Nat.ble (st.drop (x_cn z)).length 4 && (Nat.ble (x_ex (st.take (x_cn z)).reverse).length (z / 100000) && (match z % 10 with
  | 0 => x_rcv h (z / 10 % 100) st[x_cn z - 1]?
  | 3 => x_isr st[x_cn z - 1]?
  | 4 => x_isr st[x_cn z - 1]?
  | _ => true)))
/-- what an instruction does -/
def x_act (i : Instr) (len pc : Nat) (ls st : List Value) (h : x_H) : Option x_A := match i with
  | .iconst n => x_go (pc + len) ls (.int (Int32.ofInt n) :: st) h
  | .bipush n => x_go (pc + len) ls (.int (Int8.ofInt n).toInt32 :: st) h
  | .sipush n => x_go (pc + len) ls (.int (Int16.ofInt n).toInt32 :: st) h
  | .jsr n => x_go (pc + len) ls (.int (Int32.ofInt n) :: st) h
  | .jsr_w n => x_go (pc + len) ls (.int (Int32.ofInt n) :: st) h
  | .lconst n => x_go (pc + len) ls (.long (Int64.ofNat n) :: st) h
  | .goto_w n => x_go (pc + len) ls (.long (Int64.ofInt n) :: st) h
  | .iload_n k => x_ldi k len pc ls st h
  | .iload k => x_ldi k len pc ls st h
  | .aload_n k => x_lda k len pc ls st h
  | .aload k => x_lda k len pc ls st h
  | .lload_n k => x_ldl k len pc ls st h
  | .lload k => x_ldl k len pc ls st h
  | .istore_n k => x_sti k len pc ls st h
  | .istore k => x_sti k len pc ls st h
  | .astore_n k => x_sta k len pc ls st h
  | .astore k => x_sta k len pc ls st h
  | .lstore k => x_stl k len pc ls st h
  | .lstore_n k => x_stl k len pc ls st h
  | .iinc k n => match ls[k]? with
    | some (.int x) => x_go (pc + len) (x_st1 ls k (.int (x + Int32.ofInt n))) st h
    | _ => none
  | .dup => match st with
    | .ref q :: st => x_go (pc + len) ls (.ref q :: .ref q :: st) h
    | .int x :: st => x_go (pc + len) ls (.int x :: .int x :: st) h
    | _ => none
  | .dup2 => match st with
    | .int x :: .ref q :: st => x_go (pc + len) ls (.int x :: .ref q :: .int x :: .ref q :: st) h
    | _ => none
  | .iadd => x_ii (fun x y => x + y) len pc ls st h
  | .isub => x_ii (fun x y => x - y) len pc ls st h
  | .imul => x_ii (fun x y => x * y) len pc ls st h
  | .iand => x_ii (fun x y => x &&& y) len pc ls st h
  | .ior => x_ii (fun x y => x ||| y) len pc ls st h
  | .ixor => x_ii (fun x y => x ^^^ y) len pc ls st h
  | .ishl => x_ii (fun x y => x <<< (y &&& 31)) len pc ls st h
  | .ishr => x_ii (fun x y => x >>> (y &&& 31)) len pc ls st h
  | .iushr => x_ii (fun x y => (x.toUInt32 >>> (y.toUInt32 &&& Int32.toUInt32 31)).toInt32) len pc ls st h
  | .pop => match st with
    | .int y :: .int x :: st => if Nat.ble st.length 4 = true then x_go (pc + len) ls (.int (if x < y then y else x) :: st) h else none
    | _ => none
  | .pop2 => match st with
    | .int y :: .int x :: st => if Nat.ble st.length 4 = true then x_go (pc + len) ls (.int (if y < x then y else x) :: st) h else none
    | _ => none
  | .idiv => match st with
    | .int y :: .int x :: st => if ¬ y = 0 then x_go (pc + len) ls (.int (x / y) :: st) h else none
    | _ => none
  | .irem => match st with
    | .int y :: .int x :: st => if ¬ y = 0 then x_go (pc + len) ls (.int (x - x / y * y) :: st) h else none
    | _ => none
  | .ladd => x_ll (fun x y => x + y) len pc ls st h
  | .lmul => x_ll (fun x y => x * y) len pc ls st h
  | .land => x_ll (fun x y => x &&& y) len pc ls st h
  | .ldiv => match st with
    | .long y :: .long x :: st => if ¬ y = 0 then x_go (pc + len) ls (.long (x / y) :: st) h else none
    | _ => none
  | .lrem => match st with
    | .long y :: .long x :: st => if ¬ y = 0 then x_go (pc + len) ls (.long (x - x / y * y) :: st) h else none
    | _ => none
  | .i2l => match st with
    | .int x :: st => x_go (pc + len) ls (.long x.toInt64 :: st) h
    | _ => none
  | .l2i => match st with
    | .long x :: st => x_go (pc + len) ls (.int x.toInt32 :: st) h
    | _ => none
  | .lcmp => match st with
    | .long y :: .long x :: st => x_go (pc + len) ls (.int (lg_cmp x y) :: st) h
    | _ => none
  | .goto off => x_go (x_tg pc off) ls st h
  | .ifCond c off => match st with
    | .int x :: st => match c with
      | .eq => x_go (if x = 0 then x_tg pc off else pc + len) ls st h
      | .ne => x_go (if x = 0 then pc + len else x_tg pc off) ls st h
      | .lt => x_go (if x < 0 then x_tg pc off else pc + len) ls st h
      | .ge => x_go (if 0 ≤ x then x_tg pc off else pc + len) ls st h
      | .gt => x_go (if 0 < x then x_tg pc off else pc + len) ls st h
      | .le => x_go (if x ≤ 0 then x_tg pc off else pc + len) ls st h
    | _ => none
  | .if_icmp c off => match st with
    | .int y :: .int x :: st => match c with
      | .eq => x_go (if x = y then x_tg pc off else pc + len) ls st h
      | .ne => x_go (if x = y then pc + len else x_tg pc off) ls st h
      | .lt => x_go (if x < y then x_tg pc off else pc + len) ls st h
      | .ge => x_go (if y ≤ x then x_tg pc off else pc + len) ls st h
      | .gt => x_go (if y < x then x_tg pc off else pc + len) ls st h
      | .le => x_go (if x ≤ y then x_tg pc off else pc + len) ls st h
    | _ => none
  | .tableswitch dflt lo hi offs => match st with
    | .int x :: st => if x.toInt < lo ∨ hi < x.toInt then x_go (x_tg pc dflt) ls st h else match offs[(x.toInt - lo).toNat]? with
      | some off => x_go (x_tg pc off) ls st h
      | none => none
    | _ => none
  | .lookupswitch dflt ps => match st with
    | .int x :: st => x_go (x_tg pc (Op.lookupswitch.offset ps.toList dflt x.toInt)) ls st h
    | _ => none
  | .ireturn => match st with
    | [.int v] => some (.inr (.inr (some (.int v))))
    | _ => none
  | .areturn => match st with
    | [.int v] => if v &&& 1 = v then some (.inr (.inr (some (.int v)))) else none
    | _ => none
  | .return_ => match st with
    | [] => some (.inr (.inr none))
    | _ => none
  | .getfield z => match st with
    | .ref q :: st => (x_fld h q (z / 64) (z % 64)).map (fun v => .inl (pc + len, ls, v :: st, h))
    | _ => none
  | .putfield z => match st with
    | v :: .ref q :: st => if x_fok (x_ty (z / 64) (z % 64)) v = true then (x_pfd h q (z / 64) (z % 64) v).map (fun h' => .inl (pc + len, ls, st, h')) else none
    | _ => none
  | .putstatic z => match st with
    | v :: .ref q :: st => if x_fok (x_ty (z / 64) (z % 64)) v = true then (x_pfd h q (z / 64) (z % 64) v).map (fun h' => .inl (pc + len, ls, st, h')) else none
    | _ => none
  | .iaload => match st with
    | .int i :: .ref q :: st => (x_ild h q 0 i).map (fun x => .inl (pc + len, ls, .int x :: st, h))
    | _ => none
  | .baload => match st with
    | .int i :: .ref q :: st => (x_ild h q 2 i).map (fun x => .inl (pc + len, ls, .int x :: st, h))
    | _ => none
  | .laload => match st with
    | .int i :: .ref q :: st => (x_lld h q i).map (fun x => .inl (pc + len, ls, .long x :: st, h))
    | _ => none
  | .iastore => match st with
    | .int x :: .int i :: .ref q :: st => (x_ist h q 0 i x).map (fun h' => .inl (pc + len, ls, st, h'))
    | _ => none
  | .bastore => match st with
    | .int x :: .int i :: .ref q :: st => (x_ist h q 2 i (vp_nar .boolean x)).map (fun h' => .inl (pc + len, ls, st, h'))
    | _ => none
  | .lastore => match st with
    | .long x :: .int i :: .ref q :: st => (x_lst h q i x).map (fun h' => .inl (pc + len, ls, st, h'))
    | _ => none
  | .arraylength => match st with
    | .ref q :: st => (x_len h q).map (fun n => .inl (pc + len, ls, .int (Int32.ofNat n) :: st, h))
    | _ => none
  | .newarray t => match st with
    | .int n :: st => if ¬ n < 0 ∧ n.toNatClampNeg ≤ 100000 then match t with
      | .int => x_go (pc + len) ls (.ref h.1 :: st) (x_new h n.toNatClampNeg (.inl (0, n.toNatClampNeg, .inl (fun _ => 0))))
      | .long => x_go (pc + len) ls (.ref h.1 :: st) (x_new h n.toNatClampNeg (.inl (1, n.toNatClampNeg, .inr (.inl (fun _ => 0)))))
      | .boolean => x_go (pc + len) ls (.ref h.1 :: st) (x_new h n.toNatClampNeg (.inl (2, n.toNatClampNeg, .inl (fun _ => 0))))
      | _ => none
      else none
    | _ => none
  | .new ci => match x_cl[ci]? with
    | some (_, _, N) => x_go (pc + len) ls (.ref h.1 :: st) (x_new h N (.inr (ci, (List.range N).map (fun k => defaultValue (x_ty ci k)))))
    | none => none
  | .invokespecial _ => match st with
    | .ref _ :: st => if Nat.ble st.length 4 = true then x_go (pc + len) ls st h else none
    | _ => none
  | .invokeinterface mi z => if x_cok z st h = true then some (.inr (.inl (mi, (st.take (x_cn z)).reverse, pc + len, ls, st.drop (x_cn z)))) else none
  | _ => none
def x_lk : x_Cd → Nat → Option (Instr × Nat)
  | [], _ => none
  | (p, i, n, _, _) :: r, pc => match Nat.beq p pc with
    | true => some (i, n)
    | false => x_lk r pc
def x_ent (vs : List Value) (n : Nat) : List Value := x_ex vs ++ List.replicate (n - (x_ex vs).length) x_j
/-- n steps, d calls deep -/
def x_ev (P : Nat → x_M) : Nat → Nat → x_Cd → Nat → List Value → List Value → x_H → Option (Option Value × x_H)
  | 0, _, _, _, _, _, _ => none
  | n + 1, d, cd, pc, ls, st, h => match (x_lk cd pc).bind (fun i => x_act i.1 i.2 pc ls st h) with
    | none => none
    | some (.inl k) => x_ev P n d cd k.1 k.2.1 k.2.2.1 k.2.2.2
    | some (.inr (.inl k)) => match d with
      | 0 => none
      | d' + 1 => match x_ev P n d' (P k.1).2.2.2.2 0 (x_ent k.2.1 (P k.1).2.2.1) [] h with
        | none => none
        | some r => x_ev P n (d' + 1) cd k.2.2.1 k.2.2.2.1 (r.1.toList ++ k.2.2.2.2) r.2
    | some (.inr (.inr v)) => some (v, h)
theorem x_ev_mono (P : Nat → x_M) : ∀ (n d : Nat) (cd : x_Cd) (pc : Nat) (ls st : List Value) (h : x_H) (r : Option Value × x_H), x_ev P n d cd pc ls st h = some r → x_ev P (n + 1) d cd pc ls st h = some r := by
  intro n
  induction n with
  | zero => intro d cd pc ls st h r hr; simp [x_ev] at hr
  | succ n ih =>
    intro d cd pc ls st h r hr
    rw [x_ev] at hr ⊢
    generalize (x_lk cd pc).bind (fun i => x_act i.1 i.2 pc ls st h) = o at hr ⊢
    match o, hr with
    | none, hr => simp at hr
    | some (.inl k), hr => exact ih _ _ _ _ _ _ _ hr
    | some (.inr (.inl k)), hr =>
      match d, hr with
      | 0, hr => simp at hr
      | d' + 1, hr =>
        dsimp only at hr ⊢
        cases hc : x_ev P n d' (P k.1).2.2.2.2 0 (x_ent k.2.1 (P k.1).2.2.1) [] h with
        | none => rw [hc] at hr; simp at hr
        | some r1 =>
          rw [hc] at hr
          rw [ih _ _ _ _ _ _ _ hc]
          exact ih _ _ _ _ _ _ _ hr
    | some (.inr (.inr v)), hr => exact hr
theorem x_ev_le (P : Nat → x_M) {n m : Nat} (hm : n ≤ m) {d : Nat} {cd : x_Cd} {pc : Nat} {ls st : List Value} {h : x_H} {r : Option Value × x_H} (hr : x_ev P n d cd pc ls st h = some r) : x_ev P m d cd pc ls st h = some r := by
  induction hm with
  | refl => exact hr
  | step _ ih => exact x_ev_mono P _ _ _ _ _ _ _ _ ih

/-- where the small machine comes to from here, however long it takes -/
noncomputable def x_E (P : Nat → x_M) (d : Nat) (cd : x_Cd) (pc : Nat) (ls st : List Value) (h : x_H) : Option (Option Value × x_H) :=
  @dite _ (∃ (r : Option Value × x_H), ∃ n, x_ev P n d cd pc ls st h = some r) (Classical.propDecidable _) (fun H => some H.choose) (fun _ => none)
theorem x_E_iff {P : Nat → x_M} {d : Nat} {cd : x_Cd} {pc : Nat} {ls st : List Value} {h : x_H} {r : Option Value × x_H} : x_E P d cd pc ls st h = some r ↔ ∃ n, x_ev P n d cd pc ls st h = some r := by
  unfold x_E
  constructor
  · intro hr
    split at hr
    next H =>
      cases hr
      exact H.choose_spec
    next => simp at hr
  · intro ⟨n, hn⟩
    have H : ∃ (r : Option Value × x_H), ∃ n, x_ev P n d cd pc ls st h = some r := ⟨r, n, hn⟩
    rw [dif_pos H]
    obtain ⟨m, hm⟩ := H.choose_spec
    have h1 := x_ev_le P (Nat.le_max_left n m) hn
    have h2 := x_ev_le P (Nat.le_max_right n m) hm
    rw [h1] at h2
    exact h2.symm
/-- a call -/
noncomputable def x_R (P : Nat → x_M) (d mi : Nat) (as : List Value) (h : x_H) : Option (Option Value × x_H) := match d with
  | 0 => none
  | d' + 1 => x_E P d' (P mi).2.2.2.2 0 (x_ent as (P mi).2.2.1) [] h
theorem x_E_eq (P : Nat → x_M) (d : Nat) (cd : x_Cd) (pc : Nat) (ls st : List Value) (h : x_H) : x_E P d cd pc ls st h = match (x_lk cd pc).bind (fun i => x_act i.1 i.2 pc ls st h) with
    | none => none
    | some (.inl k) => x_E P d cd k.1 k.2.1 k.2.2.1 k.2.2.2
    | some (.inr (.inl k)) => (x_R P d k.1 k.2.1 h).bind (fun r => x_E P d cd k.2.2.1 k.2.2.2.1 (r.1.toList ++ k.2.2.2.2) r.2)
    | some (.inr (.inr v)) => some (v, h) := by
  apply Option.ext
  intro r
  rw [x_E_iff]
  have e : (∃ n, x_ev P n d cd pc ls st h = some r) ↔ ∃ n, x_ev P (n + 1) d cd pc ls st h = some r :=
    ⟨fun ⟨n, hn⟩ => ⟨n, x_ev_mono P _ _ _ _ _ _ _ _ hn⟩, fun ⟨n, hn⟩ => ⟨n + 1, hn⟩⟩
  rw [e]
  simp only [x_ev]
  generalize (x_lk cd pc).bind (fun i => x_act i.1 i.2 pc ls st h) = o
  match o with
  | none => simp
  | some (.inl k) => exact x_E_iff.symm
  | some (.inr (.inl k)) =>
    match d with
    | 0 => simp [x_R]
    | d' + 1 =>
      dsimp only [x_R]
      constructor
      · intro ⟨n, hn⟩
        cases hc : x_ev P n d' (P k.1).2.2.2.2 0 (x_ent k.2.1 (P k.1).2.2.1) [] h with
        | none => rw [hc] at hn; simp at hn
        | some r1 =>
          rw [hc] at hn
          rw [x_E_iff.mpr ⟨n, hc⟩]
          exact x_E_iff.mpr ⟨n, hn⟩
      · intro hr
        cases hc : x_E P d' (P k.1).2.2.2.2 0 (x_ent k.2.1 (P k.1).2.2.1) [] h with
        | none => rw [hc] at hr; simp at hr
        | some r1 =>
          rw [hc] at hr
          obtain ⟨n1, h1⟩ := x_E_iff.mp hc
          obtain ⟨n2, h2⟩ := x_E_iff.mp (show x_E P (d' + 1) cd k.2.2.1 k.2.2.2.1 (r1.1.toList ++ k.2.2.2.2) r1.2 = some r from hr)
          refine ⟨max n1 n2, ?_⟩
          rw [x_ev_le P (Nat.le_max_left n1 n2) h1]
          exact x_ev_le P (Nat.le_max_right n1 n2) h2
  | some (.inr (.inr v)) => simp
section XE
variable {P : Nat → x_M} {d : Nat} {cd : x_Cd} {pc len : Nat} {i : Instr} {ls st : List Value} {h : x_H}
theorem x_E_go {k : x_K} (hk : x_lk cd pc = some (i, len)) (ha : x_act i len pc ls st h = some (.inl k)) : x_E P d cd pc ls st h = x_E P d cd k.1 k.2.1 k.2.2.1 k.2.2.2 := by
  rw [x_E_eq, hk]
  show (match x_act i len pc ls st h with | none => none | some (.inl k) => _ | some (.inr (.inl k)) => _ | some (.inr (.inr v)) => _) = _
  rw [ha]
theorem x_E_if {c : Prop} [Decidable c] {a b : Nat} {ls' st' : List Value} {h' : x_H} (hk : x_lk cd pc = some (i, len)) (ha : x_act i len pc ls st h = some (.inl (if c then a else b, ls', st', h'))) : x_E P d cd pc ls st h = if c then x_E P d cd a ls' st' h' else x_E P d cd b ls' st' h' := by
  rw [x_E_go hk ha]
  by_cases hc : c <;> simp [hc]
theorem x_E_opt {α : Type} {o : Option α} {f : α → x_K} (hk : x_lk cd pc = some (i, len)) (ha : x_act i len pc ls st h = o.map (fun x => .inl (f x))) : x_E P d cd pc ls st h = o.bind (fun x => x_E P d cd (f x).1 (f x).2.1 (f x).2.2.1 (f x).2.2.2) := by
  rw [x_E_eq, hk]
  show (match x_act i len pc ls st h with | none => none | some (.inl k) => _ | some (.inr (.inl k)) => _ | some (.inr (.inr v)) => _) = _
  rw [ha]
  cases o <;> rfl
theorem x_E_grd {c : Prop} [Decidable c] {k : x_K} (hk : x_lk cd pc = some (i, len)) (ha : x_act i len pc ls st h = if c then some (.inl k) else none) : x_E P d cd pc ls st h = if c then x_E P d cd k.1 k.2.1 k.2.2.1 k.2.2.2 else none := by
  rw [x_E_eq, hk]
  show (match x_act i len pc ls st h with | none => none | some (.inl k) => _ | some (.inr (.inl k)) => _ | some (.inr (.inr v)) => _) = _
  rw [ha]
  by_cases hc : c <;> simp [hc]
theorem x_E_call {mi pc' : Nat} {as ls' st' : List Value} (hk : x_lk cd pc = some (i, len)) (ha : x_act i len pc ls st h = some (.inr (.inl (mi, as, pc', ls', st')))) : x_E P d cd pc ls st h = (x_R P d mi as h).bind (fun r => x_E P d cd pc' ls' (r.1.toList ++ st') r.2) := by
  rw [x_E_eq, hk]
  show (match x_act i len pc ls st h with | none => none | some (.inl k) => _ | some (.inr (.inl k)) => _ | some (.inr (.inr v)) => _) = _
  rw [ha]
theorem x_E_callv {c : Prop} [Decidable c] {mi pc' : Nat} {as ls' st' : List Value} (hk : x_lk cd pc = some (i, len)) (ha : x_act i len pc ls st h = if c then some (.inr (.inl (mi, as, pc', ls', st'))) else none) : x_E P d cd pc ls st h = if c then (x_R P d mi as h).bind (fun r => x_E P d cd pc' ls' (r.1.toList ++ st') r.2) else none := by
  rw [x_E_eq, hk]
  show (match x_act i len pc ls st h with | none => none | some (.inl k) => _ | some (.inr (.inl k)) => _ | some (.inr (.inr v)) => _) = _
  rw [ha]
  by_cases hc : c <;> simp [hc]
theorem x_E_ret {v : Option Value} (hk : x_lk cd pc = some (i, len)) (ha : x_act i len pc ls st h = some (.inr (.inr v))) : x_E P d cd pc ls st h = some (v, h) := by
  rw [x_E_eq, hk]
  show (match x_act i len pc ls st h with | none => none | some (.inl k) => _ | some (.inr (.inl k)) => _ | some (.inr (.inr v)) => _) = _
  rw [ha]
theorem x_E_retb {c : Prop} [Decidable c] {v : Option Value} (hk : x_lk cd pc = some (i, len)) (ha : x_act i len pc ls st h = if c then some (.inr (.inr v)) else none) : x_E P d cd pc ls st h = if c then some (v, h) else none := by
  rw [x_E_eq, hk]
  show (match x_act i len pc ls st h with | none => none | some (.inl k) => _ | some (.inr (.inl k)) => _ | some (.inr (.inr v)) => _) = _
  rw [ha]
  by_cases hc : c <;> simp [hc]
theorem x_R_eq (d mi : Nat) (as : List Value) (h : x_H) : x_R P (d + 1) mi as h = x_E P d (P mi).2.2.2.2 0 (x_ent as (P mi).2.2.1) [] h := rfl
end XE
end
section
/-! THE SMALL MACHINE'S CELLS IN THE REAL HEAP -/
def x_v (ad : Nat → Nat) (v : Value) : Value := match v with
  | .ref q => .ref (ad q)
  | v => v
def x_e (cA : Nat → ClassId) (ad : Nat → Nat) (c : x_C) : va_E := match c with
  | .inl (t, a) => .inl (cA t, a)
  | .inr (ci, fs) => .inr (ci, fs.map (x_v ad))
def x_W (cA : Nat → ClassId) (ad : Nat → Nat) (h : x_H) : va_W := (List.range h.1).map (fun i => (ad i, x_e cA ad (h.2.2 i)))
def x_tys (cA : Nat → ClassId) : List (ClassId × FieldType) := [(cA 0, .int), (cA 1, .long), (cA 2, .boolean)]
def x_real (v : Value) : Bool := match v with
  | .retAddr _ => false
  | _ => true
def x_lv (ad : Nat → Nat) (ls : List Value) : List (Nat × Value) := (List.range ls.length).filterMap (fun i => (ls[i]?).bind (fun v => if x_real v = true then some (i, x_v ad v) else none))
def x_wv (n : Nat) (v : Value) : Prop := ∀ q, v = .ref q → q < n
def x_wl (n : Nat) (vs : List Value) : Prop := ∀ v ∈ vs, x_wv n v
def x_wh (h : x_H) : Prop := ∀ i, i < h.1 → ∀ ci fs, h.2.2 i = .inr (ci, fs) → x_wl h.1 fs
theorem x_v_int (ad : Nat → Nat) (x : Int32) : x_v ad (.int x) = .int x := rfl
theorem x_v_long (ad : Nat → Nat) (x : Int64) : x_v ad (.long x) = .long x := rfl
theorem x_v_ref (ad : Nat → Nat) (q : Nat) : x_v ad (.ref q) = .ref (ad q) := rfl
theorem x_wv_int (n : Nat) (x : Int32) : x_wv n (.int x) := fun q h => by cases h
theorem x_wv_long (n : Nat) (x : Int64) : x_wv n (.long x) := fun q h => by cases h
theorem x_wv_j (n : Nat) : x_wv n x_j := fun q h => by cases h
theorem x_wl_cons {n : Nat} {v : Value} {vs : List Value} : x_wl n (v :: vs) ↔ x_wv n v ∧ x_wl n vs := by simp [x_wl]
theorem x_wl_nil {n : Nat} : x_wl n [] := by simp [x_wl]
theorem x_wl_app {n : Nat} {a b : List Value} (ha : x_wl n a) (hb : x_wl n b) : x_wl n (a ++ b) := fun v hv => (List.mem_append.mp hv).elim (ha v) (hb v)
theorem x_wv_le {n m : Nat} (h : n ≤ m) {v : Value} (hv : x_wv n v) : x_wv m v := fun q e => Nat.lt_of_lt_of_le (hv q e) h
theorem x_wl_le {n m : Nat} (h : n ≤ m) {vs : List Value} (hv : x_wl n vs) : x_wl m vs := fun v hm => x_wv_le h (hv v hm)
theorem x_wl_set {n : Nat} {vs : List Value} {i : Nat} {v : Value} (h : x_wl n vs) (hv : x_wv n v) : x_wl n (vs.set i v) := fun w hw => by
  rcases List.mem_or_eq_of_mem_set hw with h1 | h1
  · exact h w h1
  · rw [h1]; exact hv
theorem x_wl_kill {n : Nat} {vs : List Value} {i : Nat} (h : x_wl n vs) : x_wl n (x_kill vs i) := by
  unfold x_kill
  split
  · exact h
  · split
    · exact x_wl_set h (x_wv_j n)
    · exact x_wl_set h (x_wv_j n)
    · exact h
theorem x_wl_get {n : Nat} {vs : List Value} {i : Nat} {v : Value} (h : x_wl n vs) (hi : vs[i]? = some v) : x_wv n v := h v (List.mem_of_getElem? hi)
theorem x_v_ext {ad ad' : Nat → Nat} {n : Nat} {v : Value} (hv : x_wv n v) (he : ∀ i, i < n → ad' i = ad i) : x_v ad' v = x_v ad v := by
  cases v <;> try rfl
  show Value.ref _ = Value.ref _
  rw [he _ (hv _ rfl)]
theorem x_vl_ext {ad ad' : Nat → Nat} {n : Nat} {vs : List Value} (hv : x_wl n vs) (he : ∀ i, i < n → ad' i = ad i) : vs.map (x_v ad') = vs.map (x_v ad) := List.map_congr_left fun v hm => x_v_ext (hv v hm) he
theorem x_kill_len (vs : List Value) (i : Nat) : (x_kill vs i).length = vs.length := by
  unfold x_kill
  split
  · rfl
  · split <;> simp
theorem x_st1_len (vs : List Value) (i : Nat) (v : Value) : (x_st1 vs i v).length = vs.length := by simp [x_st1, x_kill_len]
theorem x_st2_len (vs : List Value) (i : Nat) (v : Value) : (x_st2 vs i v).length = vs.length := by simp [x_st2, x_kill_len]
theorem x_wl_st1 {n : Nat} {vs : List Value} {i : Nat} {v : Value} (h : x_wl n vs) (hv : x_wv n v) : x_wl n (x_st1 vs i v) := x_wl_set (x_wl_kill h) hv
theorem x_wl_st2 {n : Nat} {vs : List Value} {i : Nat} {v : Value} (h : x_wl n vs) (hv : x_wv n v) : x_wl n (x_st2 vs i v) := x_wl_set (x_wl_set (x_wl_kill h) hv) (x_wv_j n)
theorem x_v_cat (ad : Nat → Nat) (v : Value) : (x_v ad v).category = v.category := by cases v <;> rfl
/-! the heap as a world of cells -/
theorem x_get_lt {h : x_H} {q : Nat} {c : x_C} (hg : x_get h q = some c) : q < h.1 ∧ h.2.2 q = c := by
  unfold x_get at hg
  split at hg
  · exact ⟨by assumption, Option.some.inj hg⟩
  · cases hg
theorem x_W_at {cA : Nat → ClassId} {ad : Nat → Nat} {h : x_H} {q : Nat} (hq : q < h.1) : (x_W cA ad h)[q]? = some (ad q, x_e cA ad (h.2.2 q)) := by simp [x_W, hq]
theorem x_W_get {cA : Nat → ClassId} {ad : Nat → Nat} {h : x_H} {q : Nat} {c : x_C} (hg : x_get h q = some c) : (x_W cA ad h)[q]? = some (ad q, x_e cA ad c) := by
  obtain ⟨h1, h2⟩ := x_get_lt hg
  rw [x_W_at h1, h2]
theorem x_W_len (cA : Nat → ClassId) (ad : Nat → Nat) (h : x_H) : (x_W cA ad h).length = h.1 := by simp [x_W]
theorem x_W_set {cA : Nat → ClassId} {ad : Nat → Nat} {h : x_H} {q : Nat} {c : x_C} : (x_W cA ad h).set q (ad q, x_e cA ad c) = x_W cA ad (x_set h q c) := by
  apply List.ext_getElem?
  intro i
  rw [List.getElem?_set]
  by_cases hi : q = i
  · subst hi
    rw [if_pos rfl]
    by_cases hl : q < h.1
    · rw [x_W_len, if_pos hl, x_W_at (h := x_set h q c) hl]
      simp [x_set]
    · rw [x_W_len, if_neg hl]
      exact (List.getElem?_eq_none (by rw [x_W_len]; exact Nat.not_lt.mp hl)).symm
  · rw [if_neg hi]
    by_cases hl : i < h.1
    · rw [x_W_at hl, x_W_at (h := x_set h q c) hl]
      simp [x_set, show i ≠ q from fun z => hi z.symm]
    · rw [List.getElem?_eq_none (by rw [x_W_len]; exact Nat.not_lt.mp hl), List.getElem?_eq_none (by rw [x_W_len]; exact Nat.not_lt.mp hl)]
theorem x_e_ext {cA : Nat → ClassId} {ad ad' : Nat → Nat} {n : Nat} {c : x_C} (hw : ∀ ci fs, c = .inr (ci, fs) → x_wl n fs) (he : ∀ i, i < n → ad' i = ad i) : x_e cA ad' c = x_e cA ad c := by
  match c, hw with
  | .inl _, _ => rfl
  | .inr (ci, fs), hw =>
    show Sum.inr _ = Sum.inr _
    rw [x_vl_ext (hw ci fs rfl) he]
theorem x_W_ext {cA : Nat → ClassId} {ad ad' : Nat → Nat} {h : x_H} (hw : x_wh h) (he : ∀ i, i < h.1 → ad' i = ad i) : x_W cA ad' h = x_W cA ad h := by
  unfold x_W
  apply List.map_congr_left
  intro i hi
  have hl := List.mem_range.mp hi
  show (_, _) = (_, _)
  rw [he i hl, x_e_ext (fun ci fs e => hw i hl ci fs e) he]
theorem x_W_push {cA : Nat → ClassId} {ad : Nat → Nat} {h : x_H} {w q : Nat} {c : x_C} (hw : x_wh h) : x_W cA (va_up ad h.1 q) (x_new h w c) = x_W cA ad h ++ [(q, x_e cA (va_up ad h.1 q) c)] := by
  have he : ∀ i, i < h.1 → va_up ad h.1 q i = ad i := fun i hi => if_neg (Nat.ne_of_lt hi)
  rw [← x_W_ext hw he]
  unfold x_W
  show (List.range (h.1 + 1)).map _ = _
  rw [List.range_succ, List.map_append]
  congr 1
  · apply List.map_congr_left
    intro i hi
    have hl := List.mem_range.mp hi
    show (_, _) = (_, _)
    simp [x_new, Nat.ne_of_lt hl]
  · simp [x_new, va_up]
theorem x_wh_set {h : x_H} {q : Nat} {c : x_C} (hw : x_wh h) (hc : ∀ ci fs, c = .inr (ci, fs) → x_wl h.1 fs) : x_wh (x_set h q c) := by
  intro i hi ci fs e
  show x_wl h.1 fs
  by_cases hq : i = q
  · exact hc ci fs (by simpa [x_set, hq] using e)
  · exact hw i hi ci fs (by simpa [x_set, hq] using e)
theorem x_wh_new {h : x_H} {w : Nat} {c : x_C} (hw : x_wh h) (hc : ∀ ci fs, c = .inr (ci, fs) → x_wl (h.1 + 1) fs) : x_wh (x_new h w c) := by
  intro i hi ci fs e
  show x_wl (h.1 + 1) fs
  by_cases hq : i = h.1
  · exact hc ci fs (by simpa [x_new, hq] using e)
  · exact x_wl_le (Nat.le_succ _) (hw i (by have : i < h.1 + 1 := hi; omega) ci fs (by simpa [x_new, hq] using e))
/-! the locals -/
theorem x_lv_mem {ad : Nat → Nat} {ls : List Value} {j : Nat} {u : Value} : (j, u) ∈ x_lv ad ls ↔ ∃ v, ls[j]? = some v ∧ x_real v = true ∧ u = x_v ad v := by
  unfold x_lv
  rw [List.mem_filterMap]
  constructor
  · rintro ⟨i, -, hi⟩
    obtain ⟨v, h1, h2⟩ := Option.bind_eq_some_iff.mp hi
    split at h2
    · cases h2; exact ⟨v, h1, by assumption, rfl⟩
    · cases h2
  · rintro ⟨v, h1, h2, rfl⟩
    exact ⟨j, List.mem_range.mpr (List.getElem?_eq_some_iff.mp h1).1, by simp [h1, h2]⟩
theorem x_lv_at {ad : Nat → Nat} {ls : List Value} {LS : Array Slot} {nL i : Nat} {v : Value} (h : lv_has LS nL (x_lv ad ls)) (hi : ls[i]? = some v) (hr : x_real v = true) : LS[i]? = some (.val (x_v ad v)) := h.2.2 _ (x_lv_mem.mpr ⟨v, hi, hr, rfl⟩)
theorem x_lv_sub {LS : Array Slot} {nL : Nat} {l l' : List (Nat × Value)} (h : lv_has LS nL l) (hs : ∀ q ∈ l', q ∈ l) : lv_has LS nL l' := ⟨h.1, h.2.1, fun q hq => h.2.2 q (hs q hq)⟩
theorem x_kill_at {ls : List Value} {i j : Nat} {v : Value} (h : (x_kill ls i)[j]? = some v) (hr : x_real v = true) : ls[j]? = some v ∧ (j + 1 = i → v.category ≠ 2) := by
  unfold x_kill at h
  split at h
  · exact ⟨h, fun z => by omega⟩
  · rename_i i'
    split at h
    · rw [List.getElem?_set] at h
      split at h
      · split at h
        · cases h; cases hr
        · cases h
      · rename_i hn _
        exact ⟨h, fun z => by omega⟩
    · rw [List.getElem?_set] at h
      split at h
      · split at h
        · cases h; cases hr
        · cases h
      · rename_i hn _
        exact ⟨h, fun z => by omega⟩
    · rename_i h1 h2
      refine ⟨h, fun z hc => ?_⟩
      have hj : j = i' := by omega
      subst hj
      cases v with
      | long x => exact h1 _ h
      | double x => exact h2 _ h
      | _ => cases hc
theorem x_lv_st1 {ad : Nat → Nat} {ls : List Value} {i : Nat} {w : Value} : ∀ q ∈ x_lv ad (x_st1 ls i w), q ∈ (i, x_v ad w) :: (x_lv ad ls).filter (fun q => !(q.1 == i) && !(q.1 + 1 == i && q.2.category == 2)) := by
  intro ⟨j, u⟩ hq
  obtain ⟨v, h1, h2, rfl⟩ := x_lv_mem.mp hq
  unfold x_st1 at h1
  rw [List.getElem?_set] at h1
  split at h1
  · rename_i hij
    subst hij
    split at h1
    · cases h1; exact List.mem_cons_self
    · cases h1
  · rename_i hij
    obtain ⟨g1, g2⟩ := x_kill_at h1 h2
    refine List.mem_cons_of_mem _ (List.mem_filter.mpr ⟨x_lv_mem.mpr ⟨v, g1, h2, rfl⟩, ?_⟩)
    simp only [Bool.and_eq_true, Bool.not_eq_true', beq_eq_false_iff_ne, ne_eq, Bool.and_eq_false_iff, x_v_cat]
    refine ⟨fun z => hij z.symm, ?_⟩
    by_cases hz : j + 1 = i
    · exact Or.inr (g2 hz)
    · exact Or.inl hz
theorem x_lv_st2 {ad : Nat → Nat} {ls : List Value} {i : Nat} {w : Value} : ∀ q ∈ x_lv ad (x_st2 ls i w), q ∈ (i, x_v ad w) :: (x_lv ad ls).filter (fun q => !(q.1 == i) && (!(q.1 == i + 1) && !(q.1 + 1 == i && q.2.category == 2))) := by
  intro ⟨j, u⟩ hq
  obtain ⟨v, h1, h2, rfl⟩ := x_lv_mem.mp hq
  unfold x_st2 at h1
  rw [List.getElem?_set] at h1
  split at h1
  · split at h1
    · cases h1; cases h2
    · cases h1
  · rename_i hij1
    rw [List.getElem?_set] at h1
    split at h1
    · rename_i hij
      subst hij
      split at h1
      · cases h1; exact List.mem_cons_self
      · cases h1
    · rename_i hij
      obtain ⟨g1, g2⟩ := x_kill_at h1 h2
      refine List.mem_cons_of_mem _ (List.mem_filter.mpr ⟨x_lv_mem.mpr ⟨v, g1, h2, rfl⟩, ?_⟩)
      simp only [Bool.and_eq_true, Bool.not_eq_true', beq_eq_false_iff_ne, ne_eq, Bool.and_eq_false_iff, x_v_cat]
      refine ⟨fun z => hij z.symm, fun z => hij1 z.symm, ?_⟩
      by_cases hz : j + 1 = i
      · exact Or.inr (g2 hz)
      · exact Or.inl hz
theorem x_ex_len (ad : Nat → Nat) (as : List Value) : (lg_sl (as.map (x_v ad))).length = (x_ex as).length := by
  induction as with
  | nil => rfl
  | cons v vs ih =>
    by_cases hc : v.category = 2
    · simp [lg_sl, x_ex, x_v_cat, hc] at ih ⊢
      omega
    · simp [lg_sl, x_ex, x_v_cat, hc] at ih ⊢
      omega
theorem x_ex_at (ad : Nat → Nat) (as : List Value) : ∀ (o j : Nat) (v : Value), (x_ex as)[j]? = some v → x_real v = true → (o + j, x_v ad v) ∈ lv_args o (as.map (x_v ad)) := by
  induction as with
  | nil => intro o j v h; simp [x_ex] at h
  | cons a vs ih =>
    intro o j v h hr
    simp only [x_ex] at h
    by_cases hc : a.category = 2
    · rw [if_pos hc] at h
      simp only [List.map_cons, lv_args, x_v_cat, hc, if_true]
      match j, h with
      | 0, h => cases h; exact List.mem_cons_self
      | 1, h => cases h; cases hr
      | j + 2, h =>
        have := ih (o + 2) j v h hr
        rw [show o + (j + 2) = o + 2 + j by omega]
        exact List.mem_cons_of_mem _ this
    · rw [if_neg hc] at h
      simp only [List.map_cons, lv_args, x_v_cat, hc, if_false]
      match j, h with
      | 0, h => cases h; exact List.mem_cons_self
      | j + 1, h =>
        have := ih (o + 1) j v h hr
        rw [show o + (j + 1) = o + 1 + j by omega]
        exact List.mem_cons_of_mem _ this
theorem x_ent_at (ad : Nat → Nat) (as : List Value) (n : Nat) : ∀ q ∈ x_lv ad (x_ent as n), q ∈ lv_args 0 (as.map (x_v ad)) := by
  intro ⟨j, u⟩ hq
  obtain ⟨v, h1, h2, rfl⟩ := x_lv_mem.mp hq
  unfold x_ent at h1
  by_cases hj : j < (x_ex as).length
  · rw [List.getElem?_append_left hj] at h1
    have := x_ex_at ad as 0 j v h1 h2
    rwa [Nat.zero_add] at this
  · rw [List.getElem?_append_right (by omega)] at h1
    have := List.eq_of_mem_replicate (List.mem_of_getElem? h1)
    subst this
    cases h2
theorem x_ent_len (as : List Value) {n : Nat} (h : (x_ex as).length ≤ n) : (x_ent as n).length = n := by
  simp [x_ent]; omega
theorem x_wl_ex {n : Nat} {as : List Value} (h : x_wl n as) : x_wl n (x_ex as) := by
  induction as with
  | nil => exact x_wl_nil
  | cons v vs ih =>
    have h' := x_wl_cons.mp h
    simp only [x_ex]
    split
    · exact x_wl_cons.mpr ⟨h'.1, x_wl_cons.mpr ⟨x_wv_j n, ih h'.2⟩⟩
    · exact x_wl_cons.mpr ⟨h'.1, ih h'.2⟩
theorem x_wl_ent {n : Nat} {as : List Value} (h : x_wl n as) (m : Nat) : x_wl n (x_ent as m) := x_wl_app (x_wl_ex h) (fun v hv => by rw [List.eq_of_mem_replicate hv]; exact x_wv_j n)
end
section
/-! what an action says of what was there -/
section XINV
variable {i len pc : Nat} {ls st : List Value} {h : x_H} {k : x_K}
theorem x_go_inv (ha : x_go pc ls st h = some (.inl k)) : k = (pc, ls, st, h) := by cases ha; rfl
theorem x_ldi_inv (ha : x_ldi i len pc ls st h = some (.inl k)) : ∃ x, ls[i]? = some (.int x) ∧ k = (pc + len, ls, .int x :: st, h) := by
  unfold x_ldi at ha
  split at ha
  · exact ⟨_, by assumption, x_go_inv ha⟩
  · cases ha
theorem x_lda_inv (ha : x_lda i len pc ls st h = some (.inl k)) : ∃ x, ls[i]? = some (.ref x) ∧ k = (pc + len, ls, .ref x :: st, h) := by
  unfold x_lda at ha
  split at ha
  · exact ⟨_, by assumption, x_go_inv ha⟩
  · cases ha
theorem x_ldl_inv (ha : x_ldl i len pc ls st h = some (.inl k)) : ∃ x, ls[i]? = some (.long x) ∧ k = (pc + len, ls, .long x :: st, h) := by
  unfold x_ldl at ha
  split at ha
  · exact ⟨_, by assumption, x_go_inv ha⟩
  · cases ha
theorem x_sti_inv (ha : x_sti i len pc ls st h = some (.inl k)) : ∃ x st', st = .int x :: st' ∧ i < ls.length ∧ k = (pc + len, x_st1 ls i (.int x), st', h) := by
  unfold x_sti at ha
  split at ha
  · split at ha
    · exact ⟨_, _, rfl, by assumption, x_go_inv ha⟩
    · cases ha
  · cases ha
theorem x_sta_inv (ha : x_sta i len pc ls st h = some (.inl k)) : ∃ x st', st = .ref x :: st' ∧ i < ls.length ∧ k = (pc + len, x_st1 ls i (.ref x), st', h) := by
  unfold x_sta at ha
  split at ha
  · split at ha
    · exact ⟨_, _, rfl, by assumption, x_go_inv ha⟩
    · cases ha
  · cases ha
theorem x_stl_inv (ha : x_stl i len pc ls st h = some (.inl k)) : ∃ x st', st = .long x :: st' ∧ i + 1 < ls.length ∧ k = (pc + len, x_st2 ls i (.long x), st', h) := by
  unfold x_stl at ha
  split at ha
  · split at ha
    · exact ⟨_, _, rfl, by assumption, x_go_inv ha⟩
    · cases ha
  · cases ha
theorem x_ii_inv {f : Int32 → Int32 → Int32} (ha : x_ii f len pc ls st h = some (.inl k)) : ∃ x y st', st = .int y :: .int x :: st' ∧ k = (pc + len, ls, .int (f x y) :: st', h) := by
  unfold x_ii at ha
  split at ha
  · exact ⟨_, _, _, rfl, x_go_inv ha⟩
  · cases ha
theorem x_ll_inv {f : Int64 → Int64 → Int64} (ha : x_ll f len pc ls st h = some (.inl k)) : ∃ x y st', st = .long y :: .long x :: st' ∧ k = (pc + len, ls, .long (f x y) :: st', h) := by
  unfold x_ll at ha
  split at ha
  · exact ⟨_, _, _, rfl, x_go_inv ha⟩
  · cases ha
theorem x_grd_inv {c : Prop} [Decidable c] {a : Option x_A} (ha : (if c then a else none) = some (.inl k)) : c ∧ a = some (.inl k) := by
  split at ha
  · exact ⟨by assumption, ha⟩
  · cases ha
theorem x_map_inv {α : Type} {o : Option α} {f : α → x_A} (ha : o.map f = some (.inl k)) : ∃ x, o = some x ∧ f x = .inl k := Option.map_eq_some_iff.mp ha
theorem x_st_inv {f : Int32 → Int32 → List Value → Option x_A} (ha : (match st with | .int y :: .int x :: st => f x y st | _ => none) = some (.inl k)) : ∃ x y st', st = .int y :: .int x :: st' ∧ f x y st' = some (.inl k) := by
  split at ha
  · exact ⟨_, _, _, rfl, ha⟩
  · cases ha
theorem x_stl_inv2 {f : Int64 → Int64 → List Value → Option x_A} (ha : (match st with | .long y :: .long x :: st => f x y st | _ => none) = some (.inl k)) : ∃ x y st', st = .long y :: .long x :: st' ∧ f x y st' = some (.inl k) := by
  split at ha
  · exact ⟨_, _, _, rfl, ha⟩
  · cases ha
theorem x_i_inv {f : Int32 → List Value → Option x_A} (ha : (match st with | .int x :: st => f x st | _ => none) = some (.inl k)) : ∃ x st', st = .int x :: st' ∧ f x st' = some (.inl k) := by
  split at ha
  · exact ⟨_, _, rfl, ha⟩
  · cases ha
theorem x_l_inv {f : Int64 → List Value → Option x_A} (ha : (match st with | .long x :: st => f x st | _ => none) = some (.inl k)) : ∃ x st', st = .long x :: st' ∧ f x st' = some (.inl k) := by
  split at ha
  · exact ⟨_, _, rfl, ha⟩
  · cases ha
theorem x_a_inv {f : Nat → List Value → Option x_A} (ha : (match st with | .ref x :: st => f x st | _ => none) = some (.inl k)) : ∃ x st', st = .ref x :: st' ∧ f x st' = some (.inl k) := by
  split at ha
  · exact ⟨_, _, rfl, ha⟩
  · cases ha
theorem x_va_inv {f : Value → Nat → List Value → Option x_A} (ha : (match st with | v :: .ref q :: st => f v q st | _ => none) = some (.inl k)) : ∃ v q st', st = v :: .ref q :: st' ∧ f v q st' = some (.inl k) := by
  split at ha
  · exact ⟨_, _, _, rfl, ha⟩
  · cases ha
theorem x_ia_inv {f : Int32 → Nat → List Value → Option x_A} (ha : (match st with | .int v :: .ref q :: st => f v q st | _ => none) = some (.inl k)) : ∃ v q st', st = .int v :: .ref q :: st' ∧ f v q st' = some (.inl k) := by
  split at ha
  · exact ⟨_, _, _, rfl, ha⟩
  · cases ha
theorem x_iia_inv {f : Int32 → Int32 → Nat → List Value → Option x_A} (ha : (match st with | .int x :: .int i :: .ref q :: st => f x i q st | _ => none) = some (.inl k)) : ∃ x i q st', st = .int x :: .int i :: .ref q :: st' ∧ f x i q st' = some (.inl k) := by
  split at ha
  · exact ⟨_, _, _, _, rfl, ha⟩
  · cases ha
theorem x_lia_inv {f : Int64 → Int32 → Nat → List Value → Option x_A} (ha : (match st with | .long x :: .int i :: .ref q :: st => f x i q st | _ => none) = some (.inl k)) : ∃ x i q st', st = .long x :: .int i :: .ref q :: st' ∧ f x i q st' = some (.inl k) := by
  split at ha
  · exact ⟨_, _, _, _, rfl, ha⟩
  · cases ha
end XINV
theorem x_fld_inv {h : x_H} {q ci k : Nat} {v : Value} (e : x_fld h q ci k = some v) : ∃ fs, x_get h q = some (.inr (ci, fs)) ∧ fs[k]? = some v := by
  unfold x_fld at e
  split at e
  · split at e
    · rename_i hc; subst hc; exact ⟨_, by assumption, e⟩
    · cases e
  · cases e
theorem x_pfd_inv {h h' : x_H} {q ci k : Nat} {v : Value} (e : x_pfd h q ci k v = some h') : ∃ fs, x_get h q = some (.inr (ci, fs)) ∧ k < fs.length ∧ h' = x_set h q (.inr (ci, fs.set k v)) := by
  unfold x_pfd at e
  split at e
  · split at e
    · rename_i hc; obtain ⟨hc, hk⟩ := hc; subst hc; cases e; exact ⟨_, by assumption, hk, rfl⟩
    · cases e
  · cases e
theorem x_inb_in {i : Int32} {n : Nat} (e : x_inb i n = true) : vp_in i n := by
  simp only [x_inb, Bool.and_eq_true, decide_eq_true_eq] at e
  rintro (h | h)
  · exact e.1 h
  · omega
theorem x_ild_inv {h : x_H} {q t : Nat} {i v : Int32} (e : x_ild h q t i = some v) : ∃ n f, x_get h q = some (.inl (t, n, .inl f)) ∧ vp_in i n ∧ v = f i.toNatClampNeg := by
  unfold x_ild at e
  split at e
  · split at e
    · rename_i hc; obtain ⟨hc, hk⟩ := hc; subst hc; cases e; exact ⟨_, _, by assumption, x_inb_in hk, rfl⟩
    · cases e
  · cases e
theorem x_ist_inv {h h' : x_H} {q t : Nat} {i v : Int32} (e : x_ist h q t i v = some h') : ∃ n f, x_get h q = some (.inl (t, n, .inl f)) ∧ vp_in i n ∧ h' = x_set h q (.inl (t, n, .inl (upd f i.toNatClampNeg v))) := by
  unfold x_ist at e
  split at e
  · split at e
    · rename_i hc; obtain ⟨hc, hk⟩ := hc; subst hc; cases e; exact ⟨_, _, by assumption, x_inb_in hk, rfl⟩
    · cases e
  · cases e
theorem x_lld_inv {h : x_H} {q : Nat} {i : Int32} {v : Int64} (e : x_lld h q i = some v) : ∃ n f, x_get h q = some (.inl (1, n, .inr (.inl f))) ∧ vp_in i n ∧ v = f i.toNatClampNeg := by
  unfold x_lld at e
  split at e
  · split at e
    · rename_i hc; obtain ⟨hc, hk⟩ := hc; subst hc; cases e; exact ⟨_, _, by assumption, x_inb_in hk, rfl⟩
    · cases e
  · cases e
theorem x_lst_inv {h h' : x_H} {q : Nat} {i : Int32} {v : Int64} (e : x_lst h q i v = some h') : ∃ n f, x_get h q = some (.inl (1, n, .inr (.inl f))) ∧ vp_in i n ∧ h' = x_set h q (.inl (1, n, .inr (.inl (vp_updL f i.toNatClampNeg v)))) := by
  unfold x_lst at e
  split at e
  · split at e
    · rename_i hc; obtain ⟨hc, hk⟩ := hc; subst hc; cases e; exact ⟨_, _, by assumption, x_inb_in hk, rfl⟩
    · cases e
  · cases e
theorem x_len_inv {h : x_H} {q n : Nat} (e : x_len h q = some n) : ∃ t f, t < 3 ∧ x_get h q = some (.inl (t, n, f)) := by
  unfold x_len at e
  split at e
  · split at e
    · cases e; exact ⟨_, _, by assumption, by assumption⟩
    · cases e
  · cases e
theorem x_isa_inv {h : x_H} {q ci : Nat} (e : x_isa h q ci = true) : ∃ fs, x_get h q = some (.inr (ci, fs)) := by
  unfold x_isa at e
  split at e
  · have := Nat.eq_of_beq_eq_true e; subst this; exact ⟨_, by assumption⟩
  · cases e
/-- what stays behind an action: no dangling reference, no cell lost -/
def x_Kp (h : x_H) (ls : List Value) (k : x_K) : Prop := x_wl k.2.2.2.1 k.2.1 ∧ x_wl k.2.2.2.1 k.2.2.1 ∧ x_wh k.2.2.2 ∧ h.1 ≤ k.2.2.2.1 ∧ h.2.1 ≤ k.2.2.2.2.1 ∧ k.2.1.length = ls.length
theorem x_Kp.of {h : x_H} {ls st : List Value} {pc : Nat} (hl : x_wl h.1 ls) (hs : x_wl h.1 st) (hw : x_wh h) : x_Kp h ls (pc, ls, st, h) := ⟨hl, hs, hw, Nat.le_refl _, Nat.le_refl _, rfl⟩
theorem x_Kp.loc {h : x_H} {ls ls' st : List Value} {pc : Nat} (hl : x_wl h.1 ls') (hs : x_wl h.1 st) (hw : x_wh h) (e : ls'.length = ls.length) : x_Kp h ls (pc, ls', st, h) := ⟨hl, hs, hw, Nat.le_refl _, Nat.le_refl _, e⟩
theorem x_Kp.set {h : x_H} {ls st : List Value} {pc q : Nat} {c : x_C} (hl : x_wl h.1 ls) (hs : x_wl h.1 st) (hw : x_wh h) (hc : ∀ ci fs, c = .inr (ci, fs) → x_wl h.1 fs) : x_Kp h ls (pc, ls, st, x_set h q c) := ⟨hl, hs, x_wh_set hw hc, Nat.le_refl _, Nat.le_refl _, rfl⟩
theorem x_Kp.new {h : x_H} {ls st : List Value} {pc w : Nat} {c : x_C} (hl : x_wl h.1 ls) (hs : x_wl h.1 st) (hw : x_wh h) (hc : ∀ ci fs, c = .inr (ci, fs) → x_wl (h.1 + 1) fs) : x_Kp h ls (pc, ls, .ref h.1 :: st, x_new h w c) :=
  ⟨x_wl_le (Nat.le_succ _) hl, x_wl_cons.mpr ⟨fun q e => by cases e; exact Nat.lt_succ_self _, x_wl_le (Nat.le_succ _) hs⟩, x_wh_new hw hc, Nat.le_succ _, Nat.le_add_right _ _, rfl⟩
theorem x_wl_def (n ci N : Nat) : x_wl n ((List.range N).map (fun k => defaultValue (x_ty ci k))) := by
  intro v hv q e
  obtain ⟨k, -, hk⟩ := List.mem_map.mp hv
  subst e
  cases hz : x_ty ci k <;> rw [hz] at hk <;> cases hk
theorem x_act_kp {i : Instr} {len pc : Nat} {ls st : List Value} {h : x_H} {k : x_K} (ha : x_act i len pc ls st h = some (.inl k)) (hl : x_wl h.1 ls) (hs : x_wl h.1 st) (hw : x_wh h) : x_Kp h ls k := by
  have pi : ∀ x : Int32, x_wv h.1 (.int x) := x_wv_int _
  have pl : ∀ x : Int64, x_wv h.1 (.long x) := x_wv_long _
  cases i with
  | iconst n => cases x_go_inv ha; exact x_Kp.of hl (x_wl_cons.mpr ⟨pi _, hs⟩) hw
  | bipush n => cases x_go_inv ha; exact x_Kp.of hl (x_wl_cons.mpr ⟨pi _, hs⟩) hw
  | sipush n => cases x_go_inv ha; exact x_Kp.of hl (x_wl_cons.mpr ⟨pi _, hs⟩) hw
  | jsr n => cases x_go_inv ha; exact x_Kp.of hl (x_wl_cons.mpr ⟨pi _, hs⟩) hw
  | jsr_w n => cases x_go_inv ha; exact x_Kp.of hl (x_wl_cons.mpr ⟨pi _, hs⟩) hw
  | lconst n => cases x_go_inv ha; exact x_Kp.of hl (x_wl_cons.mpr ⟨pl _, hs⟩) hw
  | goto_w n => cases x_go_inv ha; exact x_Kp.of hl (x_wl_cons.mpr ⟨pl _, hs⟩) hw
  | iload_n n => obtain ⟨x, e, rfl⟩ := x_ldi_inv ha; exact x_Kp.of hl (x_wl_cons.mpr ⟨pi _, hs⟩) hw
  | iload n => obtain ⟨x, e, rfl⟩ := x_ldi_inv ha; exact x_Kp.of hl (x_wl_cons.mpr ⟨pi _, hs⟩) hw
  | aload_n n => obtain ⟨x, e, rfl⟩ := x_lda_inv ha; exact x_Kp.of hl (x_wl_cons.mpr ⟨x_wl_get hl e, hs⟩) hw
  | aload n => obtain ⟨x, e, rfl⟩ := x_lda_inv ha; exact x_Kp.of hl (x_wl_cons.mpr ⟨x_wl_get hl e, hs⟩) hw
  | lload_n n => obtain ⟨x, e, rfl⟩ := x_ldl_inv ha; exact x_Kp.of hl (x_wl_cons.mpr ⟨pl _, hs⟩) hw
  | lload n => obtain ⟨x, e, rfl⟩ := x_ldl_inv ha; exact x_Kp.of hl (x_wl_cons.mpr ⟨pl _, hs⟩) hw
  | istore_n n => obtain ⟨x, st', rfl, e, rfl⟩ := x_sti_inv ha; exact x_Kp.loc (x_wl_st1 hl (pi _)) (x_wl_cons.mp hs).2 hw (x_st1_len _ _ _)
  | istore n => obtain ⟨x, st', rfl, e, rfl⟩ := x_sti_inv ha; exact x_Kp.loc (x_wl_st1 hl (pi _)) (x_wl_cons.mp hs).2 hw (x_st1_len _ _ _)
  | astore_n n => obtain ⟨x, st', rfl, e, rfl⟩ := x_sta_inv ha; exact x_Kp.loc (x_wl_st1 hl (x_wl_cons.mp hs).1) (x_wl_cons.mp hs).2 hw (x_st1_len _ _ _)
  | astore n => obtain ⟨x, st', rfl, e, rfl⟩ := x_sta_inv ha; exact x_Kp.loc (x_wl_st1 hl (x_wl_cons.mp hs).1) (x_wl_cons.mp hs).2 hw (x_st1_len _ _ _)
  | lstore n => obtain ⟨x, st', rfl, e, rfl⟩ := x_stl_inv ha; exact x_Kp.loc (x_wl_st2 hl (pl _)) (x_wl_cons.mp hs).2 hw (x_st2_len _ _ _)
  | lstore_n n => obtain ⟨x, st', rfl, e, rfl⟩ := x_stl_inv ha; exact x_Kp.loc (x_wl_st2 hl (pl _)) (x_wl_cons.mp hs).2 hw (x_st2_len _ _ _)
  | iinc n c =>
    replace ha : (match ls[n]? with | some (.int x) => x_go (pc + len) (x_st1 ls n (.int (x + Int32.ofInt c))) st h | _ => none) = some (.inl k) := ha
    split at ha
    · cases x_go_inv ha; exact x_Kp.loc (x_wl_st1 hl (pi _)) hs hw (x_st1_len _ _ _)
    · cases ha
  | dup =>
    replace ha : (match st with | .ref q :: st => x_go (pc + len) ls (.ref q :: .ref q :: st) h | .int x :: st => x_go (pc + len) ls (.int x :: .int x :: st) h | _ => none) = some (.inl k) := ha
    split at ha
    · cases x_go_inv ha; exact x_Kp.of hl (x_wl_cons.mpr ⟨(x_wl_cons.mp hs).1, hs⟩) hw
    · cases x_go_inv ha; exact x_Kp.of hl (x_wl_cons.mpr ⟨pi _, hs⟩) hw
    · cases ha
  | dup2 =>
    obtain ⟨v, q, st', rfl, e⟩ := x_ia_inv (f := fun v q st => x_go (pc + len) ls (.int v :: .ref q :: .int v :: .ref q :: st) h) ha
    cases x_go_inv e
    have h1 := x_wl_cons.mp hs
    exact x_Kp.of hl (x_wl_cons.mpr ⟨h1.1, x_wl_cons.mpr ⟨(x_wl_cons.mp h1.2).1, hs⟩⟩) hw
  | iadd => obtain ⟨x, y, st', rfl, rfl⟩ := x_ii_inv ha; exact x_Kp.of hl (x_wl_cons.mpr ⟨pi _, (x_wl_cons.mp (x_wl_cons.mp hs).2).2⟩) hw
  | isub => obtain ⟨x, y, st', rfl, rfl⟩ := x_ii_inv ha; exact x_Kp.of hl (x_wl_cons.mpr ⟨pi _, (x_wl_cons.mp (x_wl_cons.mp hs).2).2⟩) hw
  | imul => obtain ⟨x, y, st', rfl, rfl⟩ := x_ii_inv ha; exact x_Kp.of hl (x_wl_cons.mpr ⟨pi _, (x_wl_cons.mp (x_wl_cons.mp hs).2).2⟩) hw
  | iand => obtain ⟨x, y, st', rfl, rfl⟩ := x_ii_inv ha; exact x_Kp.of hl (x_wl_cons.mpr ⟨pi _, (x_wl_cons.mp (x_wl_cons.mp hs).2).2⟩) hw
  | ior => obtain ⟨x, y, st', rfl, rfl⟩ := x_ii_inv ha; exact x_Kp.of hl (x_wl_cons.mpr ⟨pi _, (x_wl_cons.mp (x_wl_cons.mp hs).2).2⟩) hw
  | ixor => obtain ⟨x, y, st', rfl, rfl⟩ := x_ii_inv ha; exact x_Kp.of hl (x_wl_cons.mpr ⟨pi _, (x_wl_cons.mp (x_wl_cons.mp hs).2).2⟩) hw
  | ishl => obtain ⟨x, y, st', rfl, rfl⟩ := x_ii_inv ha; exact x_Kp.of hl (x_wl_cons.mpr ⟨pi _, (x_wl_cons.mp (x_wl_cons.mp hs).2).2⟩) hw
  | ishr => obtain ⟨x, y, st', rfl, rfl⟩ := x_ii_inv ha; exact x_Kp.of hl (x_wl_cons.mpr ⟨pi _, (x_wl_cons.mp (x_wl_cons.mp hs).2).2⟩) hw
  | iushr => obtain ⟨x, y, st', rfl, rfl⟩ := x_ii_inv ha; exact x_Kp.of hl (x_wl_cons.mpr ⟨pi _, (x_wl_cons.mp (x_wl_cons.mp hs).2).2⟩) hw
  | pop =>
    obtain ⟨x, y, st', rfl, e⟩ := x_st_inv (f := fun x y st => if Nat.ble st.length 4 = true then x_go (pc + len) ls (.int (if x < y then y else x) :: st) h else none) ha
    cases x_go_inv (x_grd_inv e).2
    exact x_Kp.of hl (x_wl_cons.mpr ⟨pi _, (x_wl_cons.mp (x_wl_cons.mp hs).2).2⟩) hw
  | pop2 =>
    obtain ⟨x, y, st', rfl, e⟩ := x_st_inv (f := fun x y st => if Nat.ble st.length 4 = true then x_go (pc + len) ls (.int (if y < x then y else x) :: st) h else none) ha
    cases x_go_inv (x_grd_inv e).2
    exact x_Kp.of hl (x_wl_cons.mpr ⟨pi _, (x_wl_cons.mp (x_wl_cons.mp hs).2).2⟩) hw
  | idiv =>
    obtain ⟨x, y, st', rfl, e⟩ := x_st_inv (f := fun x y st => if ¬ y = 0 then x_go (pc + len) ls (.int (x / y) :: st) h else none) ha
    cases x_go_inv (x_grd_inv e).2
    exact x_Kp.of hl (x_wl_cons.mpr ⟨pi _, (x_wl_cons.mp (x_wl_cons.mp hs).2).2⟩) hw
  | irem =>
    obtain ⟨x, y, st', rfl, e⟩ := x_st_inv (f := fun x y st => if ¬ y = 0 then x_go (pc + len) ls (.int (x - x / y * y) :: st) h else none) ha
    cases x_go_inv (x_grd_inv e).2
    exact x_Kp.of hl (x_wl_cons.mpr ⟨pi _, (x_wl_cons.mp (x_wl_cons.mp hs).2).2⟩) hw
  | ladd => obtain ⟨x, y, st', rfl, rfl⟩ := x_ll_inv ha; exact x_Kp.of hl (x_wl_cons.mpr ⟨pl _, (x_wl_cons.mp (x_wl_cons.mp hs).2).2⟩) hw
  | lmul => obtain ⟨x, y, st', rfl, rfl⟩ := x_ll_inv ha; exact x_Kp.of hl (x_wl_cons.mpr ⟨pl _, (x_wl_cons.mp (x_wl_cons.mp hs).2).2⟩) hw
  | land => obtain ⟨x, y, st', rfl, rfl⟩ := x_ll_inv ha; exact x_Kp.of hl (x_wl_cons.mpr ⟨pl _, (x_wl_cons.mp (x_wl_cons.mp hs).2).2⟩) hw
  | ldiv =>
    obtain ⟨x, y, st', rfl, e⟩ := x_stl_inv2 (f := fun x y st => if ¬ y = 0 then x_go (pc + len) ls (.long (x / y) :: st) h else none) ha
    cases x_go_inv (x_grd_inv e).2
    exact x_Kp.of hl (x_wl_cons.mpr ⟨pl _, (x_wl_cons.mp (x_wl_cons.mp hs).2).2⟩) hw
  | lrem =>
    obtain ⟨x, y, st', rfl, e⟩ := x_stl_inv2 (f := fun x y st => if ¬ y = 0 then x_go (pc + len) ls (.long (x - x / y * y) :: st) h else none) ha
    cases x_go_inv (x_grd_inv e).2
    exact x_Kp.of hl (x_wl_cons.mpr ⟨pl _, (x_wl_cons.mp (x_wl_cons.mp hs).2).2⟩) hw
  | i2l =>
    obtain ⟨x, st', rfl, e⟩ := x_i_inv (f := fun x st => x_go (pc + len) ls (.long x.toInt64 :: st) h) ha
    cases x_go_inv e
    exact x_Kp.of hl (x_wl_cons.mpr ⟨pl _, (x_wl_cons.mp hs).2⟩) hw
  | l2i =>
    obtain ⟨x, st', rfl, e⟩ := x_l_inv (f := fun x st => x_go (pc + len) ls (.int x.toInt32 :: st) h) ha
    cases x_go_inv e
    exact x_Kp.of hl (x_wl_cons.mpr ⟨pi _, (x_wl_cons.mp hs).2⟩) hw
  | lcmp =>
    obtain ⟨x, y, st', rfl, e⟩ := x_stl_inv2 (f := fun x y st => x_go (pc + len) ls (.int (lg_cmp x y) :: st) h) ha
    cases x_go_inv e
    exact x_Kp.of hl (x_wl_cons.mpr ⟨pi _, (x_wl_cons.mp (x_wl_cons.mp hs).2).2⟩) hw
  | goto off => cases x_go_inv ha; exact x_Kp.of hl hs hw
  | ifCond c off =>
    match st, c, ha with
    | .int x :: st, .eq, ha => cases x_go_inv ha; exact x_Kp.of hl (x_wl_cons.mp hs).2 hw
    | .int x :: st, .ne, ha => cases x_go_inv ha; exact x_Kp.of hl (x_wl_cons.mp hs).2 hw
    | .int x :: st, .lt, ha => cases x_go_inv ha; exact x_Kp.of hl (x_wl_cons.mp hs).2 hw
    | .int x :: st, .ge, ha => cases x_go_inv ha; exact x_Kp.of hl (x_wl_cons.mp hs).2 hw
    | .int x :: st, .gt, ha => cases x_go_inv ha; exact x_Kp.of hl (x_wl_cons.mp hs).2 hw
    | .int x :: st, .le, ha => cases x_go_inv ha; exact x_Kp.of hl (x_wl_cons.mp hs).2 hw
  | if_icmp c off =>
    match st, c, ha with
    | .int y :: .int x :: st, .eq, ha => cases x_go_inv ha; exact x_Kp.of hl (x_wl_cons.mp (x_wl_cons.mp hs).2).2 hw
    | .int y :: .int x :: st, .ne, ha => cases x_go_inv ha; exact x_Kp.of hl (x_wl_cons.mp (x_wl_cons.mp hs).2).2 hw
    | .int y :: .int x :: st, .lt, ha => cases x_go_inv ha; exact x_Kp.of hl (x_wl_cons.mp (x_wl_cons.mp hs).2).2 hw
    | .int y :: .int x :: st, .ge, ha => cases x_go_inv ha; exact x_Kp.of hl (x_wl_cons.mp (x_wl_cons.mp hs).2).2 hw
    | .int y :: .int x :: st, .gt, ha => cases x_go_inv ha; exact x_Kp.of hl (x_wl_cons.mp (x_wl_cons.mp hs).2).2 hw
    | .int y :: .int x :: st, .le, ha => cases x_go_inv ha; exact x_Kp.of hl (x_wl_cons.mp (x_wl_cons.mp hs).2).2 hw
  | tableswitch dflt lo hi offs =>
    obtain ⟨x, st', rfl, e⟩ := x_i_inv (f := fun x st => if x.toInt < lo ∨ hi < x.toInt then x_go (x_tg pc dflt) ls st h else match offs[(x.toInt - lo).toNat]? with
      | some off => x_go (x_tg pc off) ls st h
      | none => none) ha
    split at e
    · cases x_go_inv e; exact x_Kp.of hl (x_wl_cons.mp hs).2 hw
    · split at e
      · cases x_go_inv e; exact x_Kp.of hl (x_wl_cons.mp hs).2 hw
      · cases e
  | lookupswitch dflt ps =>
    obtain ⟨x, st', rfl, e⟩ := x_i_inv (f := fun x st => x_go (x_tg pc (Op.lookupswitch.offset ps.toList dflt x.toInt)) ls st h) ha
    cases x_go_inv e; exact x_Kp.of hl (x_wl_cons.mp hs).2 hw
  | ireturn =>
    unfold x_act at ha
    dsimp only at ha
    split at ha <;> cases ha
  | areturn =>
    unfold x_act at ha
    dsimp only at ha
    split at ha
    · split at ha <;> cases ha
    · cases ha
  | return_ =>
    unfold x_act at ha
    dsimp only at ha
    split at ha <;> cases ha
  | getfield z =>
    obtain ⟨q, st', rfl, e⟩ := x_a_inv (f := fun q st => (x_fld h q (z / 64) (z % 64)).map (fun v => .inl (pc + len, ls, v :: st, h))) ha
    obtain ⟨v, e1, e2⟩ := x_map_inv e
    cases e2
    obtain ⟨fs, g1, g2⟩ := x_fld_inv e1
    obtain ⟨l1, l2⟩ := x_get_lt g1
    exact x_Kp.of hl (x_wl_cons.mpr ⟨x_wl_get (hw q l1 _ _ l2) g2, (x_wl_cons.mp hs).2⟩) hw
  | putfield z =>
    obtain ⟨v, q, st', rfl, e⟩ := x_va_inv (f := fun v q st => if x_fok (x_ty (z / 64) (z % 64)) v = true then (x_pfd h q (z / 64) (z % 64) v).map (fun h' => .inl (pc + len, ls, st, h')) else none) ha
    obtain ⟨h', e1, e2⟩ := x_map_inv (x_grd_inv e).2
    cases e2
    obtain ⟨fs, g1, g2, rfl⟩ := x_pfd_inv e1
    obtain ⟨l1, l2⟩ := x_get_lt g1
    have h1 := x_wl_cons.mp hs
    exact x_Kp.set hl (x_wl_cons.mp h1.2).2 hw (fun ci fs' e => by cases e; exact x_wl_set (hw q l1 _ _ l2) h1.1)
  | putstatic z =>
    obtain ⟨v, q, st', rfl, e⟩ := x_va_inv (f := fun v q st => if x_fok (x_ty (z / 64) (z % 64)) v = true then (x_pfd h q (z / 64) (z % 64) v).map (fun h' => .inl (pc + len, ls, st, h')) else none) ha
    obtain ⟨h', e1, e2⟩ := x_map_inv (x_grd_inv e).2
    cases e2
    obtain ⟨fs, g1, g2, rfl⟩ := x_pfd_inv e1
    obtain ⟨l1, l2⟩ := x_get_lt g1
    have h1 := x_wl_cons.mp hs
    exact x_Kp.set hl (x_wl_cons.mp h1.2).2 hw (fun ci fs' e => by cases e; exact x_wl_set (hw q l1 _ _ l2) h1.1)
  | iaload =>
    obtain ⟨v, q, st', rfl, e⟩ := x_ia_inv (f := fun i q st => (x_ild h q 0 i).map (fun x => .inl (pc + len, ls, .int x :: st, h))) ha
    obtain ⟨x, e1, e2⟩ := x_map_inv e
    cases e2
    exact x_Kp.of hl (x_wl_cons.mpr ⟨pi _, (x_wl_cons.mp (x_wl_cons.mp hs).2).2⟩) hw
  | baload =>
    obtain ⟨v, q, st', rfl, e⟩ := x_ia_inv (f := fun i q st => (x_ild h q 2 i).map (fun x => .inl (pc + len, ls, .int x :: st, h))) ha
    obtain ⟨x, e1, e2⟩ := x_map_inv e
    cases e2
    exact x_Kp.of hl (x_wl_cons.mpr ⟨pi _, (x_wl_cons.mp (x_wl_cons.mp hs).2).2⟩) hw
  | laload =>
    obtain ⟨v, q, st', rfl, e⟩ := x_ia_inv (f := fun i q st => (x_lld h q i).map (fun x => .inl (pc + len, ls, .long x :: st, h))) ha
    obtain ⟨x, e1, e2⟩ := x_map_inv e
    cases e2
    exact x_Kp.of hl (x_wl_cons.mpr ⟨pl _, (x_wl_cons.mp (x_wl_cons.mp hs).2).2⟩) hw
  | iastore =>
    obtain ⟨x, j, q, st', rfl, e⟩ := x_iia_inv (f := fun x i q st => (x_ist h q 0 i x).map (fun h' => .inl (pc + len, ls, st, h'))) ha
    obtain ⟨h', e1, e2⟩ := x_map_inv e
    cases e2
    obtain ⟨n, f, g1, g2, rfl⟩ := x_ist_inv e1
    exact x_Kp.set hl (x_wl_cons.mp (x_wl_cons.mp (x_wl_cons.mp hs).2).2).2 hw (fun ci fs' e => by cases e)
  | bastore =>
    obtain ⟨x, j, q, st', rfl, e⟩ := x_iia_inv (f := fun x i q st => (x_ist h q 2 i (vp_nar .boolean x)).map (fun h' => .inl (pc + len, ls, st, h'))) ha
    obtain ⟨h', e1, e2⟩ := x_map_inv e
    cases e2
    obtain ⟨n, f, g1, g2, rfl⟩ := x_ist_inv e1
    exact x_Kp.set hl (x_wl_cons.mp (x_wl_cons.mp (x_wl_cons.mp hs).2).2).2 hw (fun ci fs' e => by cases e)
  | lastore =>
    obtain ⟨x, j, q, st', rfl, e⟩ := x_lia_inv (f := fun x i q st => (x_lst h q i x).map (fun h' => .inl (pc + len, ls, st, h'))) ha
    obtain ⟨h', e1, e2⟩ := x_map_inv e
    cases e2
    obtain ⟨n, f, g1, g2, rfl⟩ := x_lst_inv e1
    exact x_Kp.set hl (x_wl_cons.mp (x_wl_cons.mp (x_wl_cons.mp hs).2).2).2 hw (fun ci fs' e => by cases e)
  | arraylength =>
    obtain ⟨q, st', rfl, e⟩ := x_a_inv (f := fun q st => (x_len h q).map (fun n => .inl (pc + len, ls, .int (Int32.ofNat n) :: st, h))) ha
    obtain ⟨n, e1, e2⟩ := x_map_inv e
    cases e2
    exact x_Kp.of hl (x_wl_cons.mpr ⟨pi _, (x_wl_cons.mp hs).2⟩) hw
  | newarray t =>
    match st, t, ha with
    | .int n :: st, .int, ha => cases x_go_inv (x_grd_inv ha).2; exact x_Kp.new hl (x_wl_cons.mp hs).2 hw (fun ci fs e => by cases e)
    | .int n :: st, .long, ha => cases x_go_inv (x_grd_inv ha).2; exact x_Kp.new hl (x_wl_cons.mp hs).2 hw (fun ci fs e => by cases e)
    | .int n :: st, .boolean, ha => cases x_go_inv (x_grd_inv ha).2; exact x_Kp.new hl (x_wl_cons.mp hs).2 hw (fun ci fs e => by cases e)
    | .int n :: st, .char, ha => cases (x_grd_inv ha).2
    | .int n :: st, .float, ha => cases (x_grd_inv ha).2
    | .int n :: st, .double, ha => cases (x_grd_inv ha).2
    | .int n :: st, .byte, ha => cases (x_grd_inv ha).2
    | .int n :: st, .short, ha => cases (x_grd_inv ha).2
  | new ci =>
    replace ha : (match x_cl[ci]? with | some (_, _, N) => x_go (pc + len) ls (.ref h.1 :: st) (x_new h N (.inr (ci, (List.range N).map (fun k => defaultValue (x_ty ci k))))) | none => none) = some (.inl k) := ha
    split at ha
    · cases x_go_inv ha; exact x_Kp.new hl hs hw (fun ci fs e => by cases e; exact x_wl_def _ _ _)
    · cases ha
  | invokespecial z =>
    obtain ⟨q, st', rfl, e⟩ := x_a_inv (f := fun q st => if Nat.ble st.length 4 = true then x_go (pc + len) ls st h else none) ha
    cases x_go_inv (x_grd_inv e).2
    exact x_Kp.of hl (x_wl_cons.mp hs).2 hw
  | invokeinterface mi z =>
    have := (x_grd_inv (c := x_cok z st h = true) (a := some (.inr (.inl (mi, (st.take (x_cn z)).reverse, pc + len, ls, st.drop (x_cn z))))) ha).2
    cases this
  | _ => cases (show (none : Option x_A) = some (.inl k) from ha)
theorem x_act_call {i : Instr} {len pc : Nat} {ls st : List Value} {h : x_H} {mi pc' : Nat} {as ls' st' : List Value} (ha : x_act i len pc ls st h = some (.inr (.inl (mi, as, pc', ls', st')))) : ∃ z, i = .invokeinterface mi z ∧ x_cok z st h = true ∧ as = (st.take (x_cn z)).reverse ∧ pc' = pc + len ∧ ls' = ls ∧ st' = st.drop (x_cn z) := by
  unfold x_act at ha
  split at ha
  all_goals first
    | (unfold x_go at ha; cases ha; done)
    | ((try simp only [x_go, x_ldi, x_lda, x_ldl, x_sti, x_sta, x_stl, x_ii, x_ll] at ha); repeat' split at ha)
  all_goals first
    | (cases ha; done)
    | (obtain ⟨y, -, hy⟩ := Option.map_eq_some_iff.mp ha; cases hy; done)
    | (cases ha; exact ⟨_, rfl, by assumption, rfl, rfl, rfl, rfl⟩)
theorem x_act_ret {i : Instr} {len pc : Nat} {ls st : List Value} {h : x_H} {v : Option Value} (ha : x_act i len pc ls st h = some (.inr (.inr v))) : (i = .return_ ∧ st = [] ∧ v = none) ∨ ∃ x, (i = .ireturn ∨ (i = .areturn ∧ x &&& 1 = x)) ∧ st = [.int x] ∧ v = some (.int x) := by
  unfold x_act at ha
  split at ha
  all_goals first
    | (unfold x_go at ha; cases ha; done)
    | ((try simp only [x_go, x_ldi, x_lda, x_ldl, x_sti, x_sta, x_stl, x_ii, x_ll] at ha); repeat' split at ha)
  all_goals first
    | (cases ha; done)
    | (obtain ⟨y, -, hy⟩ := Option.map_eq_some_iff.mp ha; cases hy; done)
    | (cases ha; exact Or.inl ⟨rfl, rfl, rfl⟩)
    | (cases ha; exact Or.inr ⟨_, Or.inl rfl, rfl, rfl⟩)
    | (cases ha; exact Or.inr ⟨_, Or.inr ⟨rfl, by assumption⟩, rfl, rfl⟩)
end
section
/-! ONE STEP: an instruction of the small machine is the real machine's -/
theorem x_oi1 : Cond.instanceMethod objectInit ∈ x_tb := x_at_in 73 (by decide +kernel) (by decide +kernel)
theorem x_oi2 : Cond.code objectInit ⟨#[0xb1]⟩ 1 none ∈ x_tb := x_at_in 74 (by decide +kernel) (by decide +kernel)
def x_pln (i : Instr) (pc len : Nat) : Bool := match i with
  | .iconst _ | .lconst _ | .iload_n _ | .aload_n _ | .lload_n _ | .istore_n _ | .astore_n _ | .lstore_n _ | .dup | .dup2 => Nat.beq len 1
  | .iadd | .isub | .imul | .iand | .ior | .ixor | .ishl | .ishr | .iushr | .idiv | .irem | .ladd | .lmul | .land | .ldiv | .lrem | .i2l | .l2i | .lcmp => Nat.beq len 1
  | .iaload | .baload | .laload | .iastore | .bastore | .lastore | .arraylength => Nat.beq len 1
  | .bipush _ | .iload _ | .lload _ | .aload _ | .istore _ | .astore _ | .lstore _ | .newarray _ => Nat.beq len 2
  | .sipush _ | .iinc _ _ => Nat.beq len 3
  | .goto off | .ifCond _ off | .if_icmp _ off => Nat.beq len 3 && decide (0 ≤ (pc : Int) + off)
  | .tableswitch d _ _ offs => decide (0 ≤ (pc : Int) + d) && offs.toList.all (fun o => decide (0 ≤ (pc : Int) + o))
  | .lookupswitch d ps => decide (0 ≤ (pc : Int) + d) && (ps.toList.all (fun q => decide (0 ≤ (pc : Int) + q.2)) && (ps.toList.zip (ps.toList.drop 1)).all (fun (a, next) => a.1 < next.1))
  | _ => false
def x_okc (P : Nat → x_M) (M : x_M) (pc mi z len : Nat) : Prop := ∃ (idx n : Nat), len = 3 ∧ ((P mi).1.cls ≠ "java/lang/invoke/MethodHandle" ∧ (P mi).1.cls ≠ "java/lang/invoke/VarHandle" ∧ (parseMethodDescriptor (P mi).1.desc).map (fun d => d.parameters.length) = some n) ∧ z / 100000 ≤ (P mi).2.2.1 ∧ match z % 10 with
  | 0 => decode M.2.1 pc = .ok (.invokevirtual idx, 3) ∧ x_cn z = n + 1 ∧ (∃ T N, x_cl[z / 10 % 100]? = some ((P mi).1.cls, T, N)) ∧ Cond.methodLink M.1.cls idx (P mi).1 ∈ x_tb ∧ Cond.instanceMethod (P mi).1 ∈ x_tb ∧ Cond.selects (P mi).1.cls (P mi).1 (P mi).1 ∈ x_tb
  | 1 => decode M.2.1 pc = .ok (.invokestatic idx, 3) ∧ x_cn z = n ∧ Cond.methodLink M.1.cls idx (P mi).1 ∈ x_tb ∧ Cond.static (P mi).1 ∈ x_tb
  | 2 => decode M.2.1 pc = .ok (.invokestatic idx, 3) ∧ x_cn z = n ∧ (∃ host, (M.1.cls, idx, (P mi).1, host) ∈ x_nl) ∧ Cond.static (P mi).1 ∈ x_tb
  | 3 => decode M.2.1 pc = .ok (.invokespecial idx, 3) ∧ x_cn z = n + 1 ∧ Cond.methodLink M.1.cls idx (P mi).1 ∈ x_tb ∧ Cond.instanceMethod (P mi).1 ∈ x_tb ∧ (P mi).1.name = "<init>" ∧ (P mi).2.2.2.1 = none
  | 4 => decode M.2.1 pc = .ok (.invokespecial idx, 3) ∧ x_cn z = n + 1 ∧ (∃ host, (M.1.cls, idx, (P mi).1, host) ∈ x_nl) ∧ Cond.instanceMethod (P mi).1 ∈ x_tb ∧ (P mi).1.name = "<init>" ∧ (P mi).2.2.2.1 = none
  | _ => False
def x_okf (M : x_M) (idx ci k : Nat) (C : String) (T : u_T) (N : Nat) : Prop := x_cl[ci]? = some (C, T, N) ∧ k < N ∧ Cond.fieldLink M.1.cls idx (T k).1 (T k).2.1 (T k).2.2.1 ∈ x_tb
/-- the code's row stands in the bytes, and its words in the tables -/
def x_ok (P : Nat → x_M) (M : x_M) (pc : Nat) (i : Instr) (len : Nat) : Prop := match i with
  | .jsr n => ∃ idx, decode M.2.1 pc = .ok (.ldc idx, 2) ∧ len = 2 ∧ Cond.constant M.1.cls idx (Int32.ofInt n) ∈ x_tb
  | .jsr_w n => ∃ idx, decode M.2.1 pc = .ok (.ldc_w idx, 3) ∧ len = 3 ∧ Cond.constant M.1.cls idx (Int32.ofInt n) ∈ x_tb
  | .goto_w n => ∃ idx, decode M.2.1 pc = .ok (.ldc2_w idx, 3) ∧ len = 3 ∧ Cond.constantLong M.1.cls idx (Int64.ofInt n) ∈ x_tb
  | .getfield z => ∃ idx C T N, decode M.2.1 pc = .ok (.getfield idx, 3) ∧ len = 3 ∧ x_okf M idx (z / 64) (z % 64) C T N
  | .putfield z => ∃ idx C T N, decode M.2.1 pc = .ok (.putfield idx, 3) ∧ len = 3 ∧ x_okf M idx (z / 64) (z % 64) C T N ∧ (T (z % 64)).2.2.2 = false
  | .putstatic z => ∃ idx C T N, decode M.2.1 pc = .ok (.putfield idx, 3) ∧ len = 3 ∧ x_okf M idx (z / 64) (z % 64) C T N ∧ (T (z % 64)).2.2.2 = true ∧ M.1.name = "<init>" ∧ (T (z % 64)).1 = M.1.cls
  | .ireturn => decode M.2.1 pc = .ok (.ireturn, 1) ∧ M.2.2.2.1 = some .int
  | .areturn => decode M.2.1 pc = .ok (.ireturn, 1) ∧ M.2.2.2.1 = some .boolean
  | .return_ => decode M.2.1 pc = .ok (.return_, 1) ∧ M.2.2.2.1 = none
  | .new ci => ∃ idx C T N, decode M.2.1 pc = .ok (.new idx, 3) ∧ len = 3 ∧ x_cl[ci]? = some (C, T, N) ∧ Cond.classLink M.1.cls idx C ∈ x_tb
  | .invokespecial _ => ∃ idx, decode M.2.1 pc = .ok (.invokespecial idx, 3) ∧ len = 3 ∧ Cond.methodLink M.1.cls idx objectInit ∈ x_tb
  | .invokeinterface mi z => x_okc P M pc mi z len
  | .pop => ∃ idx, decode M.2.1 pc = .ok (.invokestatic idx, 3) ∧ len = 3 ∧ Cond.methodLink M.1.cls idx Lib.Math.max.name ∈ x_tb ∧ Cond.static Lib.Math.max.name ∈ x_tb ∧ Cond.initialized "java/lang/Math" ∈ x_tb ∧ Cond.code Lib.Math.max.name Lib.Math.max.code 2 (some .int) ∈ x_tb
  | .pop2 => ∃ idx, decode M.2.1 pc = .ok (.invokestatic idx, 3) ∧ len = 3 ∧ Cond.methodLink M.1.cls idx Lib.Math.min.name ∈ x_tb ∧ Cond.static Lib.Math.min.name ∈ x_tb ∧ Cond.initialized "java/lang/Math" ∈ x_tb ∧ Cond.code Lib.Math.min.name Lib.Math.min.code 2 (some .int) ∈ x_tb
  | i => decode M.2.1 pc = .ok (i, len) ∧ x_pln i pc len = true
def x_Fx (M : x_M) (p : Program) (s : State) (m : MethodId) (meth : Method) (c : Code) (args : Array Value) (D : va_G) (cA : Nat → ClassId) : Prop :=
  p.tables.exec = Jvm.exec ∧ c.code = M.2.1 ∧ c.maxLocals = M.2.2.1 ∧ s.vm.findClass M.1.cls = some m.cls ∧ (∀ w ∈ x_tb, w.before args s = true) ∧ va_K D x_cl (x_tys cA) s ∧ x_NW s ∧ meth.name = M.1.name
def x_Rel (D : va_G) (cA : Nat → ClassId) (A : Nat → Prop) (n0 w0 : Nat) (ad0 : Nat → Nat) (H0 : Heap) (nL : Nat) (ad : Nat → Nat) (H : Heap) (LS : Array Slot) (locs : List Loc) (ls st : List Value) (h : x_H) : Prop :=
  (∀ i, i < n0 → ad i = ad0 i) ∧ n0 ≤ h.1 ∧ w0 ≤ h.2.1 ∧ va_P D x_cl (x_W cA ad h) H ∧ va_D A (x_W cA ad h) ∧ va_S A H0 H locs ∧ lv_has LS nL (x_lv ad ls) ∧ ls.length = nL ∧ x_wl h.1 ls ∧ x_wl h.1 st ∧ x_wh h
theorem x_Rel.to {D : va_G} {cA : Nat → ClassId} {A : Nat → Prop} {n0 w0 : Nat} {ad0 : Nat → Nat} {H0 : Heap} {nL pc' : Nat} {ad : Nat → Nat} {H H' : Heap} {LS LS' : Array Slot} {locs locs' : List Loc} {ls st ls' st' : List Value} {h h' : x_H} (hr : x_Rel D cA A n0 w0 ad0 H0 nL ad H LS locs ls st h) (kp : x_Kp h ls (pc', ls', st', h')) (hP : va_P D x_cl (x_W cA ad h') H') (hD : va_D A (x_W cA ad h')) (hS : va_S A H0 H' locs') (hL : lv_has LS' nL (x_lv ad ls')) : x_Rel D cA A n0 w0 ad0 H0 nL ad H' LS' locs' ls' st' h' := by
  obtain ⟨r1, r2, r3, r4, r5, r6, r7, r8, r9, r10, r11⟩ := hr
  obtain ⟨k1, k2, k3, k4, k5, k6⟩ := kp
  exact ⟨r1, Nat.le_trans r2 k4, Nat.le_trans r3 k5, hP, hD, hS, hL, k6.trans r8, k1, k2, k3⟩
theorem x_Rel.st {D : va_G} {cA : Nat → ClassId} {A : Nat → Prop} {n0 w0 : Nat} {ad0 : Nat → Nat} {H0 : Heap} {nL pc' : Nat} {ad : Nat → Nat} {H : Heap} {LS : Array Slot} {locs : List Loc} {ls st st' : List Value} {h : x_H} (hr : x_Rel D cA A n0 w0 ad0 H0 nL ad H LS locs ls st h) (kp : x_Kp h ls (pc', ls, st', h)) : x_Rel D cA A n0 w0 ad0 H0 nL ad H LS locs ls st' h :=
  hr.to kp hr.2.2.2.1 hr.2.2.2.2.1 hr.2.2.2.2.2.1 hr.2.2.2.2.2.2.1
theorem x_tg_eq {pc : Nat} {off : Int} (h : 0 ≤ (pc : Int) + off) : (pc : Int) + off = (x_tg pc off : Int) := (Int.toNat_of_nonneg h).symm
theorem x_fok_ok {t : FieldType} {v : Value} (ad : Nat → Nat) (h : x_fok t v = true) : narrow t (x_v ad v) = x_v ad v ∧ fits t (x_v ad v) = true := by
  unfold x_fok at h
  split at h
  · exact ⟨rfl, rfl⟩
  · rcases Bool.or_eq_true_iff.mp h with h | h
    · cases of_decide_eq_true h; exact ⟨rfl, rfl⟩
    · cases of_decide_eq_true h; exact ⟨rfl, rfl⟩
  · exact ⟨rfl, rfl⟩
  · exact ⟨rfl, rfl⟩
  · exact ⟨rfl, rfl⟩
  · cases h
theorem x_v_def (ad : Nat → Nat) (t : FieldType) : x_v ad (defaultValue t) = defaultValue t := by cases t <;> rfl
theorem x_short {rest : List Value} (ad : Nat → Nat) (h : Nat.ble rest.length 4 = true) : ((rest.map (x_v ad)).map fun v => v.category).sum ≤ 8 := by
  have h1 := Nat.le_of_ble_eq_true h
  have h2 : ∀ l : List Value, ((l.map (x_v ad)).map fun v => v.category).sum ≤ 2 * l.length := by
    intro l
    induction l with
    | nil => simp
    | cons a l ih =>
      simp only [List.map_cons, List.sum_cons, List.length_cons, x_v_cat]
      have : a.category ≤ 2 := by cases a <;> simp [Value.category]
      omega
  have := h2 rest
  omega
theorem x_off_in : ∀ (l : List (Int × Int)) (d k : Int) (P : Int → Prop), P d → (∀ q ∈ l, P q.2) → P (Op.lookupswitch.offset l d k)
  | [], d, k, P, hd, _ => hd
  | (a, o) :: r, d, k, P, hd, hl => by
    rw [Op.lookupswitch.offset_cons]
    split
    · exact hl _ List.mem_cons_self
    · exact x_off_in r d k P hd (fun q hq => hl q (List.mem_cons_of_mem _ hq))

section XSTEP
variable {P : Nat → x_M} {M : x_M} {p : Program} {l : Launch} {e : Env} {R : Room} {s : State} {m : MethodId} {args : Array Value} {below : List Frame} {meth : Method} {c : Code} {D : va_G} {cA : Nat → ClassId} {A : Nat → Prop} {Q : State → Prop} {n0 w0 : Nat} {ad0 : Nat → Nat}
theorem x_same_ty {cA : Nat → ClassId} {q : ClassId} {ty : FieldType} (hK' : va_K D x_cl (x_tys cA ++ [(q, ty)]) s) (k : Nat) (hk : (x_tys cA)[k]? = some (cA k, ty)) (hty : ty = .int ∨ ty = .long ∨ ty = .boolean) : q = cA k := by
  have h1 := (hK'.2 3 (q, ty) (by rfl)).2
  have h2 := (hK'.2 k (cA k, ty) (by
    have hl := (List.getElem?_eq_some_iff.mp hk).1
    rw [List.getElem?_append_left hl]; exact hk)).2
  rcases hty with rfl | rfl | rfl
  · exact Option.some.inj (Eq.trans (Eq.symm h1) h2)
  · exact Option.some.inj (Eq.trans (Eq.symm h1) h2)
  · exact Option.some.inj (Eq.trans (Eq.symm h1) h2)
theorem x_new_rel {nL : Nat} {ad : Nat → Nat} {H H1 : Heap} {LS : Array Slot} {locs : List Loc} {ls st st' : List Value} {h : x_H} {pc' w q : Nat} {cc : x_C} {ee : va_E} (hr : x_Rel D cA A n0 w0 ad0 s.heap nL ad H LS locs ls st h) (kp : x_Kp h ls (pc', ls, .ref h.1 :: st', x_new h w cc)) (hP : va_P D x_cl (x_W cA ad h ++ [(q, ee)]) H1) (hD : va_D A (x_W cA ad h ++ [(q, ee)])) (hS : va_S A s.heap H1 locs) (he : x_e cA (va_up ad h.1 q) cc = ee) : x_Rel D cA A n0 w0 ad0 s.heap nL (va_up ad h.1 q) H1 LS locs ls (.ref h.1 :: st') (x_new h w cc) := by
  obtain ⟨r1, r2, r3, r4, r5, r6, r7, r8, r9, r10, r11⟩ := hr
  obtain ⟨k1, k2, k3, k4, k5, k6⟩ := kp
  have hx : x_W cA (va_up ad h.1 q) (x_new h w cc) = x_W cA ad h ++ [(q, ee)] := by rw [x_W_push r11, he]
  have hu : ∀ i, i < h.1 → va_up ad h.1 q i = ad i := fun i hi => if_neg (Nat.ne_of_lt hi)
  refine ⟨fun i hi => (hu i (Nat.lt_of_lt_of_le hi r2)).trans (r1 i hi), Nat.le_trans r2 k4, Nat.le_trans r3 k5, by rw [hx]; exact hP, by rw [hx]; exact hD, hS, x_lv_sub r7 ?_, r8, k1, k2, k3⟩
  intro ⟨j, u⟩ hq
  obtain ⟨v, g1, g2, g3⟩ := x_lv_mem.mp hq
  exact x_lv_mem.mpr ⟨v, g1, g2, g3.trans (x_v_ext (x_wl_get r9 g1) hu)⟩
set_option maxHeartbeats 4000000 in
theorem x_step {i : Instr} {len pc nL : Nat} {ls st : List Value} {h : x_H} {k : x_K} {ad : Nat → Nat} {H : Heap} {LS : Array Slot} {locs : List Loc} (F : x_Fx M p s m meth c args D cA) (hnL : nL = M.2.2.1) (hA : ∀ q, s.heap.size ≤ q → A q) (hR1 : 1 ≤ R.frames) (hR2 : 64 ≤ R.locals)
    (hok : x_ok P M pc i len) (ha : x_act i len pc ls st h = some (.inl k)) (hr : x_Rel D cA A n0 w0 ad0 s.heap nL ad H LS locs ls st h) (hc : k.2.2.2.1 - n0 ≤ R.cells) (hs : k.2.2.2.2.1 - w0 ≤ R.slots)
    (kk : ∀ (ad' : Nat → Nat) (H' : Heap) (LS' : Array Slot) (locs' : List Loc), x_Rel D cA A n0 w0 ad0 s.heap nL ad' H' LS' locs' k.2.1 k.2.2.1 k.2.2.2 → W p l e R s m args below meth c H' locs' (k.2.2.2.1 - n0) (k.2.2.2.2.1 - w0) Q (F0 m k.1 LS' (k.2.2.1.map (x_v ad')))) :
    W p l e R s m args below meth c H locs (h.1 - n0) (h.2.1 - w0) Q (F0 m pc LS (st.map (x_v ad))) := by
  obtain ⟨hx, hb, hml, hown, hts, hK, hN, hnm⟩ := F
  have hr' := hr
  obtain ⟨r1, r2, r3, hP, hD, hS, hL, r8, r9, r10, r11⟩ := hr
  have kp := x_act_kp ha r9 r10 r11
  have one : ∀ {n : Nat}, Nat.beq len n = true → len = n := fun h => Nat.eq_of_beq_eq_true h
  cases i with
  | iconst n => obtain ⟨hd, hl⟩ := hok; cases one hl; cases x_go_inv ha; exact lv_iconst hx hb hd rfl (kk ad H LS locs (hr'.st kp))
  | bipush n => obtain ⟨hd, hl⟩ := hok; cases one hl; cases x_go_inv ha; exact lv_bipush hx hb hd rfl (kk ad H LS locs (hr'.st kp))
  | sipush n => obtain ⟨hd, hl⟩ := hok; cases one hl; cases x_go_inv ha; exact lv_sipush hx hb hd rfl (kk ad H LS locs (hr'.st kp))
  | jsr n => obtain ⟨idx, hd, rfl, hw⟩ := hok; cases x_go_inv ha; exact lv_ldc hx hb hown (hts _ hw) hd (kk ad H LS locs (hr'.st kp))
  | jsr_w n => obtain ⟨idx, hd, rfl, hw⟩ := hok; cases x_go_inv ha; exact lv_ldcw hx hb hown (hts _ hw) hd (kk ad H LS locs (hr'.st kp))
  | goto_w n => obtain ⟨idx, hd, rfl, hw⟩ := hok; cases x_go_inv ha; exact lv_ldc2 hx hb hown (hts _ hw) hd (kk ad H LS locs (hr'.st kp))
  | lconst n => obtain ⟨hd, hl⟩ := hok; cases one hl; cases x_go_inv ha; exact lv_lconst hx hb hd rfl (kk ad H LS locs (hr'.st kp))
  | iload_n n => obtain ⟨hd, hl⟩ := hok; cases one hl; obtain ⟨x, g, rfl⟩ := x_ldi_inv ha; exact lv_iload_n hx hb hd rfl (x_lv_at hL g rfl) (kk ad H LS locs (hr'.st kp))
  | iload n => obtain ⟨hd, hl⟩ := hok; cases one hl; obtain ⟨x, g, rfl⟩ := x_ldi_inv ha; exact lv_iload hx hb hd (x_lv_at hL g rfl) (kk ad H LS locs (hr'.st kp))
  | aload_n n => obtain ⟨hd, hl⟩ := hok; cases one hl; obtain ⟨x, g, rfl⟩ := x_lda_inv ha; exact lv_aload_n hx hb hd rfl (x_lv_at hL g rfl) (kk ad H LS locs (hr'.st kp))
  | aload n => obtain ⟨hd, hl⟩ := hok; cases one hl; obtain ⟨x, g, rfl⟩ := x_lda_inv ha; exact lv_aload hx hb hd (x_lv_at hL g rfl) (kk ad H LS locs (hr'.st kp))
  | lload_n n => obtain ⟨hd, hl⟩ := hok; cases one hl; obtain ⟨x, g, rfl⟩ := x_ldl_inv ha; exact lv_lload_n hx hb hd rfl (x_lv_at hL g rfl) (kk ad H LS locs (hr'.st kp))
  | lload n => obtain ⟨hd, hl⟩ := hok; cases one hl; obtain ⟨x, g, rfl⟩ := x_ldl_inv ha; exact lv_lload hx hb hd (x_lv_at hL g rfl) (kk ad H LS locs (hr'.st kp))
  | istore_n n => obtain ⟨hd, hl⟩ := hok; cases one hl; obtain ⟨x, st', rfl, g, rfl⟩ := x_sti_inv ha; exact lv_istore_n hx hb hd rfl hL (r8 ▸ g) rfl (fun LS' hL' => kk ad H LS' locs (hr'.to kp hP hD hS (x_lv_sub hL' x_lv_st1)))
  | istore n => obtain ⟨hd, hl⟩ := hok; cases one hl; obtain ⟨x, st', rfl, g, rfl⟩ := x_sti_inv ha; exact lv_istore hx hb hd hL (r8 ▸ g) rfl (fun LS' hL' => kk ad H LS' locs (hr'.to kp hP hD hS (x_lv_sub hL' x_lv_st1)))
  | astore_n n => obtain ⟨hd, hl⟩ := hok; cases one hl; obtain ⟨x, st', rfl, g, rfl⟩ := x_sta_inv ha; exact lv_astore_n hx hb hd rfl hL (r8 ▸ g) rfl (fun LS' hL' => kk ad H LS' locs (hr'.to kp hP hD hS (x_lv_sub hL' x_lv_st1)))
  | astore n => obtain ⟨hd, hl⟩ := hok; cases one hl; obtain ⟨x, st', rfl, g, rfl⟩ := x_sta_inv ha; exact lv_astore hx hb hd hL (r8 ▸ g) rfl (fun LS' hL' => kk ad H LS' locs (hr'.to kp hP hD hS (x_lv_sub hL' x_lv_st1)))
  | lstore n => obtain ⟨hd, hl⟩ := hok; cases one hl; obtain ⟨x, st', rfl, g, rfl⟩ := x_stl_inv ha; exact lv_lstore hx hb hd hL (r8 ▸ g) rfl (fun LS' hL' => kk ad H LS' locs (hr'.to kp hP hD hS (x_lv_sub hL' x_lv_st2)))
  | lstore_n n => obtain ⟨hd, hl⟩ := hok; cases one hl; obtain ⟨x, st', rfl, g, rfl⟩ := x_stl_inv ha; exact lv_lstore_n hx hb hd rfl hL (r8 ▸ g) rfl (fun LS' hL' => kk ad H LS' locs (hr'.to kp hP hD hS (x_lv_sub hL' x_lv_st2)))
  | iinc n cc =>
    obtain ⟨hd, hl⟩ := hok
    cases one hl
    unfold x_act at ha
    dsimp only at ha
    split at ha
    · rename_i x g
      cases x_go_inv ha
      obtain ⟨j, hj⟩ := List.getElem?_of_mem (x_lv_mem.mpr ⟨_, g, rfl, rfl⟩ : (n, x_v ad (.int x)) ∈ x_lv ad ls)
      exact lv_iinc hx hb hd hL hj rfl (r8 ▸ (List.getElem?_eq_some_iff.mp g).1) rfl (fun LS' hL' => kk ad H LS' locs (hr'.to kp hP hD hS (x_lv_sub hL' x_lv_st1)))
    · cases ha
  | dup =>
    obtain ⟨hd, hl⟩ := hok
    cases one hl
    unfold x_act at ha
    dsimp only at ha
    split at ha
    · cases x_go_inv ha; exact lv_dup hx hb hd rfl (kk ad H LS locs (hr'.st kp))
    · cases x_go_inv ha; exact lv_dup hx hb hd rfl (kk ad H LS locs (hr'.st kp))
    · cases ha
  | dup2 =>
    obtain ⟨hd, hl⟩ := hok
    cases one hl
    obtain ⟨v, q, st', rfl, e⟩ := x_ia_inv (f := fun v q st => x_go (pc + 1) ls (.int v :: .ref q :: .int v :: .ref q :: st) h) ha
    cases x_go_inv e
    exact lv_dup2_11 hx hb hd rfl rfl (kk ad H LS locs (hr'.st kp))
  | iadd => obtain ⟨hd, hl⟩ := hok; cases one hl; obtain ⟨x, y, st', rfl, rfl⟩ := x_ii_inv ha; exact lv_iadd hx hb hd (kk ad H LS locs (hr'.st kp))
  | isub => obtain ⟨hd, hl⟩ := hok; cases one hl; obtain ⟨x, y, st', rfl, rfl⟩ := x_ii_inv ha; exact lv_isub hx hb hd (kk ad H LS locs (hr'.st kp))
  | imul => obtain ⟨hd, hl⟩ := hok; cases one hl; obtain ⟨x, y, st', rfl, rfl⟩ := x_ii_inv ha; exact lv_imul hx hb hd (kk ad H LS locs (hr'.st kp))
  | iand => obtain ⟨hd, hl⟩ := hok; cases one hl; obtain ⟨x, y, st', rfl, rfl⟩ := x_ii_inv ha; exact lv_iand hx hb hd (kk ad H LS locs (hr'.st kp))
  | ior => obtain ⟨hd, hl⟩ := hok; cases one hl; obtain ⟨x, y, st', rfl, rfl⟩ := x_ii_inv ha; exact lv_ior hx hb hd (kk ad H LS locs (hr'.st kp))
  | ixor => obtain ⟨hd, hl⟩ := hok; cases one hl; obtain ⟨x, y, st', rfl, rfl⟩ := x_ii_inv ha; exact lv_ixor hx hb hd (kk ad H LS locs (hr'.st kp))
  | ishl => obtain ⟨hd, hl⟩ := hok; cases one hl; obtain ⟨x, y, st', rfl, rfl⟩ := x_ii_inv ha; exact lv_ishl hx hb hd (kk ad H LS locs (hr'.st kp))
  | ishr => obtain ⟨hd, hl⟩ := hok; cases one hl; obtain ⟨x, y, st', rfl, rfl⟩ := x_ii_inv ha; exact lv_ishr hx hb hd (kk ad H LS locs (hr'.st kp))
  | iushr => obtain ⟨hd, hl⟩ := hok; cases one hl; obtain ⟨x, y, st', rfl, rfl⟩ := x_ii_inv ha; exact lv_iushr hx hb hd rfl (kk ad H LS locs (hr'.st kp))
  | pop =>
    obtain ⟨idx, hd, rfl, w1, w2, w3, w4⟩ := hok
    obtain ⟨x, y, st', rfl, e⟩ := x_st_inv (f := fun x y st => if Nat.ble st.length 4 = true then x_go (pc + 3) ls (.int (if x < y then y else x) :: st) h else none) ha
    obtain ⟨g, e⟩ := x_grd_inv e
    cases x_go_inv e
    exact va_mmax hx hb (hml.trans (hnL.symm.trans hL.1.symm)) hown (hts _ w1) (hts _ w2) (hts _ w3) (hts _ w4) hR1 (by have := x_short ad g; omega) hc hs hd (kk ad H LS locs (hr'.st kp))
  | pop2 =>
    obtain ⟨idx, hd, rfl, w1, w2, w3, w4⟩ := hok
    obtain ⟨x, y, st', rfl, e⟩ := x_st_inv (f := fun x y st => if Nat.ble st.length 4 = true then x_go (pc + 3) ls (.int (if y < x then y else x) :: st) h else none) ha
    obtain ⟨g, e⟩ := x_grd_inv e
    cases x_go_inv e
    exact va_mmin hx hb (hml.trans (hnL.symm.trans hL.1.symm)) hown (hts _ w1) (hts _ w2) (hts _ w3) (hts _ w4) hR1 (by have := x_short ad g; omega) hc hs hd (kk ad H LS locs (hr'.st kp))
  | idiv =>
    obtain ⟨hd, hl⟩ := hok
    cases one hl
    obtain ⟨x, y, st', rfl, e⟩ := x_st_inv (f := fun x y st => if ¬ y = 0 then x_go (pc + 1) ls (.int (x / y) :: st) h else none) ha
    obtain ⟨g, e⟩ := x_grd_inv e
    cases x_go_inv e
    exact lv_idiv hx hb hd g (kk ad H LS locs (hr'.st kp))
  | irem =>
    obtain ⟨hd, hl⟩ := hok
    cases one hl
    obtain ⟨x, y, st', rfl, e⟩ := x_st_inv (f := fun x y st => if ¬ y = 0 then x_go (pc + 1) ls (.int (x - x / y * y) :: st) h else none) ha
    obtain ⟨g, e⟩ := x_grd_inv e
    cases x_go_inv e
    exact lv_irem hx hb hd g (kk ad H LS locs (hr'.st kp))
  | ladd => obtain ⟨hd, hl⟩ := hok; cases one hl; obtain ⟨x, y, st', rfl, rfl⟩ := x_ll_inv ha; exact lv_ladd hx hb hd (kk ad H LS locs (hr'.st kp))
  | lmul => obtain ⟨hd, hl⟩ := hok; cases one hl; obtain ⟨x, y, st', rfl, rfl⟩ := x_ll_inv ha; exact lv_lmul hx hb hd (kk ad H LS locs (hr'.st kp))
  | land => obtain ⟨hd, hl⟩ := hok; cases one hl; obtain ⟨x, y, st', rfl, rfl⟩ := x_ll_inv ha; exact lv_land hx hb hd (kk ad H LS locs (hr'.st kp))
  | ldiv =>
    obtain ⟨hd, hl⟩ := hok
    cases one hl
    obtain ⟨x, y, st', rfl, e⟩ := x_stl_inv2 (f := fun x y st => if ¬ y = 0 then x_go (pc + 1) ls (.long (x / y) :: st) h else none) ha
    obtain ⟨g, e⟩ := x_grd_inv e
    cases x_go_inv e
    exact lv_ldiv hx hb hd g (kk ad H LS locs (hr'.st kp))
  | lrem =>
    obtain ⟨hd, hl⟩ := hok
    cases one hl
    obtain ⟨x, y, st', rfl, e⟩ := x_stl_inv2 (f := fun x y st => if ¬ y = 0 then x_go (pc + 1) ls (.long (x - x / y * y) :: st) h else none) ha
    obtain ⟨g, e⟩ := x_grd_inv e
    cases x_go_inv e
    exact lv_lrem hx hb hd g (kk ad H LS locs (hr'.st kp))
  | i2l =>
    obtain ⟨hd, hl⟩ := hok
    cases one hl
    obtain ⟨x, st', rfl, e⟩ := x_i_inv (f := fun x st => x_go (pc + 1) ls (.long x.toInt64 :: st) h) ha
    cases x_go_inv e
    exact lv_i2l hx hb hd rfl (kk ad H LS locs (hr'.st kp))
  | l2i =>
    obtain ⟨hd, hl⟩ := hok
    cases one hl
    obtain ⟨x, st', rfl, e⟩ := x_l_inv (f := fun x st => x_go (pc + 1) ls (.int x.toInt32 :: st) h) ha
    cases x_go_inv e
    exact lv_l2i hx hb hd rfl (kk ad H LS locs (hr'.st kp))
  | lcmp =>
    obtain ⟨hd, hl⟩ := hok
    cases one hl
    obtain ⟨x, y, st', rfl, e⟩ := x_stl_inv2 (f := fun x y st => x_go (pc + 1) ls (.int (lg_cmp x y) :: st) h) ha
    cases x_go_inv e
    exact W.lcmp hx hb hd (kk ad H LS locs (hr'.st kp))
  | goto off =>
    obtain ⟨hd, hl⟩ := hok
    obtain ⟨hl, ho⟩ := Bool.and_eq_true_iff.mp hl
    cases one hl
    cases x_go_inv ha
    exact lv_goto hx hb hd (x_tg_eq (of_decide_eq_true ho)) (kk ad H LS locs (hr'.st kp))
  | ifCond cd off =>
    obtain ⟨hd, hl⟩ := hok
    obtain ⟨hl, ho⟩ := Bool.and_eq_true_iff.mp hl
    cases one hl
    have ht := x_tg_eq (of_decide_eq_true ho)
    match st, cd, hd, ha, hr', r10, kp with
    | .int x :: st, .eq, hd, ha, hr', r10, kp => cases x_go_inv ha; have K := kk ad H LS locs (hr'.st kp); exact lv_if_eq hx hb hd ht (fun z => by simp only [if_pos z] at K; exact K) (fun z => by simp only [if_neg z] at K; exact K)
    | .int x :: st, .ne, hd, ha, hr', r10, kp => cases x_go_inv ha; have K := kk ad H LS locs (hr'.st kp); exact lv_if_ne hx hb hd ht (fun z => by simp only [if_neg z] at K; exact K) (fun z => by simp only [if_pos z] at K; exact K)
    | .int x :: st, .lt, hd, ha, hr', r10, kp => cases x_go_inv ha; have K := kk ad H LS locs (hr'.st kp); exact lv_if_lt hx hb hd ht (fun z => by simp only [if_pos z] at K; exact K) (fun z => by simp only [if_neg z] at K; exact K)
    | .int x :: st, .ge, hd, ha, hr', r10, kp => cases x_go_inv ha; have K := kk ad H LS locs (hr'.st kp); exact lv_if_ge hx hb hd ht (fun z => by simp only [if_pos z] at K; exact K) (fun z => by simp only [if_neg z] at K; exact K)
    | .int x :: st, .gt, hd, ha, hr', r10, kp => cases x_go_inv ha; have K := kk ad H LS locs (hr'.st kp); exact lv_if_gt hx hb hd ht (fun z => by simp only [if_pos z] at K; exact K) (fun z => by simp only [if_neg z] at K; exact K)
    | .int x :: st, .le, hd, ha, hr', r10, kp => cases x_go_inv ha; have K := kk ad H LS locs (hr'.st kp); exact lv_if_le hx hb hd ht (fun z => by simp only [if_pos z] at K; exact K) (fun z => by simp only [if_neg z] at K; exact K)
  | if_icmp cd off =>
    obtain ⟨hd, hl⟩ := hok
    obtain ⟨hl, ho⟩ := Bool.and_eq_true_iff.mp hl
    cases one hl
    have ht := x_tg_eq (of_decide_eq_true ho)
    match st, cd, hd, ha, hr', r10, kp with
    | .int y :: .int x :: st, .eq, hd, ha, hr', r10, kp => cases x_go_inv ha; have K := kk ad H LS locs (hr'.st kp); exact lv_icmp_eq hx hb hd ht (fun z => by simp only [if_pos z] at K; exact K) (fun z => by simp only [if_neg z] at K; exact K)
    | .int y :: .int x :: st, .ne, hd, ha, hr', r10, kp => cases x_go_inv ha; have K := kk ad H LS locs (hr'.st kp); exact lv_icmp_ne hx hb hd ht (fun z => by simp only [if_neg z] at K; exact K) (fun z => by simp only [if_pos z] at K; exact K)
    | .int y :: .int x :: st, .lt, hd, ha, hr', r10, kp => cases x_go_inv ha; have K := kk ad H LS locs (hr'.st kp); exact lv_icmp_lt hx hb hd ht (fun z => by simp only [if_pos z] at K; exact K) (fun z => by simp only [if_neg z] at K; exact K)
    | .int y :: .int x :: st, .ge, hd, ha, hr', r10, kp => cases x_go_inv ha; have K := kk ad H LS locs (hr'.st kp); exact lv_icmp_ge hx hb hd ht (fun z => by simp only [if_pos z] at K; exact K) (fun z => by simp only [if_neg z] at K; exact K)
    | .int y :: .int x :: st, .gt, hd, ha, hr', r10, kp => cases x_go_inv ha; have K := kk ad H LS locs (hr'.st kp); exact lv_icmp_gt hx hb hd ht (fun z => by simp only [if_pos z] at K; exact K) (fun z => by simp only [if_neg z] at K; exact K)
    | .int y :: .int x :: st, .le, hd, ha, hr', r10, kp => cases x_go_inv ha; have K := kk ad H LS locs (hr'.st kp); exact lv_icmp_le hx hb hd ht (fun z => by simp only [if_pos z] at K; exact K) (fun z => by simp only [if_neg z] at K; exact K)
  | tableswitch dflt lo hi offs =>
    obtain ⟨hd, hl⟩ := hok
    obtain ⟨h1, h2⟩ := Bool.and_eq_true_iff.mp hl
    obtain ⟨x, st', rfl, e⟩ := x_i_inv (f := fun x st => if x.toInt < lo ∨ hi < x.toInt then x_go (x_tg pc dflt) ls st h else match offs[(x.toInt - lo).toNat]? with
      | some off => x_go (x_tg pc off) ls st h
      | none => none) ha
    split at e
    · rename_i z
      cases x_go_inv e
      exact lv_tableOut hx hb hd z (x_tg_eq (of_decide_eq_true h1)) (kk ad H LS locs (hr'.st kp))
    · rename_i z
      split at e
      · rename_i off g
        cases x_go_inv e
        exact lv_tableIn hx hb hd (fun w => z (Or.inl w)) (fun w => z (Or.inr w)) g (x_tg_eq (of_decide_eq_true (List.all_eq_true.mp h2 off (Array.mem_toList_iff.mpr (Array.mem_of_getElem? g))))) (kk ad H LS locs (hr'.st kp))
      · cases e
  | lookupswitch dflt ps =>
    obtain ⟨hd, hl⟩ := hok
    obtain ⟨h1, h2⟩ := Bool.and_eq_true_iff.mp hl
    obtain ⟨h2, h3⟩ := Bool.and_eq_true_iff.mp h2
    obtain ⟨x, st', rfl, e⟩ := x_i_inv (f := fun x st => x_go (x_tg pc (Op.lookupswitch.offset ps.toList dflt x.toInt)) ls st h) ha
    cases x_go_inv e
    exact lv_lookup hx hb hd h3 rfl (x_tg_eq (x_off_in ps.toList dflt x.toInt (fun o => 0 ≤ (pc : Int) + o) (of_decide_eq_true h1) (fun q hq => of_decide_eq_true (List.all_eq_true.mp h2 q hq)))) (kk ad H LS locs (hr'.st kp))
  | ireturn => unfold x_act at ha; dsimp only at ha; split at ha <;> cases ha
  | areturn =>
    unfold x_act at ha
    dsimp only at ha
    split at ha
    · split at ha <;> cases ha
    · cases ha
  | return_ => unfold x_act at ha; dsimp only at ha; split at ha <;> cases ha
  | getfield z =>
    obtain ⟨idx, C, T, N, hd, rfl, hcl, hk, hw⟩ := hok
    obtain ⟨q, st', rfl, e⟩ := x_a_inv (f := fun q st => (x_fld h q (z / 64) (z % 64)).map (fun v => .inl (pc + 3, ls, v :: st, h))) ha
    obtain ⟨v, e1, e2⟩ := x_map_inv e
    cases e2
    obtain ⟨fs, g1, g2⟩ := x_fld_inv e1
    obtain ⟨c1, c2, c3, c4, c5⟩ := x_cl_ok hcl
    exact va_get (D := D) hx hb hts c1 hown hK hP q (x_W_get g1) hcl (z % 64) hk (hts _ hw) (fun _ h9 => h9) (v := x_v ad v) (by rw [List.getElem?_map, g2]; rfl) hd (kk ad H LS locs (hr'.st kp))
  | putfield z =>
    obtain ⟨idx, C, T, N, hd, rfl, ⟨hcl, hk, hw⟩, hfin⟩ := hok
    obtain ⟨v, q, st', rfl, e⟩ := x_va_inv (f := fun v q st => if x_fok (x_ty (z / 64) (z % 64)) v = true then (x_pfd h q (z / 64) (z % 64) v).map (fun h' => .inl (pc + 3, ls, st, h')) else none) ha
    obtain ⟨hf, e⟩ := x_grd_inv e
    obtain ⟨h', e1, e2⟩ := x_map_inv e
    cases e2
    obtain ⟨fs, g1, g2, rfl⟩ := x_pfd_inv e1
    obtain ⟨c1, c2, c3, c4, c5⟩ := x_cl_ok hcl
    obtain ⟨n1, n2⟩ := x_fok_ok ad hf
    refine va_put (D := D) hx hb hts c1 (x_ty (z / 64)) c2 c3 hown hK hP hD hS q (x_W_get g1) hcl (z % 64) hk (hts _ hw) (fun _ h9 => h9) hfin (c2 _ hk) n1 n2 (by simpa using g2) hd (fun H1 locs1 hP1 hD1 hS1 => ?_)
    have ew : (x_W cA ad h).set q (ad q, .inr (z / 64, (fs.map (x_v ad)).set (z % 64) (x_v ad v))) = x_W cA ad (x_set h q (.inr (z / 64, fs.set (z % 64) v))) := by
      rw [← x_W_set]
      show _ = List.set _ q (ad q, Sum.inr (z / 64, List.map (x_v ad) _))
      rw [List.map_set]
    rw [ew] at hP1 hD1
    exact kk ad H1 LS locs1 (hr'.to kp hP1 hD1 hS1 hL)
  | putstatic z =>
    obtain ⟨idx, C, T, N, hd, rfl, ⟨hcl, hk, hw⟩, hfin, hin, hdecl⟩ := hok
    obtain ⟨v, q, st', rfl, e⟩ := x_va_inv (f := fun v q st => if x_fok (x_ty (z / 64) (z % 64)) v = true then (x_pfd h q (z / 64) (z % 64) v).map (fun h' => .inl (pc + 3, ls, st, h')) else none) ha
    obtain ⟨hf, e⟩ := x_grd_inv e
    obtain ⟨h', e1, e2⟩ := x_map_inv e
    cases e2
    obtain ⟨fs, g1, g2, rfl⟩ := x_pfd_inv e1
    obtain ⟨c1, c2, c3, c4, c5⟩ := x_cl_ok hcl
    obtain ⟨n1, n2⟩ := x_fok_ok ad hf
    refine va_putF (D := D) hx hb hts c1 (x_ty (z / 64)) c2 c3 hown hK hP hD hS q (x_W_get g1) hcl (z % 64) hk (hts _ hw) (fun _ h9 => h9) hfin (hnm.trans hin) hdecl (c2 _ hk) n1 n2 (by simpa using g2) hd (fun H1 locs1 hP1 hD1 hS1 => ?_)
    have ew : (x_W cA ad h).set q (ad q, .inr (z / 64, (fs.map (x_v ad)).set (z % 64) (x_v ad v))) = x_W cA ad (x_set h q (.inr (z / 64, fs.set (z % 64) v))) := by
      rw [← x_W_set]
      show _ = List.set _ q (ad q, Sum.inr (z / 64, List.map (x_v ad) _))
      rw [List.map_set]
    rw [ew] at hP1 hD1
    exact kk ad H1 LS locs1 (hr'.to kp hP1 hD1 hS1 hL)
  | iaload =>
    obtain ⟨hd, hl⟩ := hok
    cases one hl
    obtain ⟨v, q, st', rfl, e⟩ := x_ia_inv (f := fun i q st => (x_ild h q 0 i).map (fun x => .inl (pc + 1, ls, .int x :: st, h))) ha
    obtain ⟨x, e1, e2⟩ := x_map_inv e
    cases e2
    obtain ⟨n, f, g1, g2, rfl⟩ := x_ild_inv e1
    exact va_iald hx hb hK hP q 0 (x_W_get g1) rfl g2 hd (kk ad H LS locs (hr'.st kp))
  | baload =>
    obtain ⟨hd, hl⟩ := hok
    cases one hl
    obtain ⟨v, q, st', rfl, e⟩ := x_ia_inv (f := fun i q st => (x_ild h q 2 i).map (fun x => .inl (pc + 1, ls, .int x :: st, h))) ha
    obtain ⟨x, e1, e2⟩ := x_map_inv e
    cases e2
    obtain ⟨n, f, g1, g2, rfl⟩ := x_ild_inv e1
    exact va_zald hx hb hK hP q 2 (x_W_get g1) rfl g2 hd (kk ad H LS locs (hr'.st kp))
  | laload =>
    obtain ⟨hd, hl⟩ := hok
    cases one hl
    obtain ⟨v, q, st', rfl, e⟩ := x_ia_inv (f := fun i q st => (x_lld h q i).map (fun x => .inl (pc + 1, ls, .long x :: st, h))) ha
    obtain ⟨x, e1, e2⟩ := x_map_inv e
    cases e2
    obtain ⟨n, f, g1, g2, rfl⟩ := x_lld_inv e1
    exact va_lald hx hb hK hP q 1 (x_W_get g1) rfl g2 hd (kk ad H LS locs (hr'.st kp))
  | iastore =>
    obtain ⟨hd, hl⟩ := hok
    cases one hl
    obtain ⟨x, j, q, st', rfl, e⟩ := x_iia_inv (f := fun x i q st => (x_ist h q 0 i x).map (fun h' => .inl (pc + 1, ls, st, h'))) ha
    obtain ⟨h', e1, e2⟩ := x_map_inv e
    cases e2
    obtain ⟨n, f, g1, g2, rfl⟩ := x_ist_inv e1
    refine va_iast hx hb hK hP hD hS q 0 (x_W_get g1) rfl g2 hd (fun H1 locs1 hP1 hD1 hS1 => ?_)
    have ew : (x_W cA ad h).set q (ad q, .inl (cA 0, n, .inl (upd f j.toNatClampNeg x))) = x_W cA ad (x_set h q (.inl (0, n, .inl (upd f j.toNatClampNeg x)))) := x_W_set (c := .inl (0, n, .inl (upd f j.toNatClampNeg x)))
    rw [ew] at hP1 hD1
    exact kk ad H1 LS locs1 (hr'.to kp hP1 hD1 hS1 hL)
  | bastore =>
    obtain ⟨hd, hl⟩ := hok
    cases one hl
    obtain ⟨x, j, q, st', rfl, e⟩ := x_iia_inv (f := fun x i q st => (x_ist h q 2 i (vp_nar .boolean x)).map (fun h' => .inl (pc + 1, ls, st, h'))) ha
    obtain ⟨h', e1, e2⟩ := x_map_inv e
    cases e2
    obtain ⟨n, f, g1, g2, rfl⟩ := x_ist_inv e1
    refine va_zast hx hb hK hP hD hS q 2 (x_W_get g1) rfl g2 hd (fun H1 locs1 hP1 hD1 hS1 => ?_)
    have ew : (x_W cA ad h).set q (ad q, .inl (cA 2, n, .inl (upd f j.toNatClampNeg (vp_nar .boolean x)))) = x_W cA ad (x_set h q (.inl (2, n, .inl (upd f j.toNatClampNeg (vp_nar .boolean x))))) := x_W_set (c := .inl (2, n, .inl (upd f j.toNatClampNeg (vp_nar .boolean x))))
    rw [ew] at hP1 hD1
    exact kk ad H1 LS locs1 (hr'.to kp hP1 hD1 hS1 hL)
  | lastore =>
    obtain ⟨hd, hl⟩ := hok
    cases one hl
    obtain ⟨x, j, q, st', rfl, e⟩ := x_lia_inv (f := fun x i q st => (x_lst h q i x).map (fun h' => .inl (pc + 1, ls, st, h'))) ha
    obtain ⟨h', e1, e2⟩ := x_map_inv e
    cases e2
    obtain ⟨n, f, g1, g2, rfl⟩ := x_lst_inv e1
    refine va_last hx hb hK hP hD hS q 1 (x_W_get g1) rfl g2 hd (fun H1 locs1 hP1 hD1 hS1 => ?_)
    have ew : (x_W cA ad h).set q (ad q, .inl (cA 1, n, .inr (.inl (vp_updL f j.toNatClampNeg x)))) = x_W cA ad (x_set h q (.inl (1, n, .inr (.inl (vp_updL f j.toNatClampNeg x))))) := x_W_set (c := .inl (1, n, .inr (.inl (vp_updL f j.toNatClampNeg x))))
    rw [ew] at hP1 hD1
    exact kk ad H1 LS locs1 (hr'.to kp hP1 hD1 hS1 hL)
  | arraylength =>
    obtain ⟨hd, hl⟩ := hok
    cases one hl
    obtain ⟨q, st', rfl, e⟩ := x_a_inv (f := fun q st => (x_len h q).map (fun n => .inl (pc + 1, ls, .int (Int32.ofNat n) :: st, h))) ha
    obtain ⟨n, e1, e2⟩ := x_map_inv e
    cases e2
    obtain ⟨t, f, ht, g1⟩ := x_len_inv e1
    have K := kk ad H LS locs (hr'.st kp)
    match t, ht, g1 with
    | 0, _, g1 => exact va_alen hx hb hK hP q 0 (x_W_get g1) (ty := .int) rfl rfl hd K
    | 1, _, g1 => exact va_alen hx hb hK hP q 1 (x_W_get g1) (ty := .long) rfl rfl hd K
    | 2, _, g1 => exact va_alen hx hb hK hP q 2 (x_W_get g1) (ty := .boolean) rfl rfl hd K
  | newarray t =>
    obtain ⟨hd, hl⟩ := hok
    cases one hl
    have eN : h.1 + 1 - n0 = h.1 - n0 + 1 := by omega
    have eW : ∀ w, h.2.1 + w - w0 = h.2.1 - w0 + w := fun w => by omega
    match st, t, hd, ha, hr', r10, kp with
    | .int n :: st, .int, hd, ha, hr', r10, kp =>
      obtain ⟨⟨g1, g2⟩, ha⟩ := x_grd_inv ha
      cases x_go_inv ha
      have hc : h.1 + 1 - n0 ≤ R.cells := hc
      have hs : h.2.1 + n.toNatClampNeg - w0 ≤ R.slots := hs
      rw [eN] at hc
      rw [eW] at hs
      refine va_newa (atype := .int) (a0 := (n.toNatClampNeg, .inl (fun _ => 0))) hx hb (hts _ x_ac_int) rfl hK hP hD hS hA (fun _ => rfl) g1 rfl (by show _ * 4 ≤ _; omega) hc hs hd (fun q cA' H1 hK1 hP1 hD1 hS1 => ?_)
      cases x_same_ty hK1 0 rfl (Or.inl rfl)
      have K := kk _ H1 LS locs (x_new_rel hr' kp hP1 hD1 hS1 rfl)
      have hu : ∀ i, i < h.1 → va_up ad h.1 q i = ad i := fun i hi => if_neg (Nat.ne_of_lt hi)
      rw [show List.map (x_v (va_up ad h.1 q)) (.ref h.1 :: st) = .ref q :: st.map (x_v ad) by
        rw [List.map_cons, x_vl_ext (x_wl_cons.mp r10).2 hu]; simp [x_v, va_up]] at K
      rw [← eN, ← eW]
      exact K
    | .int n :: st, .long, hd, ha, hr', r10, kp =>
      obtain ⟨⟨g1, g2⟩, ha⟩ := x_grd_inv ha
      cases x_go_inv ha
      have hc : h.1 + 1 - n0 ≤ R.cells := hc
      have hs : h.2.1 + n.toNatClampNeg - w0 ≤ R.slots := hs
      rw [eN] at hc
      rw [eW] at hs
      refine va_newa (atype := .long) (a0 := (n.toNatClampNeg, .inr (.inl (fun _ => 0)))) hx hb (hts _ x_ac_long) rfl hK hP hD hS hA (fun _ => rfl) g1 rfl (by show _ * 8 ≤ _; omega) hc hs hd (fun q cA' H1 hK1 hP1 hD1 hS1 => ?_)
      cases x_same_ty hK1 1 rfl (Or.inr (Or.inl rfl))
      have K := kk _ H1 LS locs (x_new_rel hr' kp hP1 hD1 hS1 rfl)
      have hu : ∀ i, i < h.1 → va_up ad h.1 q i = ad i := fun i hi => if_neg (Nat.ne_of_lt hi)
      rw [show List.map (x_v (va_up ad h.1 q)) (.ref h.1 :: st) = .ref q :: st.map (x_v ad) by
        rw [List.map_cons, x_vl_ext (x_wl_cons.mp r10).2 hu]; simp [x_v, va_up]] at K
      rw [← eN, ← eW]
      exact K
    | .int n :: st, .boolean, hd, ha, hr', r10, kp =>
      obtain ⟨⟨g1, g2⟩, ha⟩ := x_grd_inv ha
      cases x_go_inv ha
      have hc : h.1 + 1 - n0 ≤ R.cells := hc
      have hs : h.2.1 + n.toNatClampNeg - w0 ≤ R.slots := hs
      rw [eN] at hc
      rw [eW] at hs
      refine va_newa (atype := .boolean) (a0 := (n.toNatClampNeg, .inl (fun _ => 0))) hx hb (hts _ x_ac_boolean) rfl hK hP hD hS hA (fun _ => rfl) g1 rfl (by show _ * 1 ≤ _; omega) hc hs hd (fun q cA' H1 hK1 hP1 hD1 hS1 => ?_)
      cases x_same_ty hK1 2 rfl (Or.inr (Or.inr rfl))
      have K := kk _ H1 LS locs (x_new_rel hr' kp hP1 hD1 hS1 rfl)
      have hu : ∀ i, i < h.1 → va_up ad h.1 q i = ad i := fun i hi => if_neg (Nat.ne_of_lt hi)
      rw [show List.map (x_v (va_up ad h.1 q)) (.ref h.1 :: st) = .ref q :: st.map (x_v ad) by
        rw [List.map_cons, x_vl_ext (x_wl_cons.mp r10).2 hu]; simp [x_v, va_up]] at K
      rw [← eN, ← eW]
      exact K
    | .int n :: st, .char, hd, ha, hr', r10, kp => cases (x_grd_inv ha).2
    | .int n :: st, .float, hd, ha, hr', r10, kp => cases (x_grd_inv ha).2
    | .int n :: st, .double, hd, ha, hr', r10, kp => cases (x_grd_inv ha).2
    | .int n :: st, .byte, hd, ha, hr', r10, kp => cases (x_grd_inv ha).2
    | .int n :: st, .short, hd, ha, hr', r10, kp => cases (x_grd_inv ha).2
  | new ci =>
    obtain ⟨idx, C, T, N, hd, rfl, hcl, hw⟩ := hok
    unfold x_act at ha
    dsimp only at ha
    rw [hcl] at ha
    dsimp only at ha
    cases x_go_inv ha
    obtain ⟨c1, c2, c3, c4, c5⟩ := x_cl_ok hcl
    have eN : h.1 + 1 - n0 = h.1 - n0 + 1 := by omega
    have eW : h.2.1 + N - w0 = h.2.1 - w0 + N := by omega
    have hc : h.1 + 1 - n0 ≤ R.cells := hc
    have hs : h.2.1 + N - w0 ≤ R.slots := hs
    rw [eN] at hc
    rw [eW] at hs
    refine va_new (D := D) (fs := (List.range N).map (fun k => defaultValue (x_ty ci k))) hx hb hts c1 (x_ty ci) c2 hown (hts _ hw) (hts _ c4) (hts _ c5) hK hP hD hS hA hcl (fun j hj => by simp [vp_V, List.getD, hj]) hc hs hd (fun q H1 hP1 hD1 hS1 => ?_)
    have K := kk _ H1 LS locs (x_new_rel hr' kp hP1 hD1 hS1 (by
      show Sum.inr (ci, List.map _ (List.map _ _)) = _
      rw [List.map_map]
      congr 2
      apply List.map_congr_left
      intro k _
      exact x_v_def _ _))
    have hu : ∀ i, i < h.1 → va_up ad h.1 q i = ad i := fun i hi => if_neg (Nat.ne_of_lt hi)
    rw [show List.map (x_v (va_up ad h.1 q)) (.ref h.1 :: st) = .ref q :: st.map (x_v ad) by
      rw [List.map_cons, x_vl_ext r10 hu]; simp [x_v, va_up]] at K
    rw [← eN, ← eW]
    exact K
  | invokespecial z =>
    obtain ⟨idx, hd, rfl, hw⟩ := hok
    obtain ⟨q, st', rfl, e⟩ := x_a_inv (f := fun q st => if Nat.ble st.length 4 = true then x_go (pc + 3) ls st h else none) ha
    obtain ⟨g, e⟩ := x_grd_inv e
    cases x_go_inv e
    refine W.objInit hx hb hown (hts _ hw) (hts _ x_oi1) (hts _ x_oi2) rfl (hL.1.trans (hnL.trans hml.symm)) (rest := st'.map (x_v ad)) rfl hd hR1 (by
      have := x_short ad g
      show 2 * 0 + _ + 12 ≤ _
      omega) ?_
    exact W.eq (g2 := F0 m (pc + 3) LS (st'.map (x_v ad))) rfl (kk ad H LS locs (hr'.st kp))
  | invokeinterface mi z =>
    have := (x_grd_inv (c := x_cok z st h = true) (a := some (.inr (.inl (mi, (st.take (x_cn z)).reverse, pc + len, ls, st.drop (x_cn z))))) ha).2
    cases this
  | _ => cases (show (none : Option x_A) = some (.inl k) from ha)
end XSTEP
end
section
/-! WHOLE RUNS: a run of the small machine is a contract of the method -/
def x_ws (M : x_M) : List Cond := Cond.code M.1 M.2.1 M.2.2.1 M.2.2.2.1 :: x_tb
def x_rm (d mc ms : Nat) : Room := { frames := d + 1, cells := mc, slots := ms, locals := 64 * (d + 1) }
/-- what a method's table must hold -/
def x_J (P : Nat → x_M) (M : x_M) : Prop := plainName M.1.cls = true ∧ Cond.code M.1 M.2.1 M.2.2.1 M.2.2.2.1 ∈ x_tb ∧ Cond.initialized M.1.cls ∈ x_tb ∧ M.2.2.1 ≤ 30 ∧ ∀ pc i len, x_lk M.2.2.2.2 pc = some (i, len) → x_ok P M pc i len
def x_Pc (D : va_G) (cA : Nat → ClassId) (ad : Nat → Nat) (as : List Value) (h : x_H) (sz : Nat) : Array Value → State → Prop := va_Pc (as.map (x_v ad)) (fun U => U.heap.size = sz ∧ va_P D x_cl (x_W cA ad h) U.heap ∧ va_K D x_cl (x_tys cA) U ∧ x_NW U ∧ va_D (fun _ => True) (x_W cA ad h))
def x_Qc (D : va_G) (cA : Nat → ClassId) (ad : Nat → Nat) (n0 : Nat) (r : Option Value × x_H) (A : Nat → Prop) : Array Value → State → Outcome → State → Prop := fun _ st oc t =>
  (∃ ad', (∀ i, i < n0 → ad' i = ad i) ∧ oc = .returned (r.1.map (x_v ad')) ∧ va_P D x_cl (x_W cA ad' r.2) t.heap ∧ va_K D x_cl (x_tys cA) t ∧ va_D A (x_W cA ad' r.2)) ∧ va_F A st t
theorem x_ev_keep (P : Nat → x_M) : ∀ (n d : Nat) (cd : x_Cd) (pc : Nat) (ls st : List Value) (h : x_H) (r : Option Value × x_H), x_ev P n d cd pc ls st h = some r → x_wl h.1 ls → x_wl h.1 st → x_wh h → x_wh r.2 ∧ h.1 ≤ r.2.1 ∧ h.2.1 ≤ r.2.2.1 ∧ (r.1 = none ∨ ∃ x, r.1 = some (.int x)) := by
  intro n
  induction n with
  | zero => intro d cd pc ls st h r hr; simp [x_ev] at hr
  | succ n ih =>
    intro d cd pc ls st h r hr hl hs hw
    rw [x_ev] at hr
    cases hi : x_lk cd pc with
    | none => rw [hi] at hr; simp at hr
    | some il =>
      obtain ⟨i, len⟩ := il
      rw [hi, Option.bind_some] at hr
      dsimp only at hr
      generalize ha : x_act i len pc ls st h = o at hr
      match o, ha, hr with
      | none, ha, hr => simp at hr
      | some (.inl k), ha, hr =>
        obtain ⟨k1, k2, k3, k4, k5, k6⟩ := x_act_kp ha hl hs hw
        obtain ⟨r1, r2, r3, r4⟩ := ih _ _ _ _ _ _ _ hr k1 k2 k3
        exact ⟨r1, Nat.le_trans k4 r2, Nat.le_trans k5 r3, r4⟩
      | some (.inr (.inl (mi, as, pc', ls', st'))), ha, hr =>
        obtain ⟨z, rfl, hck, rfl, rfl, rfl, rfl⟩ := x_act_call ha
        match d, hr with
        | 0, hr => simp at hr
        | d' + 1, hr =>
          dsimp only at hr
          have hsa : x_wl h.1 (st.take (x_cn z)).reverse := fun v hv => hs v (List.mem_of_mem_take (List.mem_reverse.mp hv))
          have hsd : x_wl h.1 (st.drop (x_cn z)) := fun v hv => hs v (List.mem_of_mem_drop hv)
          cases hc : x_ev P n d' (P mi).2.2.2.2 0 (x_ent (st.take (x_cn z)).reverse (P mi).2.2.1) [] h with
          | none => rw [hc] at hr; simp at hr
          | some r1 =>
            rw [hc] at hr
            obtain ⟨c1, c2, c3, c4⟩ := ih _ _ _ _ _ _ _ hc (x_wl_ent hsa _) x_wl_nil hw
            have hv : x_wl r1.2.1 (r1.1.toList ++ st.drop (x_cn z)) := by
              refine x_wl_app ?_ (x_wl_le c2 hsd)
              rcases c4 with e | ⟨x, e⟩ <;> rw [e]
              · exact x_wl_nil
              · exact x_wl_cons.mpr ⟨x_wv_int _ _, x_wl_nil⟩
            obtain ⟨r1', r2, r3, r4⟩ := ih _ _ _ _ _ _ _ hr (x_wl_le c2 hl) hv c1
            exact ⟨r1', Nat.le_trans c2 r2, Nat.le_trans c3 r3, r4⟩
      | some (.inr (.inr v)), ha, hr =>
        cases hr
        refine ⟨hw, Nat.le_refl _, Nat.le_refl _, ?_⟩
        rcases x_act_ret ha with ⟨-, -, e⟩ | ⟨x, -, -, e⟩
        · exact Or.inl e
        · exact Or.inr ⟨x, e⟩
section XRUN
variable {P : Nat → x_M} {M : x_M} {p : Program} {l : Launch} {e : Env} {R : Room} {s : State} {m : MethodId} {args : Array Value} {below : List Frame} {meth : Method} {c : Code} {D : va_G} {cA : Nat → ClassId} {A : Nat → Prop} {Q : State → Prop} {n0 w0 : Nat} {ad0 : Nat → Nat}
theorem x_run {pc : Nat} {LS : Array Slot} {rest st0 : List Value} {a : Array Value} {H H0 : Heap} {locs : List Loc} {A1 : Nat → Prop} {cells slots mc ms : Nat} {ad : Nat → Nat} {n1 : Nat} {r : Option Value × x_H}
    (hr : va_Run p l e R s m args below meth c H locs cells slots mc ms (F0 m pc LS st0) rest (x_Qc D cA ad n1 r A1 a) A1) (hS : va_S A H0 H locs) (hA : ∀ q, A1 q → A q)
    (kk : ∀ (ad' : Nat → Nat) (H1 : Heap) (locs1 : List Loc), (∀ i, i < n1 → ad' i = ad i) → va_P D x_cl (x_W cA ad' r.2) H1 → va_D A (x_W cA ad' r.2) → va_S A H0 H1 locs1 → W p l e R s m args below meth c H1 locs1 (cells + mc) (slots + ms) Q (F0 m (pc + 3) LS ((r.1.map (x_v ad')).toList ++ rest))) : W p l e R s m args below meth c H locs cells slots Q (F0 m pc LS st0) := by
  intro T hT X
  obtain ⟨v, st₀, t, T', L, h0, X', hL, e1, e2, ⟨⟨ad', g1, hv, g2, g3, g4⟩, hz, hk⟩, st⟩ := hr T hT X
  cases hv
  rw [h0] at hz hk
  obtain ⟨t2, a1, b1⟩ := kk ad' T'.heap (locs ++ L) g1 (by rw [e1]; exact g2) (g4.weaken (fun _ _ _ h => hA _ h))
    ⟨Nat.le_trans hS.1 (by rw [e1]; exact hz), fun q h1 h2 => by rw [e1, hk q (Nat.lt_of_lt_of_le h1 hS.1) (fun z => h2 (hA q z))]; exact hS.2.1 q h1 h2, fun q hq => by
      rcases List.mem_append.mp hq with h | h
      · exact hS.2.2 q h
      · exact hA _ (hL q h)⟩ T' rfl X'
  exact ⟨t2, st t2 a1, b1⟩
theorem x_good (M : x_M) (h : Cond.code M.1 M.2.1 M.2.2.1 M.2.2.2.1 ∈ x_tb) : GoodIn x_tb (x_ws M) := by
  intro w hw
  rcases List.mem_cons.mp hw with rfl | hw
  · exact ⟨h, good_of_word (List.mem_filter.mp h).2⟩
  · exact ⟨hw, good_of_word (List.mem_filter.mp hw).2⟩
theorem x_blind {ad : Nat → Nat} {as : List Value} {h : x_H} {sz : Nat} : FrameBlind (x_Pc D cA ad as h sz) := by
  intro a U g mk ⟨h0, h1, h2, h3, h4, h5⟩
  exact ⟨h0, h1, h2, va_K.moved (u := U) (U := U.calling g mk a) (Vm.Alike.refl U.vm) h3, x_NW.same (u := U) (U := U.calling g mk a) rfl h4, h5⟩
set_option maxHeartbeats 4000000 in
/-- the call of a method whose contract is known -/
theorem x_call {d mi z len pc nL : Nat} {ls st : List Value} {h : x_H} {ad : Nat → Nat} {H : Heap} {LS : Array Slot} {locs : List Loc} {r : Option Value × x_H} {cells slots : Nat} (F : x_Fx M p s m meth c args D cA) (hnL : nL = M.2.2.1) (hA : ∀ q, s.heap.size ≤ q → A q) (J : x_J P (P mi))
    (hM : Met l (P mi).1 (x_ws (P mi)) (x_rm d (r.2.1 - h.1) (r.2.2.1 - h.2.1)) (x_Pc D cA ad (st.take (x_cn z)).reverse h H.size) (x_Qc D cA ad h.1 r (va_A (x_W cA ad h) H.size)) (r.2.1 - h.1) (r.2.2.1 - h.2.1) (va_A (x_W cA ad h) H.size))
    (hR1 : d + 2 ≤ R.frames) (hR2 : 64 * (d + 2) ≤ R.locals)
    (hok : x_okc P M pc mi z len) (hck : x_cok z st h = true) (hr : x_Rel D cA A n0 w0 ad0 s.heap nL ad H LS locs ls st h) (hc : cells + (r.2.1 - h.1) ≤ R.cells) (hs : slots + (r.2.2.1 - h.2.1) ≤ R.slots)
    (kk : ∀ (ad' : Nat → Nat) (H1 : Heap) (locs1 : List Loc), (∀ i, i < h.1 → ad' i = ad i) → va_P D x_cl (x_W cA ad' r.2) H1 → va_D A (x_W cA ad' r.2) → va_S A s.heap H1 locs1 → W p l e R s m args below meth c H1 locs1 (cells + (r.2.1 - h.1)) (slots + (r.2.2.1 - h.2.1)) Q (F0 m (pc + len) LS ((r.1.map (x_v ad')).toList ++ (st.drop (x_cn z)).map (x_v ad)))) :
    W p l e R s m args below meth c H locs cells slots Q (F0 m pc LS (st.map (x_v ad))) := by
  obtain ⟨hx, hb, hml, hown, hts, hK, hN, hnm⟩ := F
  obtain ⟨r1, r2, r3, hP, hD, hS, hL, r8, r9, r10, r11⟩ := hr
  obtain ⟨J1, J2, J3, J4, J5⟩ := J
  obtain ⟨idx, n, rfl, hd, hz, hok⟩ := hok
  have hlsz : LS.size = M.2.2.1 := hL.1.trans hnL
  have hG := x_good (P mi) J2
  have hA1 : ∀ q, va_A (x_W cA ad h) H.size q → A q := by
    rintro q (⟨k, e, hk⟩ | hq)
    · exact hD.2 k (q, e) hk
    · exact hA q (Nat.le_trans hS.1 hq)
  have hrm : (x_rm d (r.2.1 - h.1) (r.2.2.1 - h.2.1)).frames + 1 ≤ R.frames ∧ 8 + ((P mi).2.2.1 + 11) + (x_rm d (r.2.1 - h.1) (r.2.2.1 - h.2.1)).locals ≤ R.locals := by
    refine ⟨?_, ?_⟩
    · show d + 1 + 1 ≤ _; omega
    · show 8 + (_ + 11) + 64 * (d + 1) ≤ _; omega
  unfold x_cok at hck
  obtain ⟨b1, hck⟩ := Bool.and_eq_true_iff.mp hck
  obtain ⟨b2, hck⟩ := Bool.and_eq_true_iff.mp hck
  obtain ⟨b3, hck⟩ := Bool.and_eq_true_iff.mp hck
  have hlen : x_cn z ≤ st.length := Nat.le_of_ble_eq_true b1
  have hshort := x_short ad b2
  have hpre : ∀ U : State, U.heap = H → s.WarmedH U.vm → x_Pc D cA ad (st.take (x_cn z)).reverse h H.size ((st.take (x_cn z)).reverse.map (x_v ad)).toArray U := fun U hU hW =>
    ⟨rfl, by rw [hU], by rw [hU]; exact hP, va_K.moved hW.alike hK, hN.warm hW, hD.weaken (fun _ _ _ _ => trivial)⟩
  have hst : st.map (x_v ad) = ((st.take (x_cn z)).reverse.map (x_v ad)).reverse ++ (st.drop (x_cn z)).map (x_v ad) := by
    rw [← List.map_reverse, List.reverse_reverse, ← List.map_append, List.take_append_drop]
  have hla : ((st.take (x_cn z)).reverse.map (x_v ad)).length = x_cn z := by simp; omega
  have fin : ∀ (As : List Value), va_Run p l e R s m args below meth c H locs cells slots (r.2.1 - h.1) (r.2.2.1 - h.2.1) (F0 m pc LS (st.map (x_v ad))) ((st.drop (x_cn z)).map (x_v ad)) (x_Qc D cA ad h.1 r (va_A (x_W cA ad h) H.size) As.toArray) (va_A (x_W cA ad h) H.size) → W p l e R s m args below meth c H locs cells slots Q (F0 m pc LS (st.map (x_v ad))) := fun As hrun => x_run hrun hS hA1 kk
  -- the receiver, where there is one
  have recv : ∀ q, x_cn z = n + 1 → st[x_cn z - 1]? = some (.ref q) → ∃ As : List Value, (st.take (x_cn z)).reverse = .ref q :: As ∧ As.length = n := by
    intro q hzn hq
    have e1 : (st.take (x_cn z)).reverse[0]? = some (.ref q) := by
      rw [List.getElem?_reverse (by simp; omega)]
      simp only [List.length_take, Nat.min_eq_left hlen]
      rw [show x_cn z - 1 - 0 = x_cn z - 1 by omega, List.getElem?_take_of_lt (by omega)]
      exact hq
    match hx : (st.take (x_cn z)).reverse, e1 with
    | v :: As, e1 =>
      cases e1
      refine ⟨As, rfl, ?_⟩
      have := congrArg List.length hx
      simp only [List.length_reverse, List.length_take, Nat.min_eq_left hlen, List.length_cons] at this
      omega
  generalize hzz : z % 10 = zk at hok hck
  match zk, hok, hck with
  | 0, hok, hck =>
    obtain ⟨hdc, hzn, ⟨T, N, hcl⟩, w1, w2, w3⟩ := hok
    replace hck : x_rcv h (z / 10 % 100) st[x_cn z - 1]? = true := hck
    unfold x_rcv at hck
    split at hck
    · rename_i q hq
      obtain ⟨As, hAs, hAn⟩ := recv q hzn hq
      obtain ⟨fs, hg⟩ := x_isa_inv hck
      have hrv := va_recv hK hP hcl (x_W_get hg)
      rw [hAs] at hM hpre hst
      exact fin _ (va_runV (As := As.map (x_v ad)) (b := ad q) ⟨hx, hb, hml, hown, hts⟩ hM ⟨callB_of n hts hG rfl rfl rfl (hts _ J3) (hts _ w1) hd hrm, hts _ w2, hts _ w3⟩ ⟨x_blind, hrv, hpre⟩ rfl (by simpa using hAn) hlsz (by rw [hst]; simp [x_v]) (lv_room hshort) hdc ⟨hc, hs⟩)
    · cases hck
  | 1, hok, hck =>
    obtain ⟨hdc, hzn, w1, w2⟩ := hok
    exact fin _ (va_runS (As := (st.take (x_cn z)).reverse.map (x_v ad)) ⟨hx, hb, hml, hown, hts⟩ hM ⟨callB_of n hts hG rfl rfl rfl (hts _ J3) (hts _ w1) hd hrm, hts _ w2⟩ ⟨x_blind, hpre⟩ rfl (hla.trans hzn) hlsz hst (lv_room hshort) hdc ⟨hc, hs⟩)
  | 2, hok, hck =>
    obtain ⟨hdc, hzn, ⟨host, w1⟩, w2⟩ := hok
    exact fin _ (va_runSN (host := host) (As := (st.take (x_cn z)).reverse.map (x_v ad)) ⟨hx, hb, hml, hown, hts⟩ hM ⟨va_cnB n hts hG rfl rfl rfl (hN _ w1) (hts _ J3) hd hrm, hts _ w2, trivial⟩ ⟨x_blind, hpre⟩ rfl (hla.trans hzn) hlsz hst (lv_room hshort) hdc ⟨hc, hs⟩)
  | 3, hok, hck =>
    obtain ⟨hdc, hzn, w1, w2, w3, w4⟩ := hok
    replace hck : x_isr st[x_cn z - 1]? = true := hck
    unfold x_isr at hck
    split at hck
    · rename_i q hq
      obtain ⟨As, hAs, hAn⟩ := recv q hzn hq
      rw [hAs] at hM hpre hst
      have hG' : GoodIn x_tb (Cond.code (P mi).1 (P mi).2.1 (P mi).2.2.1 none :: x_tb) := by rw [← w4]; exact hG
      have hM' := hM
      unfold x_ws at hM'
      rw [w4] at hM'
      exact fin _ (va_runI (As := As.map (x_v ad)) (b := ad q) ⟨hx, hb, hml, hown, hts⟩ hM' (cwI n hts hG' rfl rfl rfl (hts _ J3) (hts _ w1) (hts _ w2) w3 hd hrm) ⟨x_blind, hpre⟩ rfl (by simpa using hAn) hlsz (by rw [hst]; simp [x_v]) (lv_room hshort) hdc ⟨hc, hs⟩)
    · cases hck
  | 4, hok, hck =>
    obtain ⟨hdc, hzn, ⟨host, w1⟩, w2, w3, w4⟩ := hok
    replace hck : x_isr st[x_cn z - 1]? = true := hck
    unfold x_isr at hck
    split at hck
    · rename_i q hq
      obtain ⟨As, hAs, hAn⟩ := recv q hzn hq
      rw [hAs] at hM hpre hst
      have hG' : GoodIn x_tb (Cond.code (P mi).1 (P mi).2.1 (P mi).2.2.1 none :: x_tb) := by rw [← w4]; exact hG
      have hM' := hM
      unfold x_ws at hM'
      rw [w4] at hM'
      exact fin _ (va_runIN (host := host) (As := As.map (x_v ad)) (b := ad q) ⟨hx, hb, hml, hown, hts⟩ hM' ⟨va_cnB n hts hG' rfl rfl rfl (hN _ w1) (hts _ J3) hd hrm, w3, hts _ w2⟩ ⟨x_blind, hpre⟩ rfl (by simpa using hAn) hlsz (by rw [hst]; simp [x_v]) (lv_room hshort) hdc ⟨hc, hs⟩)
    · cases hck
  | k + 5, hok, hck => exact absurd hok (by simp)
end XRUN
end
section
/-! EVERY METHOD'S CONTRACT out of a run of the small machine -/
set_option maxHeartbeats 4000000 in
theorem x_frame {P : Nat → x_M} (J : ∀ mi, x_J P (P mi)) {l : Launch} {D : va_G} {cA : Nat → ClassId} {d mi : Nat}
    (IH : ∀ d', d = d' + 1 → ∀ (mi : Nat) (ad : Nat → Nat) (as : List Value) (h : x_H) (r : Option Value × x_H) (sz n : Nat), x_ev P n d' (P mi).2.2.2.2 0 (x_ent as (P mi).2.2.1) [] h = some r → x_wl h.1 as → x_wh h → (x_ex as).length ≤ (P mi).2.2.1 → Met l (P mi).1 (x_ws (P mi)) (x_rm d' (r.2.1 - h.1) (r.2.2.1 - h.2.1)) (x_Pc D cA ad as h sz) (x_Qc D cA ad h.1 r (va_A (x_W cA ad h) sz)) (r.2.1 - h.1) (r.2.2.1 - h.2.1) (va_A (x_W cA ad h) sz))
    {p : Program} {e : Env} {s : State} {m : MethodId} {args : Array Value} {below : List Frame} {meth : Method} {c : Code} (F : x_Fx (P mi) p s m meth c args D cA) (hret : meth.sig.returnType = (P mi).2.2.2.1) (hlocks : meth.locks = false)
    {A : Nat → Prop} (hA : ∀ q, s.heap.size ≤ q → A q) {n0 w0 : Nat} {ad0 : Nat → Nat} (r : Option Value × x_H) :
    ∀ (n pc : Nat) (ls st : List Value) (h : x_H), x_ev P n d (P mi).2.2.2.2 pc ls st h = some r → ∀ (ad : Nat → Nat) (H : Heap) (LS : Array Slot) (locs : List Loc), x_Rel D cA A n0 w0 ad0 s.heap (P mi).2.2.1 ad H LS locs ls st h →
      W p l e (x_rm d (r.2.1 - n0) (r.2.2.1 - w0)) s m args below meth c H locs (h.1 - n0) (h.2.1 - w0) (MQ below (x_Qc D cA ad0 n0 r A) args s (r.2.1 - n0) (r.2.2.1 - w0) A) (F0 m pc LS (st.map (x_v ad))) := by
  intro n
  induction n with
  | zero => intro pc ls st h hev; simp [x_ev] at hev
  | succ n ih =>
    intro pc ls st h hev ad H LS locs hr
    have hr' := hr
    obtain ⟨r1, r2, r3, hP, hD, hS, hL, r8, r9, r10, r11⟩ := hr
    rw [x_ev] at hev
    cases hi : x_lk (P mi).2.2.2.2 pc with
    | none => rw [hi] at hev; simp at hev
    | some il =>
      obtain ⟨i, len⟩ := il
      rw [hi, Option.bind_some] at hev
      dsimp only at hev
      have hok := (J mi).2.2.2.2 pc i len hi
      generalize ha : x_act i len pc ls st h = o at hev
      match o, ha, hev with
      | none, ha, hev => simp at hev
      | some (.inl k), ha, hev =>
        obtain ⟨k1, k2, k3, k4, k5, k6⟩ := x_act_kp ha r9 r10 r11
        obtain ⟨e1, e2, e3, e4⟩ := x_ev_keep P _ _ _ _ _ _ _ _ hev k1 k2 k3
        exact x_step F rfl hA (Nat.le_add_left 1 d) (by show 64 ≤ 64 * (d + 1); omega) hok ha hr' (Nat.sub_le_sub_right e2 _) (Nat.sub_le_sub_right e3 _) (fun ad' H' LS' locs' hr2 => ih _ _ _ _ hev ad' H' LS' locs' hr2)
      | some (.inr (.inl (mi', as, pc', ls', st'))), ha, hev =>
        obtain ⟨z, rfl, hck, rfl, rfl, rfl, rfl⟩ := x_act_call ha
        match d, IH, ih, hev with
        | 0, IH, ih, hev => simp at hev
        | d' + 1, IH, ih, hev =>
          dsimp only at hev
          have hsa : x_wl h.1 (st.take (x_cn z)).reverse := fun v hv => r10 v (List.mem_of_mem_take (List.mem_reverse.mp hv))
          have hsd : x_wl h.1 (st.drop (x_cn z)) := fun v hv => r10 v (List.mem_of_mem_drop hv)
          have hck' := hck
          unfold x_cok at hck'
          obtain ⟨b1, hck'⟩ := Bool.and_eq_true_iff.mp hck'
          obtain ⟨b2, hck'⟩ := Bool.and_eq_true_iff.mp hck'
          obtain ⟨b3, -⟩ := Bool.and_eq_true_iff.mp hck'
          have hokc : x_okc P (P mi) pc mi' z len := hok
          have hfit : (x_ex (st.take (x_cn z)).reverse).length ≤ (P mi').2.2.1 := by
            obtain ⟨idx, n', -, -, hz, -⟩ := hokc
            exact Nat.le_trans (Nat.le_of_ble_eq_true b3) hz
          cases hc : x_ev P n d' (P mi').2.2.2.2 0 (x_ent (st.take (x_cn z)).reverse (P mi').2.2.1) [] h with
          | none => rw [hc] at hev; simp at hev
          | some rc =>
            rw [hc] at hev
            dsimp only at hev
            obtain ⟨c1, c2, c3, c4⟩ := x_ev_keep P _ _ _ _ _ _ _ _ hc (x_wl_ent hsa _) x_wl_nil r11
            have hv : x_wl rc.2.1 (rc.1.toList ++ st.drop (x_cn z)) := by
              refine x_wl_app ?_ (x_wl_le c2 hsd)
              rcases c4 with e | ⟨x, e⟩ <;> rw [e]
              · exact x_wl_nil
              · exact x_wl_cons.mpr ⟨x_wv_int _ _, x_wl_nil⟩
            obtain ⟨e1, e2, e3, e4⟩ := x_ev_keep P _ _ _ _ _ _ _ _ hev (x_wl_le c2 r9) hv c1
            have hM := IH d' rfl mi' ad (st.take (x_cn z)).reverse h rc H.size n hc hsa r11 hfit
            refine x_call F rfl hA (J mi') hM (Nat.le_refl _) (Nat.le_refl _) hokc hck hr' (by show _ ≤ r.2.1 - n0; omega) (by show _ ≤ r.2.2.1 - w0; omega) (fun ad' H1 locs1 q1 q2 q3 q4 => ?_)
            have K := ih _ _ _ _ hev ad' H1 LS locs1 ⟨fun i hi => (q1 i (Nat.lt_of_lt_of_le hi r2)).trans (r1 i hi), Nat.le_trans r2 c2, Nat.le_trans r3 c3, q2, q3, q4, x_lv_sub hL (by
              intro ⟨j, u⟩ hq
              obtain ⟨v, g1, g2, g3⟩ := x_lv_mem.mp hq
              exact x_lv_mem.mpr ⟨v, g1, g2, g3.trans (x_v_ext (x_wl_get r9 g1) q1)⟩), r8, x_wl_le c2 r9, hv, c1⟩
            rw [show h.1 - n0 + (rc.2.1 - h.1) = rc.2.1 - n0 by omega, show h.2.1 - w0 + (rc.2.2.1 - h.2.1) = rc.2.2.1 - w0 by omega]
            rw [List.map_append, x_vl_ext hsd q1] at K
            have eo : (rc.1.map (x_v ad')).toList = rc.1.toList.map (x_v ad') := by cases rc.1 <;> rfl
            rw [eo]
            exact K
      | some (.inr (.inr v)), ha, hev =>
        cases hev
        obtain ⟨hx, hb, hml, hown, hts, hK, hN, hnm⟩ := F
        have hq : ∀ t : State, t.heap = H → s.WarmedH t.vm → x_Qc D cA ad0 n0 (v, h) A args s (.returned (v.map (x_v ad))) t := fun t ht hW => ⟨⟨ad, r1, rfl, by rw [ht]; exact hP, va_K.moved hW.alike hK, hD⟩, hS.F ht⟩
        rcases x_act_ret ha with ⟨rfl, rfl, rfl⟩ | ⟨x, hi2, rfl, rfl⟩
        · obtain ⟨hd, hm⟩ := hok
          exact W.vret hx hb (hret.trans hm) hq hS.2.2 hd hlocks
        · rcases hi2 with rfl | ⟨rfl, hx1⟩
          · obtain ⟨hd, hm⟩ := hok
            exact W.iret hx hb (hret.trans hm) hq hS.2.2 hd hlocks
          · obtain ⟨hd, hm⟩ := hok
            exact W.zret hx hb (hret.trans hm) (by show Value.int (x &&& 1) = _; rw [hx1]) hq hS.2.2 hd hlocks
set_option maxHeartbeats 4000000 in
theorem x_met {P : Nat → x_M} (J : ∀ mi, x_J P (P mi)) (l : Launch) (D : va_G) (cA : Nat → ClassId) : ∀ (d mi : Nat) (ad : Nat → Nat) (as : List Value) (h : x_H) (r : Option Value × x_H) (sz n : Nat), x_ev P n d (P mi).2.2.2.2 0 (x_ent as (P mi).2.2.1) [] h = some r → x_wl h.1 as → x_wh h → (x_ex as).length ≤ (P mi).2.2.1 → Met l (P mi).1 (x_ws (P mi)) (x_rm d (r.2.1 - h.1) (r.2.2.1 - h.2.1)) (x_Pc D cA ad as h sz) (x_Qc D cA ad h.1 r (va_A (x_W cA ad h) sz)) (r.2.1 - h.1) (r.2.2.1 - h.2.1) (va_A (x_W cA ad h) sz) := by
  intro d
  induction d with
  | zero =>
    intro mi ad as h r sz n hev hwa hwh hfit
    refine Met.ofW (cc := (P mi).2.1) (maxL := (P mi).2.2.1) (ret := (P mi).2.2.2.1) (J mi).1 rfl ?_
    intro p e s m args below meth c s₁ B hml hv
    obtain ⟨rfl, hsz, hP, hK, hN, hD0⟩ := hv
    have hts := atoms_spec (ws := x_ws (P mi)) B.pre
    subst hsz
    have hA : ∀ q : Nat, s.heap.size ≤ q → va_A (x_W cA ad h) s.heap.size q := fun q h => Or.inr h
    have hl := lv_entry (as.map (x_v ad)) (n := (P mi).2.2.1) (by rw [x_ex_len]; exact hfit)
    rw [lg_entry_eq]
    have K := x_frame J (l := l) (D := D) (cA := cA) (d := 0) (mi := mi) (fun d' z => by cases z) (e := e) (below := below) ⟨B.exec, B.bytes, hml, findClass_of_methodNamed B.named, fun w hw => hts w (List.mem_cons_of_mem _ hw), hK, hN, (name_of_methodNamed B.named B.method).1⟩ B.returns B.notSynchronized hA (n0 := h.1) (w0 := h.2.1) (ad0 := ad) r n 0 (x_ent as (P mi).2.2.1) [] h hev ad s.heap _ [] ⟨fun _ _ => rfl, Nat.le_refl _, Nat.le_refl _, hP, hD0.self, va_S.rf, x_lv_sub hl (x_ent_at ad as _), x_ent_len as hfit, x_wl_ent hwa _, x_wl_nil, hwh⟩
    rw [Nat.sub_self, Nat.sub_self] at K
    exact K
  | succ d ih =>
    intro mi ad as h r sz n hev hwa hwh hfit
    refine Met.ofW (cc := (P mi).2.1) (maxL := (P mi).2.2.1) (ret := (P mi).2.2.2.1) (J mi).1 rfl ?_
    intro p e s m args below meth c s₁ B hml hv
    obtain ⟨rfl, hsz, hP, hK, hN, hD0⟩ := hv
    have hts := atoms_spec (ws := x_ws (P mi)) B.pre
    subst hsz
    have hA : ∀ q : Nat, s.heap.size ≤ q → va_A (x_W cA ad h) s.heap.size q := fun q h => Or.inr h
    have hl := lv_entry (as.map (x_v ad)) (n := (P mi).2.2.1) (by rw [x_ex_len]; exact hfit)
    rw [lg_entry_eq]
    have K := x_frame J (l := l) (D := D) (cA := cA) (d := d + 1) (mi := mi) (fun d' z => by cases z; exact ih) (e := e) (below := below) ⟨B.exec, B.bytes, hml, findClass_of_methodNamed B.named, fun w hw => hts w (List.mem_cons_of_mem _ hw), hK, hN, (name_of_methodNamed B.named B.method).1⟩ B.returns B.notSynchronized hA (n0 := h.1) (w0 := h.2.1) (ad0 := ad) r n 0 (x_ent as (P mi).2.2.1) [] h hev ad s.heap _ [] ⟨fun _ _ => rfl, Nat.le_refl _, Nat.le_refl _, hP, hD0.self, va_S.rf, x_lv_sub hl (x_ent_at ad as _), x_ent_len as hfit, x_wl_ent hwa _, x_wl_nil, hwh⟩
    rw [Nat.sub_self, Nat.sub_self] at K
    exact K
end
