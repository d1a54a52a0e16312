section
-- ===== PART A: goes FIRST, ahead of the names: the tables' words, and 'selects' of the private methods out of them =====
/-- a private method of a class that the tables say can be made, by its rows of tables_1 -/
def lw_okq (q : MethodName × Nat) : Prop := (q.1.cls ≠ "java/lang/invoke/MethodHandle" ∧ q.1.cls ≠ "java/lang/invoke/VarHandle") ∧ Cond.instantiable q.1.cls q.2 ∈ tables_1 ∧ Cond.privateMethod q.1 ∈ tables_1 ∧ Cond.instanceMethod q.1 ∈ tables_1
theorem lw_p0 : lw_okq (⟨"WhateverYard$Reader", "skipBlanks", "()V"⟩, 5) := ⟨⟨by decide +kernel, by decide +kernel⟩, List.mem_of_getElem? (i := 24) (by decide +kernel), List.mem_of_getElem? (i := 372) (by decide +kernel), List.mem_of_getElem? (i := 373) (by decide +kernel)⟩
theorem lw_p1 : lw_okq (⟨"WhateverYard$Reader", "readClause", "(LWhateverYard$Shop;)V"⟩, 5) := ⟨⟨by decide +kernel, by decide +kernel⟩, List.mem_of_getElem? (i := 24) (by decide +kernel), List.mem_of_getElem? (i := 381) (by decide +kernel), List.mem_of_getElem? (i := 382) (by decide +kernel)⟩
theorem lw_p2 : lw_okq (⟨"WhateverYard$Reader", "blame", "(II)V"⟩, 5) := ⟨⟨by decide +kernel, by decide +kernel⟩, List.mem_of_getElem? (i := 24) (by decide +kernel), List.mem_of_getElem? (i := 392) (by decide +kernel), List.mem_of_getElem? (i := 393) (by decide +kernel)⟩
theorem lw_p3 : lw_okq (⟨"WhateverYard$Reader", "readDues", "(LWhateverYard$Shop;)V"⟩, 5) := ⟨⟨by decide +kernel, by decide +kernel⟩, List.mem_of_getElem? (i := 24) (by decide +kernel), List.mem_of_getElem? (i := 396) (by decide +kernel), List.mem_of_getElem? (i := 397) (by decide +kernel)⟩
theorem lw_p4 : lw_okq (⟨"WhateverYard$Reader", "readNumber", "(II)I"⟩, 5) := ⟨⟨by decide +kernel, by decide +kernel⟩, List.mem_of_getElem? (i := 24) (by decide +kernel), List.mem_of_getElem? (i := 400) (by decide +kernel), List.mem_of_getElem? (i := 401) (by decide +kernel)⟩
theorem lw_p5 : lw_okq (⟨"WhateverYard$Reader", "readEnd", "()V"⟩, 5) := ⟨⟨by decide +kernel, by decide +kernel⟩, List.mem_of_getElem? (i := 24) (by decide +kernel), List.mem_of_getElem? (i := 407) (by decide +kernel), List.mem_of_getElem? (i := 408) (by decide +kernel)⟩
theorem lw_p6 : lw_okq (⟨"WhateverYard$Reader", "readUse", "(LWhateverYard$Shop;)V"⟩, 5) := ⟨⟨by decide +kernel, by decide +kernel⟩, List.mem_of_getElem? (i := 24) (by decide +kernel), List.mem_of_getElem? (i := 411) (by decide +kernel), List.mem_of_getElem? (i := 412) (by decide +kernel)⟩
theorem lw_p7 : lw_okq (⟨"WhateverYard$Reader", "readTable", "(LWhateverYard$Shop;)V"⟩, 5) := ⟨⟨by decide +kernel, by decide +kernel⟩, List.mem_of_getElem? (i := 24) (by decide +kernel), List.mem_of_getElem? (i := 416) (by decide +kernel), List.mem_of_getElem? (i := 417) (by decide +kernel)⟩
theorem lw_p8 : lw_okq (⟨"WhateverYard$Reader", "readAmount", "(LWhateverYard$Shop;LWhateverYard$Row;LWhateverYard$Row;I)V"⟩, 5) := ⟨⟨by decide +kernel, by decide +kernel⟩, List.mem_of_getElem? (i := 24) (by decide +kernel), List.mem_of_getElem? (i := 426) (by decide +kernel), List.mem_of_getElem? (i := 427) (by decide +kernel)⟩
theorem lw_p9 : lw_okq (⟨"WhateverYard", "draw", "(I)I"⟩, 14) := ⟨⟨by decide +kernel, by decide +kernel⟩, List.mem_of_getElem? (i := 16) (by decide +kernel), List.mem_of_getElem? (i := 555) (by decide +kernel), List.mem_of_getElem? (i := 556) (by decide +kernel)⟩
theorem lw_p10 : lw_okq (⟨"WhateverYard", "allTables", "()I"⟩, 14) := ⟨⟨by decide +kernel, by decide +kernel⟩, List.mem_of_getElem? (i := 16) (by decide +kernel), List.mem_of_getElem? (i := 582) (by decide +kernel), List.mem_of_getElem? (i := 583) (by decide +kernel)⟩
theorem lw_p11 : lw_okq (⟨"WhateverYard$Heights", "known", "(I)Z"⟩, 2) := ⟨⟨by decide +kernel, by decide +kernel⟩, List.mem_of_getElem? (i := 214) (by decide +kernel), List.mem_of_getElem? (i := 595) (by decide +kernel), List.mem_of_getElem? (i := 596) (by decide +kernel)⟩
theorem lw_p12 : lw_okq (⟨"WhateverYard$Heights", "note", "(III)V"⟩, 2) := ⟨⟨by decide +kernel, by decide +kernel⟩, List.mem_of_getElem? (i := 214) (by decide +kernel), List.mem_of_getElem? (i := 600) (by decide +kernel), List.mem_of_getElem? (i := 601) (by decide +kernel)⟩
theorem lw_p13 : lw_okq (⟨"WhateverYard$Heights", "spread", "(LWhateverYard$Shop;I)V"⟩, 2) := ⟨⟨by decide +kernel, by decide +kernel⟩, List.mem_of_getElem? (i := 214) (by decide +kernel), List.mem_of_getElem? (i := 605) (by decide +kernel), List.mem_of_getElem? (i := 606) (by decide +kernel)⟩
theorem lw_p14 : lw_okq (⟨"WhateverYard$Heights", "reach", "(LWhateverYard$Shop;I)Z"⟩, 2) := ⟨⟨by decide +kernel, by decide +kernel⟩, List.mem_of_getElem? (i := 214) (by decide +kernel), List.mem_of_getElem? (i := 609) (by decide +kernel), List.mem_of_getElem? (i := 610) (by decide +kernel)⟩
theorem lw_p15 : lw_okq (⟨"WhateverYard$Heights", "fitsTable", "(LWhateverYard$Shop;I)Z"⟩, 2) := ⟨⟨by decide +kernel, by decide +kernel⟩, List.mem_of_getElem? (i := 214) (by decide +kernel), List.mem_of_getElem? (i := 613) (by decide +kernel), List.mem_of_getElem? (i := 614) (by decide +kernel)⟩
def lw_privs_1 : List (MethodName × Nat) := [(⟨"WhateverYard$Reader", "skipBlanks", "()V"⟩, 5), (⟨"WhateverYard$Reader", "readClause", "(LWhateverYard$Shop;)V"⟩, 5), (⟨"WhateverYard$Reader", "blame", "(II)V"⟩, 5), (⟨"WhateverYard$Reader", "readDues", "(LWhateverYard$Shop;)V"⟩, 5), (⟨"WhateverYard$Reader", "readNumber", "(II)I"⟩, 5), (⟨"WhateverYard$Reader", "readEnd", "()V"⟩, 5), (⟨"WhateverYard$Reader", "readUse", "(LWhateverYard$Shop;)V"⟩, 5), (⟨"WhateverYard$Reader", "readTable", "(LWhateverYard$Shop;)V"⟩, 5), (⟨"WhateverYard$Reader", "readAmount", "(LWhateverYard$Shop;LWhateverYard$Row;LWhateverYard$Row;I)V"⟩, 5), (⟨"WhateverYard", "draw", "(I)I"⟩, 14), (⟨"WhateverYard", "allTables", "()I"⟩, 14), (⟨"WhateverYard$Heights", "known", "(I)Z"⟩, 2), (⟨"WhateverYard$Heights", "note", "(III)V"⟩, 2), (⟨"WhateverYard$Heights", "spread", "(LWhateverYard$Shop;I)V"⟩, 2), (⟨"WhateverYard$Heights", "reach", "(LWhateverYard$Shop;I)Z"⟩, 2), (⟨"WhateverYard$Heights", "fitsTable", "(LWhateverYard$Shop;I)Z"⟩, 2)]
theorem lw_r1 : ∀ q ∈ lw_privs_1, lw_okq q := List.forall_mem_cons.mpr ⟨lw_p0, List.forall_mem_cons.mpr ⟨lw_p1, List.forall_mem_cons.mpr ⟨lw_p2, List.forall_mem_cons.mpr ⟨lw_p3, List.forall_mem_cons.mpr ⟨lw_p4, List.forall_mem_cons.mpr ⟨lw_p5, List.forall_mem_cons.mpr ⟨lw_p6, List.forall_mem_cons.mpr ⟨lw_p7, List.forall_mem_cons.mpr ⟨lw_p8, List.forall_mem_cons.mpr ⟨lw_p9, List.forall_mem_cons.mpr ⟨lw_p10, List.forall_mem_cons.mpr ⟨lw_p11, List.forall_mem_cons.mpr ⟨lw_p12, List.forall_mem_cons.mpr ⟨lw_p13, List.forall_mem_cons.mpr ⟨lw_p14, List.forall_mem_cons.mpr ⟨lw_p15, fun _ h => absurd h List.not_mem_nil⟩⟩⟩⟩⟩⟩⟩⟩⟩⟩⟩⟩⟩⟩⟩⟩
theorem lw_p16 : lw_okq (⟨"WhateverYard$Ways", "note", "(II)V"⟩, 6) := ⟨⟨by decide +kernel, by decide +kernel⟩, List.mem_of_getElem? (i := 229) (by decide +kernel), List.mem_of_getElem? (i := 636) (by decide +kernel), List.mem_of_getElem? (i := 637) (by decide +kernel)⟩
theorem lw_p17 : lw_okq (⟨"WhateverYard$Ways", "turnAll", "(LWhateverYard$Shop;I)V"⟩, 6) := ⟨⟨by decide +kernel, by decide +kernel⟩, List.mem_of_getElem? (i := 229) (by decide +kernel), List.mem_of_getElem? (i := 653) (by decide +kernel), List.mem_of_getElem? (i := 654) (by decide +kernel)⟩
theorem lw_p18 : lw_okq (⟨"WhateverYard$Cutter", "note", "(II)V"⟩, 6) := ⟨⟨by decide +kernel, by decide +kernel⟩, List.mem_of_getElem? (i := 259) (by decide +kernel), List.mem_of_getElem? (i := 682) (by decide +kernel), List.mem_of_getElem? (i := 683) (by decide +kernel)⟩
theorem lw_p19 : lw_okq (⟨"WhateverYard", "countDeaths", "(II)V"⟩, 14) := ⟨⟨by decide +kernel, by decide +kernel⟩, List.mem_of_getElem? (i := 16) (by decide +kernel), List.mem_of_getElem? (i := 702) (by decide +kernel), List.mem_of_getElem? (i := 703) (by decide +kernel)⟩
theorem lw_p20 : lw_okq (⟨"WhateverYard", "allUnlike", "(I)Z"⟩, 14) := ⟨⟨by decide +kernel, by decide +kernel⟩, List.mem_of_getElem? (i := 16) (by decide +kernel), List.mem_of_getElem? (i := 743) (by decide +kernel), List.mem_of_getElem? (i := 744) (by decide +kernel)⟩
theorem lw_p21 : lw_okq (⟨"WhateverYardModel", "begins", "()V"⟩, 31) := ⟨⟨by decide +kernel, by decide +kernel⟩, List.mem_of_getElem? (i := 788) (by decide +kernel), List.mem_of_getElem? (i := 794) (by decide +kernel), List.mem_of_getElem? (i := 795) (by decide +kernel)⟩
theorem lw_p22 : lw_okq (⟨"WhateverYardModel", "step", "()V"⟩, 31) := ⟨⟨by decide +kernel, by decide +kernel⟩, List.mem_of_getElem? (i := 788) (by decide +kernel), List.mem_of_getElem? (i := 908) (by decide +kernel), List.mem_of_getElem? (i := 909) (by decide +kernel)⟩
theorem lw_p23 : lw_okq (⟨"WhateverYardModel", "here", "()I"⟩, 31) := ⟨⟨by decide +kernel, by decide +kernel⟩, List.mem_of_getElem? (i := 788) (by decide +kernel), List.mem_of_getElem? (i := 912) (by decide +kernel), List.mem_of_getElem? (i := 913) (by decide +kernel)⟩
theorem lw_p24 : lw_okq (⟨"WhateverYardModel", "readsClause", "()Z"⟩, 31) := ⟨⟨by decide +kernel, by decide +kernel⟩, List.mem_of_getElem? (i := 788) (by decide +kernel), List.mem_of_getElem? (i := 918) (by decide +kernel), List.mem_of_getElem? (i := 919) (by decide +kernel)⟩
theorem lw_p25 : lw_okq (⟨"WhateverYardModel", "readsDues", "()Z"⟩, 31) := ⟨⟨by decide +kernel, by decide +kernel⟩, List.mem_of_getElem? (i := 788) (by decide +kernel), List.mem_of_getElem? (i := 922) (by decide +kernel), List.mem_of_getElem? (i := 923) (by decide +kernel)⟩
theorem lw_p26 : lw_okq (⟨"WhateverYardModel", "fails", "(I)Z"⟩, 31) := ⟨⟨by decide +kernel, by decide +kernel⟩, List.mem_of_getElem? (i := 788) (by decide +kernel), List.mem_of_getElem? (i := 926) (by decide +kernel), List.mem_of_getElem? (i := 927) (by decide +kernel)⟩
theorem lw_p27 : lw_okq (⟨"WhateverYardModel", "number", "(III)Z"⟩, 31) := ⟨⟨by decide +kernel, by decide +kernel⟩, List.mem_of_getElem? (i := 788) (by decide +kernel), List.mem_of_getElem? (i := 930) (by decide +kernel), List.mem_of_getElem? (i := 931) (by decide +kernel)⟩
theorem lw_p28 : lw_okq (⟨"WhateverYardModel", "ends", "()Z"⟩, 31) := ⟨⟨by decide +kernel, by decide +kernel⟩, List.mem_of_getElem? (i := 788) (by decide +kernel), List.mem_of_getElem? (i := 934) (by decide +kernel), List.mem_of_getElem? (i := 935) (by decide +kernel)⟩
theorem lw_p29 : lw_okq (⟨"WhateverYardModel", "readsUse", "()Z"⟩, 31) := ⟨⟨by decide +kernel, by decide +kernel⟩, List.mem_of_getElem? (i := 788) (by decide +kernel), List.mem_of_getElem? (i := 938) (by decide +kernel), List.mem_of_getElem? (i := 939) (by decide +kernel)⟩
theorem lw_p30 : lw_okq (⟨"WhateverYardModel", "readsTable", "()Z"⟩, 31) := ⟨⟨by decide +kernel, by decide +kernel⟩, List.mem_of_getElem? (i := 788) (by decide +kernel), List.mem_of_getElem? (i := 942) (by decide +kernel), List.mem_of_getElem? (i := 943) (by decide +kernel)⟩
theorem lw_p31 : lw_okq (⟨"WhateverYardModel", "use", "(I)Z"⟩, 31) := ⟨⟨by decide +kernel, by decide +kernel⟩, List.mem_of_getElem? (i := 788) (by decide +kernel), List.mem_of_getElem? (i := 946) (by decide +kernel), List.mem_of_getElem? (i := 947) (by decide +kernel)⟩
def lw_privs_2 : List (MethodName × Nat) := [(⟨"WhateverYard$Ways", "note", "(II)V"⟩, 6), (⟨"WhateverYard$Ways", "turnAll", "(LWhateverYard$Shop;I)V"⟩, 6), (⟨"WhateverYard$Cutter", "note", "(II)V"⟩, 6), (⟨"WhateverYard", "countDeaths", "(II)V"⟩, 14), (⟨"WhateverYard", "allUnlike", "(I)Z"⟩, 14), (⟨"WhateverYardModel", "begins", "()V"⟩, 31), (⟨"WhateverYardModel", "step", "()V"⟩, 31), (⟨"WhateverYardModel", "here", "()I"⟩, 31), (⟨"WhateverYardModel", "readsClause", "()Z"⟩, 31), (⟨"WhateverYardModel", "readsDues", "()Z"⟩, 31), (⟨"WhateverYardModel", "fails", "(I)Z"⟩, 31), (⟨"WhateverYardModel", "number", "(III)Z"⟩, 31), (⟨"WhateverYardModel", "ends", "()Z"⟩, 31), (⟨"WhateverYardModel", "readsUse", "()Z"⟩, 31), (⟨"WhateverYardModel", "readsTable", "()Z"⟩, 31), (⟨"WhateverYardModel", "use", "(I)Z"⟩, 31)]
theorem lw_r2 : ∀ q ∈ lw_privs_2, lw_okq q := List.forall_mem_cons.mpr ⟨lw_p16, List.forall_mem_cons.mpr ⟨lw_p17, List.forall_mem_cons.mpr ⟨lw_p18, List.forall_mem_cons.mpr ⟨lw_p19, List.forall_mem_cons.mpr ⟨lw_p20, List.forall_mem_cons.mpr ⟨lw_p21, List.forall_mem_cons.mpr ⟨lw_p22, List.forall_mem_cons.mpr ⟨lw_p23, List.forall_mem_cons.mpr ⟨lw_p24, List.forall_mem_cons.mpr ⟨lw_p25, List.forall_mem_cons.mpr ⟨lw_p26, List.forall_mem_cons.mpr ⟨lw_p27, List.forall_mem_cons.mpr ⟨lw_p28, List.forall_mem_cons.mpr ⟨lw_p29, List.forall_mem_cons.mpr ⟨lw_p30, List.forall_mem_cons.mpr ⟨lw_p31, fun _ h => absurd h List.not_mem_nil⟩⟩⟩⟩⟩⟩⟩⟩⟩⟩⟩⟩⟩⟩⟩⟩
theorem lw_p32 : lw_okq (⟨"WhateverYardModel", "readsPiece", "()Z"⟩, 31) := ⟨⟨by decide +kernel, by decide +kernel⟩, List.mem_of_getElem? (i := 788) (by decide +kernel), List.mem_of_getElem? (i := 950) (by decide +kernel), List.mem_of_getElem? (i := 951) (by decide +kernel)⟩
theorem lw_p33 : lw_okq (⟨"WhateverYardModel", "readsWant", "()Z"⟩, 31) := ⟨⟨by decide +kernel, by decide +kernel⟩, List.mem_of_getElem? (i := 788) (by decide +kernel), List.mem_of_getElem? (i := 954) (by decide +kernel), List.mem_of_getElem? (i := 955) (by decide +kernel)⟩
theorem lw_p34 : lw_okq (⟨"WhateverYardModel", "allLength", "()I"⟩, 31) := ⟨⟨by decide +kernel, by decide +kernel⟩, List.mem_of_getElem? (i := 788) (by decide +kernel), List.mem_of_getElem? (i := 966) (by decide +kernel), List.mem_of_getElem? (i := 967) (by decide +kernel)⟩
theorem lw_p35 : lw_okq (⟨"WhateverYardModel", "isUse", "(I)Z"⟩, 31) := ⟨⟨by decide +kernel, by decide +kernel⟩, List.mem_of_getElem? (i := 788) (by decide +kernel), List.mem_of_getElem? (i := 974) (by decide +kernel), List.mem_of_getElem? (i := 975) (by decide +kernel)⟩
theorem lw_p36 : lw_okq (⟨"WhateverYardModel", "isTable", "(I)Z"⟩, 31) := ⟨⟨by decide +kernel, by decide +kernel⟩, List.mem_of_getElem? (i := 788) (by decide +kernel), List.mem_of_getElem? (i := 983) (by decide +kernel), List.mem_of_getElem? (i := 984) (by decide +kernel)⟩
theorem lw_p37 : lw_okq (⟨"WhateverYardModel", "isPiece", "(I)Z"⟩, 31) := ⟨⟨by decide +kernel, by decide +kernel⟩, List.mem_of_getElem? (i := 788) (by decide +kernel), List.mem_of_getElem? (i := 992) (by decide +kernel), List.mem_of_getElem? (i := 993) (by decide +kernel)⟩
theorem lw_p38 : lw_okq (⟨"WhateverYardModel", "yards", "(I)I"⟩, 31) := ⟨⟨by decide +kernel, by decide +kernel⟩, List.mem_of_getElem? (i := 788) (by decide +kernel), List.mem_of_getElem? (i := 996) (by decide +kernel), List.mem_of_getElem? (i := 997) (by decide +kernel)⟩
theorem lw_p39 : lw_okq (⟨"WhateverYardModel", "isWant", "(I)Z"⟩, 31) := ⟨⟨by decide +kernel, by decide +kernel⟩, List.mem_of_getElem? (i := 788) (by decide +kernel), List.mem_of_getElem? (i := 1004) (by decide +kernel), List.mem_of_getElem? (i := 1005) (by decide +kernel)⟩
theorem lw_p40 : lw_okq (⟨"WhateverYardModel", "remember", "()V"⟩, 31) := ⟨⟨by decide +kernel, by decide +kernel⟩, List.mem_of_getElem? (i := 788) (by decide +kernel), List.mem_of_getElem? (i := 1014) (by decide +kernel), List.mem_of_getElem? (i := 1015) (by decide +kernel)⟩
theorem lw_p41 : lw_okq (⟨"WhateverYardModel", "turns", "(II)V"⟩, 31) := ⟨⟨by decide +kernel, by decide +kernel⟩, List.mem_of_getElem? (i := 788) (by decide +kernel), List.mem_of_getElem? (i := 1025) (by decide +kernel), List.mem_of_getElem? (i := 1026) (by decide +kernel)⟩
theorem lw_p42 : lw_okq (⟨"WhateverYardModel", "turned", "(III)I"⟩, 31) := ⟨⟨by decide +kernel, by decide +kernel⟩, List.mem_of_getElem? (i := 788) (by decide +kernel), List.mem_of_getElem? (i := 1029) (by decide +kernel), List.mem_of_getElem? (i := 1030) (by decide +kernel)⟩
theorem lw_p43 : lw_okq (⟨"WhateverYardModel", "draw", "(I)I"⟩, 31) := ⟨⟨by decide +kernel, by decide +kernel⟩, List.mem_of_getElem? (i := 788) (by decide +kernel), List.mem_of_getElem? (i := 1046) (by decide +kernel), List.mem_of_getElem? (i := 1047) (by decide +kernel)⟩
theorem lw_p44 : lw_okq (⟨"WhateverYardModel", "allTables", "()I"⟩, 31) := ⟨⟨by decide +kernel, by decide +kernel⟩, List.mem_of_getElem? (i := 788) (by decide +kernel), List.mem_of_getElem? (i := 1062) (by decide +kernel), List.mem_of_getElem? (i := 1063) (by decide +kernel)⟩
theorem lw_p45 : lw_okq (⟨"WhateverYardModel", "agrees", "(I)Z"⟩, 31) := ⟨⟨by decide +kernel, by decide +kernel⟩, List.mem_of_getElem? (i := 788) (by decide +kernel), List.mem_of_getElem? (i := 1066) (by decide +kernel), List.mem_of_getElem? (i := 1067) (by decide +kernel)⟩
theorem lw_p46 : lw_okq (⟨"WhateverYardModel", "spread", "(I)V"⟩, 31) := ⟨⟨by decide +kernel, by decide +kernel⟩, List.mem_of_getElem? (i := 788) (by decide +kernel), List.mem_of_getElem? (i := 1070) (by decide +kernel), List.mem_of_getElem? (i := 1071) (by decide +kernel)⟩
theorem lw_p47 : lw_okq (⟨"WhateverYardModel", "goes", "(IIIII)I"⟩, 31) := ⟨⟨by decide +kernel, by decide +kernel⟩, List.mem_of_getElem? (i := 788) (by decide +kernel), List.mem_of_getElem? (i := 1090) (by decide +kernel), List.mem_of_getElem? (i := 1091) (by decide +kernel)⟩
def lw_privs_3 : List (MethodName × Nat) := [(⟨"WhateverYardModel", "readsPiece", "()Z"⟩, 31), (⟨"WhateverYardModel", "readsWant", "()Z"⟩, 31), (⟨"WhateverYardModel", "allLength", "()I"⟩, 31), (⟨"WhateverYardModel", "isUse", "(I)Z"⟩, 31), (⟨"WhateverYardModel", "isTable", "(I)Z"⟩, 31), (⟨"WhateverYardModel", "isPiece", "(I)Z"⟩, 31), (⟨"WhateverYardModel", "yards", "(I)I"⟩, 31), (⟨"WhateverYardModel", "isWant", "(I)Z"⟩, 31), (⟨"WhateverYardModel", "remember", "()V"⟩, 31), (⟨"WhateverYardModel", "turns", "(II)V"⟩, 31), (⟨"WhateverYardModel", "turned", "(III)I"⟩, 31), (⟨"WhateverYardModel", "draw", "(I)I"⟩, 31), (⟨"WhateverYardModel", "allTables", "()I"⟩, 31), (⟨"WhateverYardModel", "agrees", "(I)Z"⟩, 31), (⟨"WhateverYardModel", "spread", "(I)V"⟩, 31), (⟨"WhateverYardModel", "goes", "(IIIII)I"⟩, 31)]
theorem lw_r3 : ∀ q ∈ lw_privs_3, lw_okq q := List.forall_mem_cons.mpr ⟨lw_p32, List.forall_mem_cons.mpr ⟨lw_p33, List.forall_mem_cons.mpr ⟨lw_p34, List.forall_mem_cons.mpr ⟨lw_p35, List.forall_mem_cons.mpr ⟨lw_p36, List.forall_mem_cons.mpr ⟨lw_p37, List.forall_mem_cons.mpr ⟨lw_p38, List.forall_mem_cons.mpr ⟨lw_p39, List.forall_mem_cons.mpr ⟨lw_p40, List.forall_mem_cons.mpr ⟨lw_p41, List.forall_mem_cons.mpr ⟨lw_p42, List.forall_mem_cons.mpr ⟨lw_p43, List.forall_mem_cons.mpr ⟨lw_p44, List.forall_mem_cons.mpr ⟨lw_p45, List.forall_mem_cons.mpr ⟨lw_p46, List.forall_mem_cons.mpr ⟨lw_p47, fun _ h => absurd h List.not_mem_nil⟩⟩⟩⟩⟩⟩⟩⟩⟩⟩⟩⟩⟩⟩⟩⟩
theorem lw_p48 : lw_okq (⟨"WhateverYardModel", "gains", "(I)I"⟩, 31) := ⟨⟨by decide +kernel, by decide +kernel⟩, List.mem_of_getElem? (i := 788) (by decide +kernel), List.mem_of_getElem? (i := 1098) (by decide +kernel), List.mem_of_getElem? (i := 1099) (by decide +kernel)⟩
theorem lw_p49 : lw_okq (⟨"WhateverYardModel", "becomes", "(II)I"⟩, 31) := ⟨⟨by decide +kernel, by decide +kernel⟩, List.mem_of_getElem? (i := 788) (by decide +kernel), List.mem_of_getElem? (i := 1102) (by decide +kernel), List.mem_of_getElem? (i := 1103) (by decide +kernel)⟩
theorem lw_p50 : lw_okq (⟨"WhateverYardModel", "leaves", "(I)I"⟩, 31) := ⟨⟨by decide +kernel, by decide +kernel⟩, List.mem_of_getElem? (i := 788) (by decide +kernel), List.mem_of_getElem? (i := 1115) (by decide +kernel), List.mem_of_getElem? (i := 1116) (by decide +kernel)⟩
theorem lw_p51 : lw_okq (⟨"WhateverYardModel", "uses", "()I"⟩, 31) := ⟨⟨by decide +kernel, by decide +kernel⟩, List.mem_of_getElem? (i := 788) (by decide +kernel), List.mem_of_getElem? (i := 1144) (by decide +kernel), List.mem_of_getElem? (i := 1145) (by decide +kernel)⟩
def lw_privs_4 : List (MethodName × Nat) := [(⟨"WhateverYardModel", "gains", "(I)I"⟩, 31), (⟨"WhateverYardModel", "becomes", "(II)I"⟩, 31), (⟨"WhateverYardModel", "leaves", "(I)I"⟩, 31), (⟨"WhateverYardModel", "uses", "()I"⟩, 31)]
theorem lw_r4 : ∀ q ∈ lw_privs_4, lw_okq q := List.forall_mem_cons.mpr ⟨lw_p48, List.forall_mem_cons.mpr ⟨lw_p49, List.forall_mem_cons.mpr ⟨lw_p50, List.forall_mem_cons.mpr ⟨lw_p51, fun _ h => absurd h List.not_mem_nil⟩⟩⟩⟩
def lw_privs : List (MethodName × Nat) := lw_privs_1 ++ (lw_privs_2 ++ (lw_privs_3 ++ (lw_privs_4)))
def lw_tbl : List Cond := k2_sels lw_privs ++ tables_1
theorem lw_privs_ok : ∀ q ∈ lw_privs, lw_okq q := by
  show ∀ q ∈ lw_privs_1 ++ (lw_privs_2 ++ (lw_privs_3 ++ (lw_privs_4))), lw_okq q
  exact List.forall_mem_append.mpr ⟨lw_r1, List.forall_mem_append.mpr ⟨lw_r2, List.forall_mem_append.mpr ⟨lw_r3, lw_r4⟩⟩⟩
end
section
/-! the classes: their fields, types; the words that they stand on -/
def x_tb : List Cond := lw_tbl.filter goodWord
theorem x_in_tb {w : Cond} (h : w ∈ lw_tbl) (g : goodWord w = true) : w ∈ x_tb := List.mem_filter.mpr ⟨h, g⟩
theorem x_tb_in {w : Cond} (h : w ∈ x_tb) : w ∈ lw_tbl := (List.mem_filter.mp h).1
theorem x_at_in {w : Cond} (i : Nat) (h : lw_tbl[i]? = some w) (g : goodWord w = true) : w ∈ x_tb := x_in_tb (List.mem_of_getElem? h) g
theorem x_some_in {ws : List Cond} (ps : List Nat) (h : ws = ps.filterMap (fun i => lw_tbl[i]?)) (g : ws.all goodWord = true) : ∀ w ∈ ws, w ∈ x_tb := by
  intro w hw
  have g1 := List.all_eq_true.mp g w hw
  rw [h] at hw
  obtain ⟨i, -, hi⟩ := List.mem_filterMap.mp hw
  exact x_in_tb (List.mem_of_getElem? hi) g1
def x_F0 : u_T := fun k => match k with
  | 0 => ("WhateverYard$Book", "pieces", "LWhateverYard$Row;", true)
  | _ => ("WhateverYard$Book", "entries", "LWhateverYard$Row;", true)
def x_T0 : Nat → FieldType := fun k => match k with
  | 0 => .object "WhateverYard$Row"
  | _ => .object "WhateverYard$Row"
def x_F1 : u_T := fun k => match k with
  | 0 => ("WhateverYard$Cloth", "lengths", "LWhateverYard$Row;", true)
  | 1 => ("WhateverYard$Cloth", "declared", "LWhateverYard$Row;", true)
  | 2 => ("WhateverYard$Cloth", "paid", "I", false)
  | _ => ("WhateverYard$Cloth", "waste", "I", false)
def x_T1 : Nat → FieldType := fun k => match k with
  | 0 => .object "WhateverYard$Row"
  | 1 => .object "WhateverYard$Row"
  | 2 => .int
  | _ => .int
def x_F2 : u_T := fun k => match k with
  | 0 => ("WhateverYard$Cutter", "best", "LWhateverYard$Row;", true)
  | 1 => ("WhateverYard$Cutter", "found", "Z", false)
  | 2 => ("WhateverYard$Cutter", "bestTouched", "I", false)
  | 3 => ("WhateverYard$Cutter", "wantedInAll", "I", false)
  | 4 => ("WhateverYard$Cutter", "chosen", "LWhateverYard$Row;", true)
  | _ => ("WhateverYard$Cutter", "rest", "LWhateverYard$Row;", true)
def x_T2 : Nat → FieldType := fun k => match k with
  | 0 => .object "WhateverYard$Row"
  | 1 => .boolean
  | 2 => .int
  | 3 => .int
  | 4 => .object "WhateverYard$Row"
  | _ => .object "WhateverYard$Row"
def x_F3 : u_T := fun k => match k with
  | 0 => ("WhateverYard$Heights", "above", "LWhateverYard$Row;", true)
  | _ => ("WhateverYard$Heights", "below", "LWhateverYard$Row;", true)
def x_T3 : Nat → FieldType := fun k => match k with
  | 0 => .object "WhateverYard$Row"
  | _ => .object "WhateverYard$Row"
def x_F4 : u_T := fun k => match k with
  | 0 => ("WhateverYard$Left", "bought", "LWhateverYard$Row;", true)
  | 1 => ("WhateverYard$Left", "cutOff", "LWhateverYard$Row;", true)
  | _ => ("WhateverYard$Left", "rest", "LWhateverYard$Row;", true)
def x_T4 : Nat → FieldType := fun k => match k with
  | 0 => .object "WhateverYard$Row"
  | 1 => .object "WhateverYard$Row"
  | _ => .object "WhateverYard$Row"
def x_F5 : u_T := fun k => match k with
  | 0 => ("WhateverYard$Past", "store", "LWhateverYard$Row;", true)
  | 1 => ("WhateverYard$Past", "next", "I", false)
  | _ => ("WhateverYard$Past", "count", "I", false)
def x_T5 : Nat → FieldType := fun k => match k with
  | 0 => .object "WhateverYard$Row"
  | 1 => .int
  | _ => .int
def x_F6 : u_T := fun k => match k with
  | 0 => ("WhateverYard$Reader", "text", "LWhateverYard$Row;", true)
  | 1 => ("WhateverYard$Reader", "faultPlace", "I", false)
  | 2 => ("WhateverYard$Reader", "faultNumber", "I", false)
  | 3 => ("WhateverYard$Reader", "place", "I", false)
  | _ => ("WhateverYard$Reader", "numberPlace", "I", false)
def x_T6 : Nat → FieldType := fun k => match k with
  | 0 => .object "WhateverYard$Row"
  | 1 => .int
  | 2 => .int
  | 3 => .int
  | _ => .int
def x_F7 : u_T := fun k => match k with
  | 0 => ("WhateverYard$Row", "cells", "[I", true)
  | _ => ("WhateverYard$Row", "count", "I", false)
def x_T7 : Nat → FieldType := fun k => match k with
  | 0 => .array .int
  | _ => .int
def x_F8 : u_T := fun k => match k with
  | 0 => ("WhateverYard$Shop", "open", "Z", false)
  | 1 => ("WhateverYard$Shop", "dues", "I", false)
  | 2 => ("WhateverYard$Shop", "yards", "LWhateverYard$Row;", true)
  | 3 => ("WhateverYard$Shop", "tableFrom", "LWhateverYard$Row;", true)
  | 4 => ("WhateverYard$Shop", "tableTo", "LWhateverYard$Row;", true)
  | 5 => ("WhateverYard$Shop", "tableGiven", "LWhateverYard$Row;", true)
  | 6 => ("WhateverYard$Shop", "tableGot", "LWhateverYard$Row;", true)
  | 7 => ("WhateverYard$Shop", "pieceUse", "LWhateverYard$Row;", true)
  | 8 => ("WhateverYard$Shop", "pieceYards", "LWhateverYard$Row;", true)
  | 9 => ("WhateverYard$Shop", "wantUse", "LWhateverYard$Row;", true)
  | _ => ("WhateverYard$Shop", "wantYards", "LWhateverYard$Row;", true)
def x_T8 : Nat → FieldType := fun k => match k with
  | 0 => .boolean
  | 1 => .int
  | 2 => .object "WhateverYard$Row"
  | 3 => .object "WhateverYard$Row"
  | 4 => .object "WhateverYard$Row"
  | 5 => .object "WhateverYard$Row"
  | 6 => .object "WhateverYard$Row"
  | 7 => .object "WhateverYard$Row"
  | 8 => .object "WhateverYard$Row"
  | 9 => .object "WhateverYard$Row"
  | _ => .object "WhateverYard$Row"
def x_F9 : u_T := fun k => match k with
  | 0 => ("WhateverYard$Ways", "best", "LWhateverYard$Row;", true)
  | 1 => ("WhateverYard$Ways", "bestYards", "I", false)
  | 2 => ("WhateverYard$Ways", "bestTurns", "I", false)
  | 3 => ("WhateverYard$Ways", "way", "LWhateverYard$Row;", true)
  | 4 => ("WhateverYard$Ways", "yardsOf", "LWhateverYard$Row;", true)
  | _ => ("WhateverYard$Ways", "nextYardsOf", "LWhateverYard$Row;", true)
def x_T9 : Nat → FieldType := fun k => match k with
  | 0 => .object "WhateverYard$Row"
  | 1 => .int
  | 2 => .int
  | 3 => .object "WhateverYard$Row"
  | 4 => .object "WhateverYard$Row"
  | _ => .object "WhateverYard$Row"
def x_F10 : u_T := fun k => match k with
  | 0 => ("WhateverYard", "reader", "LWhateverYard$Reader;", true)
  | 1 => ("WhateverYard", "shop", "LWhateverYard$Shop;", false)
  | 2 => ("WhateverYard", "draft", "LWhateverYard$Shop;", false)
  | 3 => ("WhateverYard", "now", "LWhateverYard$Cloth;", true)
  | 4 => ("WhateverYard", "past", "LWhateverYard$Past;", true)
  | 5 => ("WhateverYard", "leftTold", "LWhateverYard$Left;", true)
  | 6 => ("WhateverYard", "book", "LWhateverYard$Book;", true)
  | 7 => ("WhateverYard", "heights", "LWhateverYard$Heights;", true)
  | 8 => ("WhateverYard", "ways", "LWhateverYard$Ways;", true)
  | 9 => ("WhateverYard", "cutter", "LWhateverYard$Cutter;", true)
  | 10 => ("WhateverYard", "odds", "LWhateverYard$Row;", true)
  | 11 => ("WhateverYard", "images", "LWhateverYard$Row;", true)
  | 12 => ("WhateverYard", "imagesKept", "I", false)
  | _ => ("WhateverYard", "drawn", "I", false)
def x_T10 : Nat → FieldType := fun k => match k with
  | 0 => .object "WhateverYard$Reader"
  | 1 => .object "WhateverYard$Shop"
  | 2 => .object "WhateverYard$Shop"
  | 3 => .object "WhateverYard$Cloth"
  | 4 => .object "WhateverYard$Past"
  | 5 => .object "WhateverYard$Left"
  | 6 => .object "WhateverYard$Book"
  | 7 => .object "WhateverYard$Heights"
  | 8 => .object "WhateverYard$Ways"
  | 9 => .object "WhateverYard$Cutter"
  | 10 => .object "WhateverYard$Row"
  | 11 => .object "WhateverYard$Row"
  | 12 => .int
  | _ => .int
def x_F11 : u_T := fun k => match k with
  | 0 => ("WhateverYardModel", "shop", "[I", true)
  | 1 => ("WhateverYardModel", "read", "[I", true)
  | 2 => ("WhateverYardModel", "now", "[I", true)
  | 3 => ("WhateverYardModel", "past", "[I", true)
  | 4 => ("WhateverYardModel", "undos", "I", false)
  | 5 => ("WhateverYardModel", "images", "[I", true)
  | 6 => ("WhateverYardModel", "kept", "[Z", true)
  | 7 => ("WhateverYardModel", "seed", "J", false)
  | 8 => ("WhateverYardModel", "text", "[I", true)
  | 9 => ("WhateverYardModel", "size", "I", false)
  | 10 => ("WhateverYardModel", "fault", "I", false)
  | 11 => ("WhateverYardModel", "lefts", "[I", true)
  | 12 => ("WhateverYardModel", "leftMany", "I", false)
  | 13 => ("WhateverYardModel", "book", "[I", true)
  | 14 => ("WhateverYardModel", "bookMany", "I", false)
  | 15 => ("WhateverYardModel", "at", "I", false)
  | 16 => ("WhateverYardModel", "begin", "I", false)
  | 17 => ("WhateverYardModel", "sign", "I", false)
  | 18 => ("WhateverYardModel", "figures", "I", false)
  | 19 => ("WhateverYardModel", "value", "I", false)
  | 20 => ("WhateverYardModel", "wrong", "I", false)
  | 21 => ("WhateverYardModel", "above", "[J", true)
  | 22 => ("WhateverYardModel", "below", "[J", true)
  | 23 => ("WhateverYardModel", "row", "[I", true)
  | 24 => ("WhateverYardModel", "best", "[I", true)
  | 25 => ("WhateverYardModel", "yardsOf", "[I", true)
  | 26 => ("WhateverYardModel", "yardsThen", "[I", true)
  | 27 => ("WhateverYardModel", "pieceOf", "[I", true)
  | 28 => ("WhateverYardModel", "bestPiece", "[I", true)
  | 29 => ("WhateverYardModel", "leftOf", "[I", true)
  | _ => ("WhateverYardModel", "parts", "[I", true)
def x_T11 : Nat → FieldType := fun k => match k with
  | 0 => .array .int
  | 1 => .array .int
  | 2 => .array .int
  | 3 => .array .int
  | 4 => .int
  | 5 => .array .int
  | 6 => .array .boolean
  | 7 => .long
  | 8 => .array .int
  | 9 => .int
  | 10 => .int
  | 11 => .array .int
  | 12 => .int
  | 13 => .array .int
  | 14 => .int
  | 15 => .int
  | 16 => .int
  | 17 => .int
  | 18 => .int
  | 19 => .int
  | 20 => .int
  | 21 => .array .long
  | 22 => .array .long
  | 23 => .array .int
  | 24 => .array .int
  | 25 => .array .int
  | 26 => .array .int
  | 27 => .array .int
  | 28 => .array .int
  | 29 => .array .int
  | _ => .array .int
abbrev x_cl : List vw_C := [("WhateverYard$Book", x_F0, 2), ("WhateverYard$Cloth", x_F1, 4), ("WhateverYard$Cutter", x_F2, 6), ("WhateverYard$Heights", x_F3, 2), ("WhateverYard$Left", x_F4, 3), ("WhateverYard$Past", x_F5, 3), ("WhateverYard$Reader", x_F6, 5), ("WhateverYard$Row", x_F7, 2), ("WhateverYard$Shop", x_F8, 11), ("WhateverYard$Ways", x_F9, 6), ("WhateverYard", x_F10, 14), ("WhateverYardModel", x_F11, 31)]
def x_ty : Nat → Nat → FieldType := fun c => match c with
  | 0 => x_T0
  | 1 => x_T1
  | 2 => x_T2
  | 3 => x_T3
  | 4 => x_T4
  | 5 => x_T5
  | 6 => x_T6
  | 7 => x_T7
  | 8 => x_T8
  | 9 => x_T9
  | 10 => x_T10
  | _ => x_T11
def x_clok (ci : Nat) (C : String) (T : u_T) (N : Nat) : Prop := (∀ w ∈ u_ws C T N, w ∈ x_tb) ∧ (∀ k, k < N → parseFieldDescriptor (T k).2.2.1 = some (x_ty ci k)) ∧ (∀ a, a < N → ∀ b, b < N → a ≠ b → (T a).2.1 ≠ (T b).2.1) ∧ Cond.instantiable C N ∈ x_tb ∧ Cond.initialized C ∈ x_tb
theorem x_clok0 : x_clok 0 "WhateverYard$Book" x_F0 2 := ⟨x_some_in [260, 262] (by decide +kernel) (by decide +kernel), by decide +kernel, by decide +kernel, x_at_in 251 (by decide +kernel) (by decide +kernel), x_at_in 60 (by decide +kernel) (by decide +kernel)⟩
theorem x_clok1 : x_clok 1 "WhateverYard$Cloth" x_F1 4 := ⟨x_some_in [205, 207, 209, 211] (by decide +kernel) (by decide +kernel), by decide +kernel, by decide +kernel, x_at_in 190 (by decide +kernel) (by decide +kernel), x_at_in 57 (by decide +kernel) (by decide +kernel)⟩
theorem x_clok2 : x_clok 2 "WhateverYard$Cutter" x_F2 6 := ⟨x_some_in [326, 328, 330, 332, 334, 336] (by decide +kernel) (by decide +kernel), by decide +kernel, by decide +kernel, x_at_in 311 (by decide +kernel) (by decide +kernel), x_at_in 63 (by decide +kernel) (by decide +kernel)⟩
theorem x_clok3 : x_clok 3 "WhateverYard$Heights" x_F3 2 := ⟨x_some_in [275, 277] (by decide +kernel) (by decide +kernel), by decide +kernel, by decide +kernel, x_at_in 266 (by decide +kernel) (by decide +kernel), x_at_in 61 (by decide +kernel) (by decide +kernel)⟩
theorem x_clok4 : x_clok 4 "WhateverYard$Left" x_F4 3 := ⟨x_some_in [243, 245, 247] (by decide +kernel) (by decide +kernel), by decide +kernel, by decide +kernel, x_at_in 233 (by decide +kernel) (by decide +kernel), x_at_in 59 (by decide +kernel) (by decide +kernel)⟩
theorem x_clok5 : x_clok 5 "WhateverYard$Past" x_F5 3 := ⟨x_some_in [225, 227, 229] (by decide +kernel) (by decide +kernel), by decide +kernel, by decide +kernel, x_at_in 215 (by decide +kernel) (by decide +kernel), x_at_in 58 (by decide +kernel) (by decide +kernel)⟩
theorem x_clok6 : x_clok 6 "WhateverYard$Reader" x_F6 5 := ⟨x_some_in [102, 104, 106, 108, 110] (by decide +kernel) (by decide +kernel), by decide +kernel, by decide +kernel, x_at_in 76 (by decide +kernel) (by decide +kernel), x_at_in 54 (by decide +kernel) (by decide +kernel)⟩
theorem x_clok7 : x_clok 7 "WhateverYard$Row" x_F7 2 := ⟨x_some_in [89, 91] (by decide +kernel) (by decide +kernel), by decide +kernel, by decide +kernel, x_at_in 82 (by decide +kernel) (by decide +kernel), x_at_in 55 (by decide +kernel) (by decide +kernel)⟩
theorem x_clok8 : x_clok 8 "WhateverYard$Shop" x_F8 11 := ⟨x_some_in [166, 168, 170, 172, 174, 176, 178, 180, 182, 184, 186] (by decide +kernel) (by decide +kernel), by decide +kernel, by decide +kernel, x_at_in 114 (by decide +kernel) (by decide +kernel), x_at_in 56 (by decide +kernel) (by decide +kernel)⟩
theorem x_clok9 : x_clok 9 "WhateverYard$Ways" x_F9 6 := ⟨x_some_in [297, 299, 301, 303, 305, 307] (by decide +kernel) (by decide +kernel), by decide +kernel, by decide +kernel, x_at_in 281 (by decide +kernel) (by decide +kernel), x_at_in 62 (by decide +kernel) (by decide +kernel)⟩
theorem x_clok10 : x_clok 10 "WhateverYard" x_F10 14 := ⟨x_some_in [355, 357, 359, 361, 363, 365, 367, 369, 371, 373, 375, 377, 379, 381] (by decide +kernel) (by decide +kernel), by decide +kernel, by decide +kernel, x_at_in 68 (by decide +kernel) (by decide +kernel), x_at_in 53 (by decide +kernel) (by decide +kernel)⟩
theorem x_clok11 : x_clok 11 "WhateverYardModel" x_F11 31 := ⟨x_some_in [880, 882, 884, 886, 888, 890, 892, 894, 896, 898, 900, 902, 904, 906, 908, 910, 912, 914, 916, 918, 920, 922, 924, 926, 928, 930, 932, 934, 936, 938, 940] (by decide +kernel) (by decide +kernel), by decide +kernel, by decide +kernel, x_at_in 840 (by decide +kernel) (by decide +kernel), x_at_in 64 (by decide +kernel) (by decide +kernel)⟩
theorem x_cl_ok {ci : Nat} {C : String} {T : u_T} {N : Nat} (h : x_cl[ci]? = some (C, T, N)) : x_clok ci C T N := by
  match ci, h with
  | 0, h => cases h; exact x_clok0
  | 1, h => cases h; exact x_clok1
  | 2, h => cases h; exact x_clok2
  | 3, h => cases h; exact x_clok3
  | 4, h => cases h; exact x_clok4
  | 5, h => cases h; exact x_clok5
  | 6, h => cases h; exact x_clok6
  | 7, h => cases h; exact x_clok7
  | 8, h => cases h; exact x_clok8
  | 9, h => cases h; exact x_clok9
  | 10, h => cases h; exact x_clok10
  | 11, h => cases h; exact x_clok11
  | n + 12, h => simp [x_cl] at h
def x_nl : List (String × Nat × MethodName × String) := [("WhateverYard", 11, ⟨"WhateverYard$Reader", "<init>", "()V"⟩, "WhateverYard"), ("WhateverYard", 18, ⟨"WhateverYard$Shop", "<init>", "()V"⟩, "WhateverYard"), ("WhateverYard", 28, ⟨"WhateverYard$Cloth", "<init>", "()V"⟩, "WhateverYard"), ("WhateverYard", 35, ⟨"WhateverYard$Past", "<init>", "()V"⟩, "WhateverYard"), ("WhateverYard", 42, ⟨"WhateverYard$Left", "<init>", "()V"⟩, "WhateverYard"), ("WhateverYard", 49, ⟨"WhateverYard$Book", "<init>", "()V"⟩, "WhateverYard"), ("WhateverYard", 56, ⟨"WhateverYard$Heights", "<init>", "()V"⟩, "WhateverYard"), ("WhateverYard", 63, ⟨"WhateverYard$Ways", "<init>", "()V"⟩, "WhateverYard"), ("WhateverYard", 70, ⟨"WhateverYard$Cutter", "<init>", "()V"⟩, "WhateverYard"), ("WhateverYard$Cloth", 55, ⟨"WhateverYard", "quotient", "(II)I"⟩, "WhateverYard"), ("WhateverYard$Shop", 63, ⟨"WhateverYard", "quotient", "(II)I"⟩, "WhateverYard")]
def x_NW (U : State) : Prop := ∀ q ∈ x_nl, va_Nw (.methodLinkNest q.1 q.2.1 q.2.2.1 q.2.2.2) U
theorem x_NW.warm {s U : State} (hW : s.WarmedH U.vm) (h : x_NW s) : x_NW U := fun q hq => va_Nw.warmM hW (h q hq)
theorem x_NW.same {u U : State} (h : u.vm = U.vm) (hZ : x_NW u) : x_NW U := fun q hq => va_Nw.same rfl h (hZ q hq)
theorem x_nl_in : x_nl.map (fun q => Cond.methodLinkNest q.1 q.2.1 q.2.2.1 q.2.2.2) = [77, 115, 191, 216, 234, 252, 267, 282, 312, 552, 590].filterMap (fun i => lw_tbl[i]?) := by decide +kernel
theorem x_NW.of {s : State} {A : Array Value} (hts : ∀ w ∈ lw_tbl, w.before A s = true) : x_NW s := by
  intro q hq
  have h : Cond.methodLinkNest q.1 q.2.1 q.2.2.1 q.2.2.2 ∈ x_nl.map (fun q => Cond.methodLinkNest q.1 q.2.1 q.2.2.1 q.2.2.2) := List.mem_map.mpr ⟨q, hq, rfl⟩
  rw [x_nl_in] at h
  obtain ⟨i, -, hi⟩ := List.mem_filterMap.mp h
  exact va_Nw.of rfl (hts _ (List.mem_of_getElem? hi))
-- arrayClass words at [94, 943, 944]: ['Jvm.ClassFile.FieldType.int', 'Jvm.ClassFile.FieldType.boolean', 'Jvm.ClassFile.FieldType.long']
theorem x_ac_int : Cond.arrayClass .int ∈ x_tb := x_at_in 94 (by decide +kernel) (by decide +kernel)
theorem x_ac_boolean : Cond.arrayClass .boolean ∈ x_tb := x_at_in 943 (by decide +kernel) (by decide +kernel)
theorem x_ac_long : Cond.arrayClass .long ∈ x_tb := x_at_in 944 (by decide +kernel) (by decide +kernel)
end
section
/-! THE SMALL MACHINE: a plain machine over numbered cells, whose runs are runs of the real one (part 04) -/
def x_j : Value := .retAddr 0
abbrev x_C : Type := (Nat × vp_A) ⊕ (Nat × List Value)
/-- how many cells there are, how many places they have in all, the cells -/
abbrev x_H : Type := Nat × Nat × (Nat → x_C)
/-- place, instruction, length, index in the pool, place of the word -/
abbrev x_Cd : Type := List (Nat × Instr × Nat × Nat × Nat)
/-- name, bytes, locals, what it returns, code -/
abbrev x_M : Type := MethodName × ByteArray × Nat × Option FieldType × x_Cd
abbrev x_K : Type := Nat × List Value × List Value × x_H
abbrev x_A : Type := x_K ⊕ ((Nat × List Value × Nat × List Value × List Value) ⊕ Option Value)
def x_get (h : x_H) (q : Nat) : Option x_C := if q < h.1 then some (h.2.2 q) else none
def x_set (h : x_H) (q : Nat) (c : x_C) : x_H := (h.1, h.2.1, fun j => if j = q then c else h.2.2 j)
def x_new (h : x_H) (w : Nat) (c : x_C) : x_H := (h.1 + 1, h.2.1 + w, fun j => if j = h.1 then c else h.2.2 j)
def x_inb (i : Int32) (n : Nat) : Bool := decide (¬ i < 0) && decide (i.toNatClampNeg < n)
def x_fld (h : x_H) (q ci k : Nat) : Option Value := match x_get h q with
  | some (.inr (c, fs)) => if c = ci then fs[k]? else none
  | _ => none
def x_pfd (h : x_H) (q ci k : Nat) (v : Value) : Option x_H := match x_get h q with
  | some (.inr (c, fs)) => if c = ci ∧ k < fs.length then some (x_set h q (.inr (c, fs.set k v))) else none
  | _ => none
def x_ild (h : x_H) (q t : Nat) (i : Int32) : Option Int32 := match x_get h q with
  | some (.inl (t', n, .inl f)) => if t' = t ∧ x_inb i n = true then some (f i.toNatClampNeg) else none
  | _ => none
def x_ist (h : x_H) (q t : Nat) (i x : Int32) : Option x_H := match x_get h q with
  | some (.inl (t', n, .inl f)) => if t' = t ∧ x_inb i n = true then some (x_set h q (.inl (t', n, .inl (upd f i.toNatClampNeg x)))) else none
  | _ => none
def x_lld (h : x_H) (q : Nat) (i : Int32) : Option Int64 := match x_get h q with
  | some (.inl (t', n, .inr (.inl f))) => if t' = 1 ∧ x_inb i n = true then some (f i.toNatClampNeg) else none
  | _ => none
def x_lst (h : x_H) (q : Nat) (i : Int32) (x : Int64) : Option x_H := match x_get h q with
  | some (.inl (t', n, .inr (.inl f))) => if t' = 1 ∧ x_inb i n = true then some (x_set h q (.inl (t', n, .inr (.inl (vp_updL f i.toNatClampNeg x))))) else none
  | _ => none
def x_len (h : x_H) (q : Nat) : Option Nat := match x_get h q with
  | some (.inl (t, n, f)) => if t < 3 then some n else none
  | _ => none
def x_isa (h : x_H) (q ci : Nat) : Bool := match x_get h q with
  | some (.inr (c, _)) => Nat.beq c ci
  | _ => false
/-- a value may stand in a field -/
def x_fok (t : FieldType) (v : Value) : Bool := match t, v with
  | .int, .int _ => true
  | .boolean, .int b => decide (b &&& 1 = b)
  | .long, .long _ => true
  | .object _, .ref _ => true
  | .array _, .ref _ => true
  | _, _ => false
def x_go (pc : Nat) (ls st : List Value) (h : x_H) : Option x_A := some (.inl (pc, ls, st, h))
def x_tg (pc : Nat) (off : Int) : Nat := ((pc : Int) + off).toNat
def x_kill (ls : List Value) (i : Nat) : List Value := match i with
  | 0 => ls
  | i + 1 => match ls[i]? with
    | some (.long _) => ls.set i x_j
    | some (.double _) => ls.set i x_j
    | _ => ls
def x_st1 (ls : List Value) (i : Nat) (v : Value) : List Value := (x_kill ls i).set i v
def x_st2 (ls : List Value) (i : Nat) (v : Value) : List Value := ((x_kill ls i).set i v).set (i + 1) x_j
def x_ldi (i len pc : Nat) (ls st : List Value) (h : x_H) : Option x_A := match ls[i]? with
  | some (.int x) => x_go (pc + len) ls (.int x :: st) h
  | _ => none
def x_lda (i len pc : Nat) (ls st : List Value) (h : x_H) : Option x_A := match ls[i]? with
  | some (.ref x) => x_go (pc + len) ls (.ref x :: st) h
  | _ => none
def x_ldl (i len pc : Nat) (ls st : List Value) (h : x_H) : Option x_A := match ls[i]? with
  | some (.long x) => x_go (pc + len) ls (.long x :: st) h
  | _ => none
def x_sti (i len pc : Nat) (ls st : List Value) (h : x_H) : Option x_A := match st with
  | .int x :: st => if i < ls.length then x_go (pc + len) (x_st1 ls i (.int x)) st h else none
  | _ => none
def x_sta (i len pc : Nat) (ls st : List Value) (h : x_H) : Option x_A := match st with
  | .ref x :: st => if i < ls.length then x_go (pc + len) (x_st1 ls i (.ref x)) st h else none
  | _ => none
def x_stl (i len pc : Nat) (ls st : List Value) (h : x_H) : Option x_A := match st with
  | .long x :: st => if i + 1 < ls.length then x_go (pc + len) (x_st2 ls i (.long x)) st h else none
  | _ => none
def x_ii (f : Int32 → Int32 → Int32) (len pc : Nat) (ls st : List Value) (h : x_H) : Option x_A := match st with
  | .int y :: .int x :: st => x_go (pc + len) ls (.int (f x y) :: st) h
  | _ => none
def x_ll (f : Int64 → Int64 → Int64) (len pc : Nat) (ls st : List Value) (h : x_H) : Option x_A := match st with
  | .long y :: .long x :: st => x_go (pc + len) ls (.long (f x y) :: st) h
  | _ => none
def x_rcv (h : x_H) (ci : Nat) (v : Option Value) : Bool := match v with
  | some (.ref q) => x_isa h q ci
  | _ => false
def x_isr (v : Option Value) : Bool := match v with
  | some (.ref _) => true
  | _ => false
def x_ex : List Value → List Value
  | [] => []
  | v :: vs => if v.category = 2 then v :: x_j :: x_ex vs else v :: x_ex vs
def x_cn (z : Nat) : Nat := z / 1000 % 100
def x_cok (z : Nat) (st : List Value) (h : x_H) : Bool := Nat.ble (x_cn z) st.length && (Nat.ble (st.drop (x_cn z)).length 4 && (Nat.ble (x_ex (st.take (x_cn z)).reverse).length (z / 100000) && (match z % 10 with
  | 0 => x_rcv h (z / 10 % 100) st[x_cn z - 1]?
  | 3 => x_isr st[x_cn z - 1]?
  | 4 => x_isr st[x_cn z - 1]?
  | _ => true)))
/-- what an instruction does -/
def x_act (i : Instr) (len pc : Nat) (ls st : List Value) (h : x_H) : Option x_A := match i with
  | .iconst n => x_go (pc + len) ls (.int (Int32.ofInt n) :: st) h
  | .bipush n => x_go (pc + len) ls (.int (Int8.ofInt n).toInt32 :: st) h
  | .sipush n => x_go (pc + len) ls (.int (Int16.ofInt n).toInt32 :: st) h
  | .jsr n => x_go (pc + len) ls (.int (Int32.ofInt n) :: st) h
  | .jsr_w n => x_go (pc + len) ls (.int (Int32.ofInt n) :: st) h
  | .lconst n => x_go (pc + len) ls (.long (Int64.ofNat n) :: st) h
  | .goto_w n => x_go (pc + len) ls (.long (Int64.ofInt n) :: st) h
  | .iload_n k => x_ldi k len pc ls st h
  | .iload k => x_ldi k len pc ls st h
  | .aload_n k => x_lda k len pc ls st h
  | .aload k => x_lda k len pc ls st h
  | .lload_n k => x_ldl k len pc ls st h
  | .lload k => x_ldl k len pc ls st h
  | .istore_n k => x_sti k len pc ls st h
  | .istore k => x_sti k len pc ls st h
  | .astore_n k => x_sta k len pc ls st h
  | .lstore k => x_stl k len pc ls st h
  | .lstore_n k => x_stl k len pc ls st h
  | .iinc k n => match ls[k]? with
    | some (.int x) => x_go (pc + len) (x_st1 ls k (.int (x + Int32.ofInt n))) st h
    | _ => none
  | .dup => match st with
    | .ref q :: st => x_go (pc + len) ls (.ref q :: .ref q :: st) h
    | .int x :: st => x_go (pc + len) ls (.int x :: .int x :: st) h
    | _ => none
  | .dup2 => match st with
    | .int x :: .ref q :: st => x_go (pc + len) ls (.int x :: .ref q :: .int x :: .ref q :: st) h
    | _ => none
  | .iadd => x_ii (fun x y => x + y) len pc ls st h
  | .isub => x_ii (fun x y => x - y) len pc ls st h
  | .imul => x_ii (fun x y => x * y) len pc ls st h
  | .iand => x_ii (fun x y => x &&& y) len pc ls st h
  | .ior => x_ii (fun x y => x ||| y) len pc ls st h
  | .ixor => x_ii (fun x y => x ^^^ y) len pc ls st h
  | .ishl => x_ii (fun x y => x <<< (y &&& 31)) len pc ls st h
  | .ishr => x_ii (fun x y => x >>> (y &&& 31)) len pc ls st h
  | .iushr => x_ii (fun x y => (x.toUInt32 >>> (y.toUInt32 &&& Int32.toUInt32 31)).toInt32) len pc ls st h
  | .idiv => match st with
    | .int y :: .int x :: st => if ¬ y = 0 then x_go (pc + len) ls (.int (x / y) :: st) h else none
    | _ => none
  | .irem => match st with
    | .int y :: .int x :: st => if ¬ y = 0 then x_go (pc + len) ls (.int (x - x / y * y) :: st) h else none
    | _ => none
  | .ladd => x_ll (fun x y => x + y) len pc ls st h
  | .lmul => x_ll (fun x y => x * y) len pc ls st h
  | .land => x_ll (fun x y => x &&& y) len pc ls st h
  | .ldiv => match st with
    | .long y :: .long x :: st => if ¬ y = 0 then x_go (pc + len) ls (.long (x / y) :: st) h else none
    | _ => none
  | .lrem => match st with
    | .long y :: .long x :: st => if ¬ y = 0 then x_go (pc + len) ls (.long (x - x / y * y) :: st) h else none
    | _ => none
  | .i2l => match st with
    | .int x :: st => x_go (pc + len) ls (.long x.toInt64 :: st) h
    | _ => none
  | .l2i => match st with
    | .long x :: st => x_go (pc + len) ls (.int x.toInt32 :: st) h
    | _ => none
  | .lcmp => match st with
    | .long y :: .long x :: st => x_go (pc + len) ls (.int (lg_cmp x y) :: st) h
    | _ => none
  | .goto off => x_go (x_tg pc off) ls st h
  | .ifCond c off => match st with
    | .int x :: st => match c with
      | .eq => x_go (if x = 0 then x_tg pc off else pc + len) ls st h
      | .ne => x_go (if x = 0 then pc + len else x_tg pc off) ls st h
      | .lt => x_go (if x < 0 then x_tg pc off else pc + len) ls st h
      | .ge => x_go (if 0 ≤ x then x_tg pc off else pc + len) ls st h
      | .gt => x_go (if 0 < x then x_tg pc off else pc + len) ls st h
      | .le => x_go (if x ≤ 0 then x_tg pc off else pc + len) ls st h
    | _ => none
  | .if_icmp c off => match st with
    | .int y :: .int x :: st => match c with
      | .eq => x_go (if x = y then x_tg pc off else pc + len) ls st h
      | .ne => x_go (if x = y then pc + len else x_tg pc off) ls st h
      | .lt => x_go (if x < y then x_tg pc off else pc + len) ls st h
      | .ge => x_go (if y ≤ x then x_tg pc off else pc + len) ls st h
      | .gt => x_go (if y < x then x_tg pc off else pc + len) ls st h
      | .le => x_go (if x ≤ y then x_tg pc off else pc + len) ls st h
    | _ => none
  | .tableswitch dflt lo hi offs => match st with
    | .int x :: st => if x.toInt < lo ∨ hi < x.toInt then x_go (x_tg pc dflt) ls st h else match offs[(x.toInt - lo).toNat]? with
      | some off => x_go (x_tg pc off) ls st h
      | none => none
    | _ => none
  | .lookupswitch dflt ps => match st with
    | .int x :: st => x_go (x_tg pc (Op.lookupswitch.offset ps.toList dflt x.toInt)) ls st h
    | _ => none
  | .ireturn => match st with
    | [.int v] => some (.inr (.inr (some (.int v))))
    | _ => none
  | .areturn => match st with
    | [.int v] => if v &&& 1 = v then some (.inr (.inr (some (.int v)))) else none
    | _ => none
  | .return_ => match st with
    | [] => some (.inr (.inr none))
    | _ => none
  | .getfield z => match st with
    | .ref q :: st => (x_fld h q (z / 64) (z % 64)).map (fun v => .inl (pc + len, ls, v :: st, h))
    | _ => none
  | .putfield z => match st with
    | v :: .ref q :: st => if x_fok (x_ty (z / 64) (z % 64)) v = true then (x_pfd h q (z / 64) (z % 64) v).map (fun h' => .inl (pc + len, ls, st, h')) else none
    | _ => none
  | .putstatic z => match st with
    | v :: .ref q :: st => if x_fok (x_ty (z / 64) (z % 64)) v = true then (x_pfd h q (z / 64) (z % 64) v).map (fun h' => .inl (pc + len, ls, st, h')) else none
    | _ => none
  | .iaload => match st with
    | .int i :: .ref q :: st => (x_ild h q 0 i).map (fun x => .inl (pc + len, ls, .int x :: st, h))
    | _ => none
  | .baload => match st with
    | .int i :: .ref q :: st => (x_ild h q 2 i).map (fun x => .inl (pc + len, ls, .int x :: st, h))
    | _ => none
  | .laload => match st with
    | .int i :: .ref q :: st => (x_lld h q i).map (fun x => .inl (pc + len, ls, .long x :: st, h))
    | _ => none
  | .iastore => match st with
    | .int x :: .int i :: .ref q :: st => (x_ist h q 0 i x).map (fun h' => .inl (pc + len, ls, st, h'))
    | _ => none
  | .bastore => match st with
    | .int x :: .int i :: .ref q :: st => (x_ist h q 2 i (vp_nar .boolean x)).map (fun h' => .inl (pc + len, ls, st, h'))
    | _ => none
  | .lastore => match st with
    | .long x :: .int i :: .ref q :: st => (x_lst h q i x).map (fun h' => .inl (pc + len, ls, st, h'))
    | _ => none
  | .arraylength => match st with
    | .ref q :: st => (x_len h q).map (fun n => .inl (pc + len, ls, .int (Int32.ofNat n) :: st, h))
    | _ => none
  | .newarray t => match st with
    | .int n :: st => if ¬ n < 0 ∧ n.toNatClampNeg ≤ 100000 then match t with
      | .int => x_go (pc + len) ls (.ref h.1 :: st) (x_new h n.toNatClampNeg (.inl (0, n.toNatClampNeg, .inl (fun _ => 0))))
      | .long => x_go (pc + len) ls (.ref h.1 :: st) (x_new h n.toNatClampNeg (.inl (1, n.toNatClampNeg, .inr (.inl (fun _ => 0)))))
      | .boolean => x_go (pc + len) ls (.ref h.1 :: st) (x_new h n.toNatClampNeg (.inl (2, n.toNatClampNeg, .inl (fun _ => 0))))
      | _ => none
      else none
    | _ => none
  | .new ci => match x_cl[ci]? with
    | some (_, _, N) => x_go (pc + len) ls (.ref h.1 :: st) (x_new h N (.inr (ci, (List.range N).map (fun k => defaultValue (x_ty ci k)))))
    | none => none
  | .invokespecial _ => match st with
    | .ref _ :: st => if Nat.ble st.length 4 = true then x_go (pc + len) ls st h else none
    | _ => none
  | .invokeinterface mi z => if x_cok z st h = true then some (.inr (.inl (mi, (st.take (x_cn z)).reverse, pc + len, ls, st.drop (x_cn z)))) else none
  | _ => none
def x_lk : x_Cd → Nat → Option (Instr × Nat)
  | [], _ => none
  | (p, i, n, _, _) :: r, pc => match Nat.beq p pc with
    | true => some (i, n)
    | false => x_lk r pc
def x_ent (vs : List Value) (n : Nat) : List Value := x_ex vs ++ List.replicate (n - (x_ex vs).length) x_j
/-- n steps, d calls deep -/
def x_ev (P : Nat → x_M) : Nat → Nat → x_Cd → Nat → List Value → List Value → x_H → Option (Option Value × x_H)
  | 0, _, _, _, _, _, _ => none
  | n + 1, d, cd, pc, ls, st, h => match (x_lk cd pc).bind (fun i => x_act i.1 i.2 pc ls st h) with
    | none => none
    | some (.inl k) => x_ev P n d cd k.1 k.2.1 k.2.2.1 k.2.2.2
    | some (.inr (.inl k)) => match d with
      | 0 => none
      | d' + 1 => match x_ev P n d' (P k.1).2.2.2.2 0 (x_ent k.2.1 (P k.1).2.2.1) [] h with
        | none => none
        | some r => x_ev P n (d' + 1) cd k.2.2.1 k.2.2.2.1 (r.1.toList ++ k.2.2.2.2) r.2
    | some (.inr (.inr v)) => some (v, h)
theorem x_ev_mono (P : Nat → x_M) : ∀ (n d : Nat) (cd : x_Cd) (pc : Nat) (ls st : List Value) (h : x_H) (r : Option Value × x_H), x_ev P n d cd pc ls st h = some r → x_ev P (n + 1) d cd pc ls st h = some r := by
  intro n
  induction n with
  | zero => intro d cd pc ls st h r hr; simp [x_ev] at hr
  | succ n ih =>
    intro d cd pc ls st h r hr
    rw [x_ev] at hr ⊢
    generalize (x_lk cd pc).bind (fun i => x_act i.1 i.2 pc ls st h) = o at hr ⊢
    match o, hr with
    | none, hr => simp at hr
    | some (.inl k), hr => exact ih _ _ _ _ _ _ _ hr
    | some (.inr (.inl k)), hr =>
      match d, hr with
      | 0, hr => simp at hr
      | d' + 1, hr =>
        dsimp only at hr ⊢
        cases hc : x_ev P n d' (P k.1).2.2.2.2 0 (x_ent k.2.1 (P k.1).2.2.1) [] h with
        | none => rw [hc] at hr; simp at hr
        | some r1 =>
          rw [hc] at hr
          rw [ih _ _ _ _ _ _ _ hc]
          exact ih _ _ _ _ _ _ _ hr
    | some (.inr (.inr v)), hr => exact hr
theorem x_ev_le (P : Nat → x_M) {n m : Nat} (hm : n ≤ m) {d : Nat} {cd : x_Cd} {pc : Nat} {ls st : List Value} {h : x_H} {r : Option Value × x_H} (hr : x_ev P n d cd pc ls st h = some r) : x_ev P m d cd pc ls st h = some r := by
  induction hm with
  | refl => exact hr
  | step _ ih => exact x_ev_mono P _ _ _ _ _ _ _ _ ih

/-- where the small machine comes to from here, however long it takes -/
noncomputable def x_E (P : Nat → x_M) (d : Nat) (cd : x_Cd) (pc : Nat) (ls st : List Value) (h : x_H) : Option (Option Value × x_H) :=
  @dite _ (∃ (r : Option Value × x_H), ∃ n, x_ev P n d cd pc ls st h = some r) (Classical.propDecidable _) (fun H => some H.choose) (fun _ => none)
theorem x_E_iff {P : Nat → x_M} {d : Nat} {cd : x_Cd} {pc : Nat} {ls st : List Value} {h : x_H} {r : Option Value × x_H} : x_E P d cd pc ls st h = some r ↔ ∃ n, x_ev P n d cd pc ls st h = some r := by
  unfold x_E
  constructor
  · intro hr
    split at hr
    next H =>
      cases hr
      exact H.choose_spec
    next => simp at hr
  · intro ⟨n, hn⟩
    have H : ∃ (r : Option Value × x_H), ∃ n, x_ev P n d cd pc ls st h = some r := ⟨r, n, hn⟩
    rw [dif_pos H]
    obtain ⟨m, hm⟩ := H.choose_spec
    have h1 := x_ev_le P (Nat.le_max_left n m) hn
    have h2 := x_ev_le P (Nat.le_max_right n m) hm
    rw [h1] at h2
    exact h2.symm
/-- a call -/
noncomputable def x_R (P : Nat → x_M) (d mi : Nat) (as : List Value) (h : x_H) : Option (Option Value × x_H) := match d with
  | 0 => none
  | d' + 1 => x_E P d' (P mi).2.2.2.2 0 (x_ent as (P mi).2.2.1) [] h
theorem x_E_eq (P : Nat → x_M) (d : Nat) (cd : x_Cd) (pc : Nat) (ls st : List Value) (h : x_H) : x_E P d cd pc ls st h = match (x_lk cd pc).bind (fun i => x_act i.1 i.2 pc ls st h) with
    | none => none
    | some (.inl k) => x_E P d cd k.1 k.2.1 k.2.2.1 k.2.2.2
    | some (.inr (.inl k)) => (x_R P d k.1 k.2.1 h).bind (fun r => x_E P d cd k.2.2.1 k.2.2.2.1 (r.1.toList ++ k.2.2.2.2) r.2)
    | some (.inr (.inr v)) => some (v, h) := by
  apply Option.ext
  intro r
  rw [x_E_iff]
  have e : (∃ n, x_ev P n d cd pc ls st h = some r) ↔ ∃ n, x_ev P (n + 1) d cd pc ls st h = some r :=
    ⟨fun ⟨n, hn⟩ => ⟨n, x_ev_mono P _ _ _ _ _ _ _ _ hn⟩, fun ⟨n, hn⟩ => ⟨n + 1, hn⟩⟩
  rw [e]
  simp only [x_ev]
  generalize (x_lk cd pc).bind (fun i => x_act i.1 i.2 pc ls st h) = o
  match o with
  | none => simp
  | some (.inl k) => exact x_E_iff.symm
  | some (.inr (.inl k)) =>
    match d with
    | 0 => simp [x_R]
    | d' + 1 =>
      dsimp only [x_R]
      constructor
      · intro ⟨n, hn⟩
        cases hc : x_ev P n d' (P k.1).2.2.2.2 0 (x_ent k.2.1 (P k.1).2.2.1) [] h with
        | none => rw [hc] at hn; simp at hn
        | some r1 =>
          rw [hc] at hn
          rw [x_E_iff.mpr ⟨n, hc⟩]
          exact x_E_iff.mpr ⟨n, hn⟩
      · intro hr
        cases hc : x_E P d' (P k.1).2.2.2.2 0 (x_ent k.2.1 (P k.1).2.2.1) [] h with
        | none => rw [hc] at hr; simp at hr
        | some r1 =>
          rw [hc] at hr
          obtain ⟨n1, h1⟩ := x_E_iff.mp hc
          obtain ⟨n2, h2⟩ := x_E_iff.mp (show x_E P (d' + 1) cd k.2.2.1 k.2.2.2.1 (r1.1.toList ++ k.2.2.2.2) r1.2 = some r from hr)
          refine ⟨max n1 n2, ?_⟩
          rw [x_ev_le P (Nat.le_max_left n1 n2) h1]
          exact x_ev_le P (Nat.le_max_right n1 n2) h2
  | some (.inr (.inr v)) => simp
section XE
variable {P : Nat → x_M} {d : Nat} {cd : x_Cd} {pc len : Nat} {i : Instr} {ls st : List Value} {h : x_H}
theorem x_E_go {k : x_K} (hk : x_lk cd pc = some (i, len)) (ha : x_act i len pc ls st h = some (.inl k)) : x_E P d cd pc ls st h = x_E P d cd k.1 k.2.1 k.2.2.1 k.2.2.2 := by
  rw [x_E_eq, hk]
  show (match x_act i len pc ls st h with | none => none | some (.inl k) => _ | some (.inr (.inl k)) => _ | some (.inr (.inr v)) => _) = _
  rw [ha]
theorem x_E_if {c : Prop} [Decidable c] {a b : Nat} {ls' st' : List Value} {h' : x_H} (hk : x_lk cd pc = some (i, len)) (ha : x_act i len pc ls st h = some (.inl (if c then a else b, ls', st', h'))) : x_E P d cd pc ls st h = if c then x_E P d cd a ls' st' h' else x_E P d cd b ls' st' h' := by
  rw [x_E_go hk ha]
  by_cases hc : c <;> simp [hc]
theorem x_E_opt {α : Type} {o : Option α} {f : α → x_K} (hk : x_lk cd pc = some (i, len)) (ha : x_act i len pc ls st h = o.map (fun x => .inl (f x))) : x_E P d cd pc ls st h = o.bind (fun x => x_E P d cd (f x).1 (f x).2.1 (f x).2.2.1 (f x).2.2.2) := by
  rw [x_E_eq, hk]
  show (match x_act i len pc ls st h with | none => none | some (.inl k) => _ | some (.inr (.inl k)) => _ | some (.inr (.inr v)) => _) = _
  rw [ha]
  cases o <;> rfl
theorem x_E_grd {c : Prop} [Decidable c] {k : x_K} (hk : x_lk cd pc = some (i, len)) (ha : x_act i len pc ls st h = if c then some (.inl k) else none) : x_E P d cd pc ls st h = if c then x_E P d cd k.1 k.2.1 k.2.2.1 k.2.2.2 else none := by
  rw [x_E_eq, hk]
  show (match x_act i len pc ls st h with | none => none | some (.inl k) => _ | some (.inr (.inl k)) => _ | some (.inr (.inr v)) => _) = _
  rw [ha]
  by_cases hc : c <;> simp [hc]
theorem x_E_call {mi pc' : Nat} {as ls' st' : List Value} (hk : x_lk cd pc = some (i, len)) (ha : x_act i len pc ls st h = some (.inr (.inl (mi, as, pc', ls', st')))) : x_E P d cd pc ls st h = (x_R P d mi as h).bind (fun r => x_E P d cd pc' ls' (r.1.toList ++ st') r.2) := by
  rw [x_E_eq, hk]
  show (match x_act i len pc ls st h with | none => none | some (.inl k) => _ | some (.inr (.inl k)) => _ | some (.inr (.inr v)) => _) = _
  rw [ha]
theorem x_E_callv {c : Prop} [Decidable c] {mi pc' : Nat} {as ls' st' : List Value} (hk : x_lk cd pc = some (i, len)) (ha : x_act i len pc ls st h = if c then some (.inr (.inl (mi, as, pc', ls', st'))) else none) : x_E P d cd pc ls st h = if c then (x_R P d mi as h).bind (fun r => x_E P d cd pc' ls' (r.1.toList ++ st') r.2) else none := by
  rw [x_E_eq, hk]
  show (match x_act i len pc ls st h with | none => none | some (.inl k) => _ | some (.inr (.inl k)) => _ | some (.inr (.inr v)) => _) = _
  rw [ha]
  by_cases hc : c <;> simp [hc]
theorem x_E_ret {v : Option Value} (hk : x_lk cd pc = some (i, len)) (ha : x_act i len pc ls st h = some (.inr (.inr v))) : x_E P d cd pc ls st h = some (v, h) := by
  rw [x_E_eq, hk]
  show (match x_act i len pc ls st h with | none => none | some (.inl k) => _ | some (.inr (.inl k)) => _ | some (.inr (.inr v)) => _) = _
  rw [ha]
theorem x_E_retb {c : Prop} [Decidable c] {v : Option Value} (hk : x_lk cd pc = some (i, len)) (ha : x_act i len pc ls st h = if c then some (.inr (.inr v)) else none) : x_E P d cd pc ls st h = if c then some (v, h) else none := by
  rw [x_E_eq, hk]
  show (match x_act i len pc ls st h with | none => none | some (.inl k) => _ | some (.inr (.inl k)) => _ | some (.inr (.inr v)) => _) = _
  rw [ha]
  by_cases hc : c <;> simp [hc]
theorem x_R_eq (d mi : Nat) (as : List Value) (h : x_H) : x_R P (d + 1) mi as h = x_E P d (P mi).2.2.2.2 0 (x_ent as (P mi).2.2.1) [] h := rfl
end XE
end
section
/-! THE SMALL MACHINE'S CELLS IN THE REAL HEAP -/
def x_v (ad : Nat → Nat) (v : Value) : Value := match v with
  | .ref q => .ref (ad q)
  | v => v
def x_e (cA : Nat → ClassId) (ad : Nat → Nat) (c : x_C) : va_E := match c with
  | .inl (t, a) => .inl (cA t, a)
  | .inr (ci, fs) => .inr (ci, fs.map (x_v ad))
def x_W (cA : Nat → ClassId) (ad : Nat → Nat) (h : x_H) : va_W := (List.range h.1).map (fun i => (ad i, x_e cA ad (h.2.2 i)))
def x_tys (cA : Nat → ClassId) : List (ClassId × FieldType) := [(cA 0, .int), (cA 1, .long), (cA 2, .boolean)]
def x_real (v : Value) : Bool := match v with
  | .retAddr _ => false
  | _ => true
def x_lv (ad : Nat → Nat) (ls : List Value) : List (Nat × Value) := (List.range ls.length).filterMap (fun i => (ls[i]?).bind (fun v => if x_real v = true then some (i, x_v ad v) else none))
def x_wv (n : Nat) (v : Value) : Prop := ∀ q, v = .ref q → q < n
def x_wl (n : Nat) (vs : List Value) : Prop := ∀ v ∈ vs, x_wv n v
def x_wh (h : x_H) : Prop := ∀ i, i < h.1 → ∀ ci fs, h.2.2 i = .inr (ci, fs) → x_wl h.1 fs
theorem x_v_int (ad : Nat → Nat) (x : Int32) : x_v ad (.int x) = .int x := rfl
theorem x_v_long (ad : Nat → Nat) (x : Int64) : x_v ad (.long x) = .long x := rfl
theorem x_v_ref (ad : Nat → Nat) (q : Nat) : x_v ad (.ref q) = .ref (ad q) := rfl
theorem x_wv_int (n : Nat) (x : Int32) : x_wv n (.int x) := fun q h => by cases h
theorem x_wv_long (n : Nat) (x : Int64) : x_wv n (.long x) := fun q h => by cases h
theorem x_wv_j (n : Nat) : x_wv n x_j := fun q h => by cases h
theorem x_wl_cons {n : Nat} {v : Value} {vs : List Value} : x_wl n (v :: vs) ↔ x_wv n v ∧ x_wl n vs := by simp [x_wl]
theorem x_wl_nil {n : Nat} : x_wl n [] := by simp [x_wl]
theorem x_wl_app {n : Nat} {a b : List Value} (ha : x_wl n a) (hb : x_wl n b) : x_wl n (a ++ b) := fun v hv => (List.mem_append.mp hv).elim (ha v) (hb v)
theorem x_wv_le {n m : Nat} (h : n ≤ m) {v : Value} (hv : x_wv n v) : x_wv m v := fun q e => Nat.lt_of_lt_of_le (hv q e) h
theorem x_wl_le {n m : Nat} (h : n ≤ m) {vs : List Value} (hv : x_wl n vs) : x_wl m vs := fun v hm => x_wv_le h (hv v hm)
theorem x_wl_set {n : Nat} {vs : List Value} {i : Nat} {v : Value} (h : x_wl n vs) (hv : x_wv n v) : x_wl n (vs.set i v) := fun w hw => by
  rcases List.mem_or_eq_of_mem_set hw with h1 | h1
  · exact h w h1
  · rw [h1]; exact hv
theorem x_wl_kill {n : Nat} {vs : List Value} {i : Nat} (h : x_wl n vs) : x_wl n (x_kill vs i) := by
  unfold x_kill
  split
  · exact h
  · split
    · exact x_wl_set h (x_wv_j n)
    · exact x_wl_set h (x_wv_j n)
    · exact h
theorem x_wl_get {n : Nat} {vs : List Value} {i : Nat} {v : Value} (h : x_wl n vs) (hi : vs[i]? = some v) : x_wv n v := h v (List.mem_of_getElem? hi)
theorem x_v_ext {ad ad' : Nat → Nat} {n : Nat} {v : Value} (hv : x_wv n v) (he : ∀ i, i < n → ad' i = ad i) : x_v ad' v = x_v ad v := by
  cases v <;> try rfl
  show Value.ref _ = Value.ref _
  rw [he _ (hv _ rfl)]
theorem x_vl_ext {ad ad' : Nat → Nat} {n : Nat} {vs : List Value} (hv : x_wl n vs) (he : ∀ i, i < n → ad' i = ad i) : vs.map (x_v ad') = vs.map (x_v ad) := List.map_congr_left fun v hm => x_v_ext (hv v hm) he
theorem x_kill_len (vs : List Value) (i : Nat) : (x_kill vs i).length = vs.length := by
  unfold x_kill
  split
  · rfl
  · split <;> simp
theorem x_st1_len (vs : List Value) (i : Nat) (v : Value) : (x_st1 vs i v).length = vs.length := by simp [x_st1, x_kill_len]
theorem x_st2_len (vs : List Value) (i : Nat) (v : Value) : (x_st2 vs i v).length = vs.length := by simp [x_st2, x_kill_len]
theorem x_wl_st1 {n : Nat} {vs : List Value} {i : Nat} {v : Value} (h : x_wl n vs) (hv : x_wv n v) : x_wl n (x_st1 vs i v) := x_wl_set (x_wl_kill h) hv
theorem x_wl_st2 {n : Nat} {vs : List Value} {i : Nat} {v : Value} (h : x_wl n vs) (hv : x_wv n v) : x_wl n (x_st2 vs i v) := x_wl_set (x_wl_set (x_wl_kill h) hv) (x_wv_j n)
theorem x_v_cat (ad : Nat → Nat) (v : Value) : (x_v ad v).category = v.category := by cases v <;> rfl
/-! the heap as a world of cells -/
theorem x_get_lt {h : x_H} {q : Nat} {c : x_C} (hg : x_get h q = some c) : q < h.1 ∧ h.2.2 q = c := by
  unfold x_get at hg
  split at hg
  · exact ⟨by assumption, Option.some.inj hg⟩
  · cases hg
theorem x_W_at {cA : Nat → ClassId} {ad : Nat → Nat} {h : x_H} {q : Nat} (hq : q < h.1) : (x_W cA ad h)[q]? = some (ad q, x_e cA ad (h.2.2 q)) := by simp [x_W, hq]
theorem x_W_get {cA : Nat → ClassId} {ad : Nat → Nat} {h : x_H} {q : Nat} {c : x_C} (hg : x_get h q = some c) : (x_W cA ad h)[q]? = some (ad q, x_e cA ad c) := by
  obtain ⟨h1, h2⟩ := x_get_lt hg
  rw [x_W_at h1, h2]
theorem x_W_len (cA : Nat → ClassId) (ad : Nat → Nat) (h : x_H) : (x_W cA ad h).length = h.1 := by simp [x_W]
theorem x_W_set {cA : Nat → ClassId} {ad : Nat → Nat} {h : x_H} {q : Nat} {c : x_C} : (x_W cA ad h).set q (ad q, x_e cA ad c) = x_W cA ad (x_set h q c) := by
  apply List.ext_getElem?
  intro i
  rw [List.getElem?_set]
  by_cases hi : q = i
  · subst hi
    rw [if_pos rfl]
    by_cases hl : q < h.1
    · rw [x_W_len, if_pos hl, x_W_at (h := x_set h q c) hl]
      simp [x_set]
    · rw [x_W_len, if_neg hl]
      exact (List.getElem?_eq_none (by rw [x_W_len]; exact Nat.not_lt.mp hl)).symm
  · rw [if_neg hi]
    by_cases hl : i < h.1
    · rw [x_W_at hl, x_W_at (h := x_set h q c) hl]
      simp [x_set, show i ≠ q from fun z => hi z.symm]
    · rw [List.getElem?_eq_none (by rw [x_W_len]; exact Nat.not_lt.mp hl), List.getElem?_eq_none (by rw [x_W_len]; exact Nat.not_lt.mp hl)]
theorem x_e_ext {cA : Nat → ClassId} {ad ad' : Nat → Nat} {n : Nat} {c : x_C} (hw : ∀ ci fs, c = .inr (ci, fs) → x_wl n fs) (he : ∀ i, i < n → ad' i = ad i) : x_e cA ad' c = x_e cA ad c := by
  match c, hw with
  | .inl _, _ => rfl
  | .inr (ci, fs), hw =>
    show Sum.inr _ = Sum.inr _
    rw [x_vl_ext (hw ci fs rfl) he]
theorem x_W_ext {cA : Nat → ClassId} {ad ad' : Nat → Nat} {h : x_H} (hw : x_wh h) (he : ∀ i, i < h.1 → ad' i = ad i) : x_W cA ad' h = x_W cA ad h := by
  unfold x_W
  apply List.map_congr_left
  intro i hi
  have hl := List.mem_range.mp hi
  show (_, _) = (_, _)
  rw [he i hl, x_e_ext (fun ci fs e => hw i hl ci fs e) he]
theorem x_W_push {cA : Nat → ClassId} {ad : Nat → Nat} {h : x_H} {w q : Nat} {c : x_C} (hw : x_wh h) : x_W cA (va_up ad h.1 q) (x_new h w c) = x_W cA ad h ++ [(q, x_e cA (va_up ad h.1 q) c)] := by
  have he : ∀ i, i < h.1 → va_up ad h.1 q i = ad i := fun i hi => if_neg (Nat.ne_of_lt hi)
  rw [← x_W_ext hw he]
  unfold x_W
  show (List.range (h.1 + 1)).map _ = _
  rw [List.range_succ, List.map_append]
  congr 1
  · apply List.map_congr_left
    intro i hi
    have hl := List.mem_range.mp hi
    show (_, _) = (_, _)
    simp [x_new, Nat.ne_of_lt hl]
  · simp [x_new, va_up]
theorem x_wh_set {h : x_H} {q : Nat} {c : x_C} (hw : x_wh h) (hc : ∀ ci fs, c = .inr (ci, fs) → x_wl h.1 fs) : x_wh (x_set h q c) := by
  intro i hi ci fs e
  show x_wl h.1 fs
  by_cases hq : i = q
  · exact hc ci fs (by simpa [x_set, hq] using e)
  · exact hw i hi ci fs (by simpa [x_set, hq] using e)
theorem x_wh_new {h : x_H} {w : Nat} {c : x_C} (hw : x_wh h) (hc : ∀ ci fs, c = .inr (ci, fs) → x_wl (h.1 + 1) fs) : x_wh (x_new h w c) := by
  intro i hi ci fs e
  show x_wl (h.1 + 1) fs
  by_cases hq : i = h.1
  · exact hc ci fs (by simpa [x_new, hq] using e)
  · exact x_wl_le (Nat.le_succ _) (hw i (by have : i < h.1 + 1 := hi; omega) ci fs (by simpa [x_new, hq] using e))
/-! the locals -/
theorem x_lv_mem {ad : Nat → Nat} {ls : List Value} {j : Nat} {u : Value} : (j, u) ∈ x_lv ad ls ↔ ∃ v, ls[j]? = some v ∧ x_real v = true ∧ u = x_v ad v := by
  unfold x_lv
  rw [List.mem_filterMap]
  constructor
  · rintro ⟨i, -, hi⟩
    obtain ⟨v, h1, h2⟩ := Option.bind_eq_some_iff.mp hi
    split at h2
    · cases h2; exact ⟨v, h1, by assumption, rfl⟩
    · cases h2
  · rintro ⟨v, h1, h2, rfl⟩
    exact ⟨j, List.mem_range.mpr (List.getElem?_eq_some_iff.mp h1).1, by simp [h1, h2]⟩
theorem x_lv_at {ad : Nat → Nat} {ls : List Value} {LS : Array Slot} {nL i : Nat} {v : Value} (h : lv_has LS nL (x_lv ad ls)) (hi : ls[i]? = some v) (hr : x_real v = true) : LS[i]? = some (.val (x_v ad v)) := h.2.2 _ (x_lv_mem.mpr ⟨v, hi, hr, rfl⟩)
theorem x_lv_sub {LS : Array Slot} {nL : Nat} {l l' : List (Nat × Value)} (h : lv_has LS nL l) (hs : ∀ q ∈ l', q ∈ l) : lv_has LS nL l' := ⟨h.1, h.2.1, fun q hq => h.2.2 q (hs q hq)⟩
theorem x_kill_at {ls : List Value} {i j : Nat} {v : Value} (h : (x_kill ls i)[j]? = some v) (hr : x_real v = true) : ls[j]? = some v ∧ (j + 1 = i → v.category ≠ 2) := by
  unfold x_kill at h
  split at h
  · exact ⟨h, fun z => by omega⟩
  · rename_i i'
    split at h
    · rw [List.getElem?_set] at h
      split at h
      · split at h
        · cases h; cases hr
        · cases h
      · rename_i hn _
        exact ⟨h, fun z => by omega⟩
    · rw [List.getElem?_set] at h
      split at h
      · split at h
        · cases h; cases hr
        · cases h
      · rename_i hn _
        exact ⟨h, fun z => by omega⟩
    · rename_i h1 h2
      refine ⟨h, fun z hc => ?_⟩
      have hj : j = i' := by omega
      subst hj
      cases v with
      | long x => exact h1 _ h
      | double x => exact h2 _ h
      | _ => cases hc
theorem x_lv_st1 {ad : Nat → Nat} {ls : List Value} {i : Nat} {w : Value} : ∀ q ∈ x_lv ad (x_st1 ls i w), q ∈ (i, x_v ad w) :: (x_lv ad ls).filter (fun q => !(q.1 == i) && !(q.1 + 1 == i && q.2.category == 2)) := by
  intro ⟨j, u⟩ hq
  obtain ⟨v, h1, h2, rfl⟩ := x_lv_mem.mp hq
  unfold x_st1 at h1
  rw [List.getElem?_set] at h1
  split at h1
  · rename_i hij
    subst hij
    split at h1
    · cases h1; exact List.mem_cons_self
    · cases h1
  · rename_i hij
    obtain ⟨g1, g2⟩ := x_kill_at h1 h2
    refine List.mem_cons_of_mem _ (List.mem_filter.mpr ⟨x_lv_mem.mpr ⟨v, g1, h2, rfl⟩, ?_⟩)
    simp only [Bool.and_eq_true, Bool.not_eq_true', beq_eq_false_iff_ne, ne_eq, Bool.and_eq_false_iff, x_v_cat]
    refine ⟨fun z => hij z.symm, ?_⟩
    by_cases hz : j + 1 = i
    · exact Or.inr (g2 hz)
    · exact Or.inl hz
theorem x_lv_st2 {ad : Nat → Nat} {ls : List Value} {i : Nat} {w : Value} : ∀ q ∈ x_lv ad (x_st2 ls i w), q ∈ (i, x_v ad w) :: (x_lv ad ls).filter (fun q => !(q.1 == i) && (!(q.1 == i + 1) && !(q.1 + 1 == i && q.2.category == 2))) := by
  intro ⟨j, u⟩ hq
  obtain ⟨v, h1, h2, rfl⟩ := x_lv_mem.mp hq
  unfold x_st2 at h1
  rw [List.getElem?_set] at h1
  split at h1
  · split at h1
    · cases h1; cases h2
    · cases h1
  · rename_i hij1
    rw [List.getElem?_set] at h1
    split at h1
    · rename_i hij
      subst hij
      split at h1
      · cases h1; exact List.mem_cons_self
      · cases h1
    · rename_i hij
      obtain ⟨g1, g2⟩ := x_kill_at h1 h2
      refine List.mem_cons_of_mem _ (List.mem_filter.mpr ⟨x_lv_mem.mpr ⟨v, g1, h2, rfl⟩, ?_⟩)
      simp only [Bool.and_eq_true, Bool.not_eq_true', beq_eq_false_iff_ne, ne_eq, Bool.and_eq_false_iff, x_v_cat]
      refine ⟨fun z => hij z.symm, fun z => hij1 z.symm, ?_⟩
      by_cases hz : j + 1 = i
      · exact Or.inr (g2 hz)
      · exact Or.inl hz
theorem x_ex_len (ad : Nat → Nat) (as : List Value) : (lg_sl (as.map (x_v ad))).length = (x_ex as).length := by
  induction as with
  | nil => rfl
  | cons v vs ih =>
    by_cases hc : v.category = 2
    · simp [lg_sl, x_ex, x_v_cat, hc] at ih ⊢
      omega
    · simp [lg_sl, x_ex, x_v_cat, hc] at ih ⊢
      omega
theorem x_ex_at (ad : Nat → Nat) (as : List Value) : ∀ (o j : Nat) (v : Value), (x_ex as)[j]? = some v → x_real v = true → (o + j, x_v ad v) ∈ lv_args o (as.map (x_v ad)) := by
  induction as with
  | nil => intro o j v h; simp [x_ex] at h
  | cons a vs ih =>
    intro o j v h hr
    simp only [x_ex] at h
    by_cases hc : a.category = 2
    · rw [if_pos hc] at h
      simp only [List.map_cons, lv_args, x_v_cat, hc, if_true]
      match j, h with
      | 0, h => cases h; exact List.mem_cons_self
      | 1, h => cases h; cases hr
      | j + 2, h =>
        have := ih (o + 2) j v h hr
        rw [show o + (j + 2) = o + 2 + j by omega]
        exact List.mem_cons_of_mem _ this
    · rw [if_neg hc] at h
      simp only [List.map_cons, lv_args, x_v_cat, hc, if_false]
      match j, h with
      | 0, h => cases h; exact List.mem_cons_self
      | j + 1, h =>
        have := ih (o + 1) j v h hr
        rw [show o + (j + 1) = o + 1 + j by omega]
        exact List.mem_cons_of_mem _ this
theorem x_ent_at (ad : Nat → Nat) (as : List Value) (n : Nat) : ∀ q ∈ x_lv ad (x_ent as n), q ∈ lv_args 0 (as.map (x_v ad)) := by
  intro ⟨j, u⟩ hq
  obtain ⟨v, h1, h2, rfl⟩ := x_lv_mem.mp hq
  unfold x_ent at h1
  by_cases hj : j < (x_ex as).length
  · rw [List.getElem?_append_left hj] at h1
    have := x_ex_at ad as 0 j v h1 h2
    rwa [Nat.zero_add] at this
  · rw [List.getElem?_append_right (by omega)] at h1
    have := List.eq_of_mem_replicate (List.mem_of_getElem? h1)
    subst this
    cases h2
theorem x_ent_len (as : List Value) {n : Nat} (h : (x_ex as).length ≤ n) : (x_ent as n).length = n := by
  simp [x_ent]; omega
theorem x_wl_ex {n : Nat} {as : List Value} (h : x_wl n as) : x_wl n (x_ex as) := by
  induction as with
  | nil => exact x_wl_nil
  | cons v vs ih =>
    have h' := x_wl_cons.mp h
    simp only [x_ex]
    split
    · exact x_wl_cons.mpr ⟨h'.1, x_wl_cons.mpr ⟨x_wv_j n, ih h'.2⟩⟩
    · exact x_wl_cons.mpr ⟨h'.1, ih h'.2⟩
theorem x_wl_ent {n : Nat} {as : List Value} (h : x_wl n as) (m : Nat) : x_wl n (x_ent as m) := x_wl_app (x_wl_ex h) (fun v hv => by rw [List.eq_of_mem_replicate hv]; exact x_wv_j n)
end
